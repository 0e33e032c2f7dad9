theorem inTB {w : Cond} (i : Nat) (h : lw_tbl[i]? = some w) (g : goodWord w = true) : w ∈ TB := List.mem_filter.mpr ⟨List.mem_of_getElem? h, g⟩
def wsOK (ws : List Cond) (is : List Nat) : Bool := (ws.length == is.length) && (ws.zip is).all (fun q => decide (lw_tbl[q.2]? = some q.1) && goodWord q.1)
theorem wsOK_spec : ∀ (ws : List Cond) (is : List Nat), wsOK ws is = true → ∀ w ∈ ws, w ∈ TB
  | [], _, _, w, hw => absurd hw List.not_mem_nil
  | a :: ws, [], h, w, hw => by simp [wsOK] at h
  | a :: ws, i :: is, h, w, hw => by
    simp only [wsOK, List.length_cons, List.zip_cons_cons, List.all_cons, Bool.and_eq_true, beq_iff_eq, decide_eq_true_eq] at h
    obtain ⟨h1, ⟨h2, h3⟩, h4⟩ := h
    rcases List.mem_cons.mp hw with e | e
    · subst e; exact inTB i h2 h3
    · exact wsOK_spec ws is (by simp only [wsOK, Bool.and_eq_true, beq_iff_eq]; exact ⟨by omega, h4⟩) w e
abbrev mJ6_bitCount_0f7a4 : Md := (yJ6_bitCount_0f7a4, cJ6_bitCount_0f7a4, 1, (some .int))
abbrev mJ9_max_7cf53 : Md := (yJ9_max_7cf53, cJ9_max_7cf53, 2, (some .int))
abbrev mJ9_min_7cf53 : Md := (yJ9_min_7cf53, cJ9_min_7cf53, 2, (some .int))
abbrev mX0_bestFirst : Md := (yX0_bestFirst, cX0_bestFirst, 6, (some .int))
abbrev mX0_dishInTurn : Md := (yX0_dishInTurn, cX0_dishInTurn, 3, (some .int))
abbrev mX0_draw : Md := (yX0_draw, cX0_draw, 2, (some .int))
abbrev mX0_fewestBits : Md := (yX0_fewestBits, cX0_fewestBits, 4, (some .int))
abbrev mX0_findJoyOfGroups : Md := (yX0_findJoyOfGroups, cX0_findJoyOfGroups, 7, none)
abbrev mX0_fittingLoaths : Md := (yX0_fittingLoaths, cX0_fittingLoaths, 4, (some .int))
abbrev mX0_goRound : Md := (yX0_goRound, cX0_goRound, 4, none)
abbrev mX0_init : Md := (yX0_init, cX0_init, 4, none)
abbrev mX0_joyFrom : Md := (yX0_joyFrom, cX0_joyFrom, 3, (some .int))
abbrev mX0_joyOfEvenings : Md := (yX0_joyOfEvenings, cX0_joyOfEvenings, 8, (some .int))
abbrev mX0_leastUrge : Md := (yX0_leastUrge, cX0_leastUrge, 5, (some .int))
abbrev mX0_mostGiven : Md := (yX0_mostGiven, cX0_mostGiven, 6, (some .int))
abbrev mX0_pleasesAll : Md := (yX0_pleasesAll, cX0_pleasesAll, 5, (some .boolean))
abbrev mX0_roundsTillSettled : Md := (yX0_roundsTillSettled, cX0_roundsTillSettled, 5, (some .int))
abbrev mX0_seatOnwards : Md := (yX0_seatOnwards, cX0_seatOnwards, 3, none)
abbrev mX0_seekContent : Md := (yX0_seekContent, cX0_seekContent, 1, none)
abbrev mX0_setUp : Md := (yX0_setUp, cX0_setUp, 1, none)
abbrev mX0_wouldFit : Md := (yX0_wouldFit, cX0_wouldFit, 4, (some .boolean))
abbrev mX1_init : Md := (yX1_init, cX1_init, 1, none)
abbrev mX1_isOfKind : Md := (yX1_isOfKind, cX1_isOfKind, 2, (some .boolean))
abbrev mX1_sitDown : Md := (yX1_sitDown, cX1_sitDown, 4, none)
abbrev mX2_init : Md := (yX2_init, cX2_init, 3, none)
abbrev mX2_putBack : Md := (yX2_putBack, cX2_putBack, 5, none)
abbrev mX2_take : Md := (yX2_take, cX2_take, 5, none)
abbrev mX3_add : Md := (yX3_add, cX3_add, 4, none)
abbrev mX3_copyFrom : Md := (yX3_copyFrom, cX3_copyFrom, 2, none)
abbrev mX3_init : Md := (yX3_init, cX3_init, 1, none)
abbrev mX4_init : Md := (yX4_init, cX4_init, 1, none)
abbrev mX4_read : Md := (yX4_read, cX4_read, 3, none)
abbrev mX5_firstFault : Md := (yX5_firstFault, cX5_firstFault, 2, (some .int))
abbrev mX5_init : Md := (yX5_init, cX5_init, 1, none)
abbrev mX5_isCard : Md := (yX5_isCard, cX5_isCard, 1, (some .boolean))
abbrev mX5_isGood : Md := (yX5_isGood, cX5_isGood, 4, (some .boolean))
abbrev mX6_behind : Md := (yX6_behind, cX6_behind, 4, (some .int))
abbrev mX6_init : Md := (yX6_init, cX6_init, 2, none)
abbrev mX6_loadWants : Md := (yX6_loadWants, cX6_loadWants, 3, none)
abbrev mX6_saveWants : Md := (yX6_saveWants, cX6_saveWants, 3, none)
abbrev mX7_allContent : Md := (yX7_allContent, cX7_allContent, 4, (some .boolean))
abbrev mX7_canHave : Md := (yX7_canHave, cX7_canHave, 3, (some .boolean))
abbrev mX7_changesMind : Md := (yX7_changesMind, cX7_changesMind, 4, (some .boolean))
abbrev mX7_choice : Md := (yX7_choice, cX7_choice, 6, (some .int))
abbrev mX7_copyFrom : Md := (yX7_copyFrom, cX7_copyFrom, 2, none)
abbrev mX7_give : Md := (yX7_give, cX7_give, 3, none)
abbrev mX7_giveBack : Md := (yX7_giveBack, cX7_giveBack, 3, none)
abbrev mX7_howManyOrdered : Md := (yX7_howManyOrdered, cX7_howManyOrdered, 3, (some .int))
abbrev mX7_init : Md := (yX7_init, cX7_init, 3, none)
abbrev mX7_joyOf : Md := (yX7_joyOf, cX7_joyOf, 2, (some .int))
abbrev mX7_joyOfAll : Md := (yX7_joyOfAll, cX7_joyOfAll, 3, (some .int))
abbrev mX7_press : Md := (yX7_press, cX7_press, 3, none)
abbrev mX7_value : Md := (yX7_value, cX7_value, 6, (some .int))
abbrev mX7_wipe : Md := (yX7_wipe, cX7_wipe, 2, none)
abbrev mX8_about : Md := (yX8_about, cX8_about, 3, (some .int))
abbrev mX8_as : Md := (yX8_as, cX8_as, 3, (some .int))
abbrev mX8_atOnce : Md := (yX8_atOnce, cX8_atOnce, 2, (some .int))
abbrev mX8_begin : Md := (yX8_begin, cX8_begin, 4, (some .int))
abbrev mX8_blank : Md := (yX8_blank, cX8_blank, 2, (some .int))
abbrev mX8_card : Md := (yX8_card, cX8_card, 1, (some .int))
abbrev mX8_clear : Md := (yX8_clear, cX8_clear, 2, (some .int))
abbrev mX8_count : Md := (yX8_count, cX8_count, 2, (some .int))
abbrev mX8_digest : Md := (yX8_digest, cX8_digest, 4, (some .long))
abbrev mX8_dish : Md := (yX8_dish, cX8_dish, 3, (some .int))
abbrev mX8_evening : Md := (yX8_evening, cX8_evening, 4, (some .int))
abbrev mX8_evenings : Md := (yX8_evenings, cX8_evenings, 5, (some .int))
abbrev mX8_fault : Md := (yX8_fault, cX8_fault, 1, (some .int))
abbrev mX8_fewest : Md := (yX8_fewest, cX8_fewest, 3, (some .int))
abbrev mX8_fits : Md := (yX8_fits, cX8_fits, 3, (some .int))
abbrev mX8_forget : Md := (yX8_forget, cX8_forget, 2, (some .int))
abbrev mX8_guest : Md := (yX8_guest, cX8_guest, 3, (some .int))
abbrev mX8_host : Md := (yX8_host, cX8_host, 1, (some .int))
abbrev mX8_image : Md := (yX8_image, cX8_image, 1, (some .int))
abbrev mX8_inTurn : Md := (yX8_inTurn, cX8_inTurn, 3, (some .int))
abbrev mX8_init : Md := (yX8_init, cX8_init, 1, none)
abbrev mX8_isOutside : Md := (yX8_isOutside, cX8_isOutside, 3, (some .boolean))
abbrev mX8_letter : Md := (yX8_letter, cX8_letter, 2, (some .int))
abbrev mX8_minds : Md := (yX8_minds, cX8_minds, 2, (some .int))
abbrev mX8_mixed : Md := (yX8_mixed, cX8_mixed, 4, (some .long))
abbrev mX8_mixedDishes : Md := (yX8_mixedDishes, cX8_mixedDishes, 7, (some .long))
abbrev mX8_mixedGuests : Md := (yX8_mixedGuests, cX8_mixedGuests, 7, (some .long))
abbrev mX8_noCard : Md := (yX8_noCard, cX8_noCard, 1, (some .boolean))
abbrev mX8_noDish : Md := (yX8_noDish, cX8_noDish, 2, (some .boolean))
abbrev mX8_noGuest : Md := (yX8_noGuest, cX8_noGuest, 2, (some .boolean))
abbrev mX8_onlyLoath : Md := (yX8_onlyLoath, cX8_onlyLoath, 2, (some .int))
abbrev mX8_order : Md := (yX8_order, cX8_order, 3, (some .int))
abbrev mX8_purse : Md := (yX8_purse, cX8_purse, 4, (some .int))
abbrev mX8_restore : Md := (yX8_restore, cX8_restore, 1, (some .int))
abbrev mX8_takes : Md := (yX8_takes, cX8_takes, 2, (some .int))
abbrev mX8_urge : Md := (yX8_urge, cX8_urge, 4, (some .int))
abbrev mX8_urges : Md := (yX8_urges, cX8_urges, 4, (some .int))
abbrev mX8_want : Md := (yX8_want, cX8_want, 5, (some .int))
abbrev mX9_about : Md := (yX9_about, cX9_about, 3, (some .int))
abbrev mX9_as : Md := (yX9_as, cX9_as, 5, (some .int))
abbrev mX9_asItIs : Md := (yX9_asItIs, cX9_asItIs, 1, none)
abbrev mX9_atOnce : Md := (yX9_atOnce, cX9_atOnce, 7, (some .int))
abbrev mX9_begin : Md := (yX9_begin, cX9_begin, 3, (some .int))
abbrev mX9_beginOf : Md := (yX9_beginOf, cX9_beginOf, 7, (some .int))
abbrev mX9_bestFor : Md := (yX9_bestFor, cX9_bestFor, 8, (some .int))
abbrev mX9_blank : Md := (yX9_blank, cX9_blank, 2, (some .int))
abbrev mX9_card : Md := (yX9_card, cX9_card, 2, (some .int))
abbrev mX9_clear : Md := (yX9_clear, cX9_clear, 3, (some .int))
abbrev mX9_copy : Md := (yX9_copy, cX9_copy, 3, none)
abbrev mX9_count : Md := (yX9_count, cX9_count, 2, (some .int))
abbrev mX9_countOf : Md := (yX9_countOf, cX9_countOf, 2, (some .int))
abbrev mX9_digest : Md := (yX9_digest, cX9_digest, 3, (some .long))
abbrev mX9_dish : Md := (yX9_dish, cX9_dish, 3, (some .int))
abbrev mX9_draw : Md := (yX9_draw, cX9_draw, 2, (some .int))
abbrev mX9_evening : Md := (yX9_evening, cX9_evening, 4, (some .int))
abbrev mX9_evenings : Md := (yX9_evenings, cX9_evenings, 9, (some .int))
abbrev mX9_fault : Md := (yX9_fault, cX9_fault, 1, (some .int))
abbrev mX9_faultOf : Md := (yX9_faultOf, cX9_faultOf, 2, (some .int))
abbrev mX9_fewest : Md := (yX9_fewest, cX9_fewest, 2, (some .int))
abbrev mX9_fewestOf : Md := (yX9_fewestOf, cX9_fewestOf, 8, (some .int))
abbrev mX9_fits : Md := (yX9_fits, cX9_fits, 4, (some .int))
abbrev mX9_fitsOf : Md := (yX9_fitsOf, cX9_fitsOf, 5, (some .int))
abbrev mX9_forget : Md := (yX9_forget, cX9_forget, 2, (some .int))
abbrev mX9_go : Md := (yX9_go, cX9_go, 4, (some .boolean))
abbrev mX9_guest : Md := (yX9_guest, cX9_guest, 4, (some .int))
abbrev mX9_haveOf : Md := (yX9_haveOf, cX9_haveOf, 5, (some .int))
abbrev mX9_host : Md := (yX9_host, cX9_host, 1, (some .int))
abbrev mX9_hostOf : Md := (yX9_hostOf, cX9_hostOf, 6, (some .int))
abbrev mX9_image : Md := (yX9_image, cX9_image, 1, (some .int))
abbrev mX9_in : Md := (yX9_in, cX9_in, 6, (some .boolean))
abbrev mX9_inTurn : Md := (yX9_inTurn, cX9_inTurn, 3, (some .int))
abbrev mX9_init : Md := (yX9_init, cX9_init, 1, none)
abbrev mX9_isAtOnce : Md := (yX9_isAtOnce, cX9_isAtOnce, 4, (some .boolean))
abbrev mX9_isDish : Md := (yX9_isDish, cX9_isDish, 2, (some .boolean))
abbrev mX9_isGuest : Md := (yX9_isGuest, cX9_isGuest, 2, (some .boolean))
abbrev mX9_joyAll : Md := (yX9_joyAll, cX9_joyAll, 4, (some .int))
abbrev mX9_joyOf : Md := (yX9_joyOf, cX9_joyOf, 3, (some .int))
abbrev mX9_lacks : Md := (yX9_lacks, cX9_lacks, 1, (some .boolean))
abbrev mX9_layInTurn : Md := (yX9_layInTurn, cX9_layInTurn, 4, none)
abbrev mX9_letter : Md := (yX9_letter, cX9_letter, 2, (some .int))
abbrev mX9_mayHave : Md := (yX9_mayHave, cX9_mayHave, 5, (some .boolean))
abbrev mX9_minds : Md := (yX9_minds, cX9_minds, 2, (some .int))
abbrev mX9_mindsOf : Md := (yX9_mindsOf, cX9_mindsOf, 8, (some .int))
abbrev mX9_ones : Md := (yX9_ones, cX9_ones, 3, (some .int))
abbrev mX9_order : Md := (yX9_order, cX9_order, 2, (some .int))
abbrev mX9_orderedMany : Md := (yX9_orderedMany, cX9_orderedMany, 3, (some .int))
abbrev mX9_power : Md := (yX9_power, cX9_power, 4, (some .int))
abbrev mX9_purse : Md := (yX9_purse, cX9_purse, 4, (some .int))
abbrev mX9_restore : Md := (yX9_restore, cX9_restore, 1, (some .int))
abbrev mX9_say : Md := (yX9_say, cX9_say, 3, none)
abbrev mX9_sayGuest : Md := (yX9_sayGuest, cX9_sayGuest, 3, none)
abbrev mX9_swayBy : Md := (yX9_swayBy, cX9_swayBy, 4, (some .int))
abbrev mX9_takes : Md := (yX9_takes, cX9_takes, 2, (some .int))
abbrev mX9_tell : Md := (yX9_tell, cX9_tell, 3, (some .int))
abbrev mX9_tellDish : Md := (yX9_tellDish, cX9_tellDish, 3, (some .int))
abbrev mX9_urge : Md := (yX9_urge, cX9_urge, 4, (some .int))
abbrev mX9_urges : Md := (yX9_urges, cX9_urges, 5, (some .int))
abbrev mX9_valueOf : Md := (yX9_valueOf, cX9_valueOf, 5, (some .int))
abbrev mX9_want : Md := (yX9_want, cX9_want, 5, (some .int))
set_option maxRecDepth 100000 in
theorem cfX0 : CF 0 RX0 TX0 10 tyX0 := ⟨rfl, wsOK_spec _ [255, 257, 259, 261, 263, 265, 267, 269, 271, 273] (by decide +kernel), tyX0_ok, nmX0⟩
set_option maxRecDepth 100000 in
theorem cfX1 : CF 1 RX1 TX1 4 tyX1 := ⟨rfl, wsOK_spec _ [138, 140, 142, 144] (by decide +kernel), tyX1_ok, nmX1⟩
set_option maxRecDepth 100000 in
theorem cfX2 : CF 2 RX2 TX2 6 tyX2 := ⟨rfl, wsOK_spec _ [294, 296, 298, 300, 302, 304] (by decide +kernel), tyX2_ok, nmX2⟩
set_option maxRecDepth 100000 in
theorem cfX3 : CF 3 RX3 TX3 4 tyX3 := ⟨rfl, wsOK_spec _ [223, 225, 227, 229] (by decide +kernel), tyX3_ok, nmX3⟩
set_option maxRecDepth 100000 in
theorem cfX4 : CF 4 RX4 TX4 4 tyX4 := ⟨rfl, wsOK_spec _ [101, 103, 105, 107] (by decide +kernel), tyX4_ok, nmX4⟩
set_option maxRecDepth 100000 in
theorem cfX5 : CF 5 RX5 TX5 2 tyX5 := ⟨rfl, wsOK_spec _ [75, 77] (by decide +kernel), tyX5_ok, nmX5⟩
set_option maxRecDepth 100000 in
theorem cfX6 : CF 6 RX6 TX6 2 tyX6 := ⟨rfl, wsOK_spec _ [157, 159] (by decide +kernel), tyX6_ok, nmX6⟩
set_option maxRecDepth 100000 in
theorem cfX7 : CF 7 RX7 TX7 9 tyX7 := ⟨rfl, wsOK_spec _ [189, 191, 193, 195, 197, 199, 201, 203, 205] (by decide +kernel), tyX7_ok, nmX7⟩
set_option maxRecDepth 100000 in
theorem cfX8 : CF 8 RX8 TX8 9 tyX8 := ⟨rfl, wsOK_spec _ [316, 318, 320, 322, 324, 326, 328, 330, 332] (by decide +kernel), tyX8_ok, nmX8⟩
set_option maxRecDepth 100000 in
theorem cfX9 : CF 9 RX9 TX9 37 tyX9 := ⟨rfl, wsOK_spec _ [745, 747, 749, 751, 753, 755, 757, 759, 761, 763, 765, 767, 769, 771, 773, 775, 777, 779, 781, 783, 785, 787, 789, 791, 793, 795, 797, 799, 801, 803, 805, 807, 809, 811, 813, 815, 817] (by decide +kernel), tyX9_ok, nmX9⟩
theorem iniJ6 : Cond.initialized RJ6 ∈ TB := inTB 53 (by decide +kernel) (by decide +kernel)
theorem iniJ9 : Cond.initialized RJ9 ∈ TB := inTB 52 (by decide +kernel) (by decide +kernel)
theorem iniX0 : Cond.initialized RX0 ∈ TB := inTB 49 (by decide +kernel) (by decide +kernel)
theorem iniX1 : Cond.initialized RX1 ∈ TB := inTB 46 (by decide +kernel) (by decide +kernel)
theorem iniX2 : Cond.initialized RX2 ∈ TB := inTB 50 (by decide +kernel) (by decide +kernel)
theorem iniX3 : Cond.initialized RX3 ∈ TB := inTB 48 (by decide +kernel) (by decide +kernel)
theorem iniX4 : Cond.initialized RX4 ∈ TB := inTB 44 (by decide +kernel) (by decide +kernel)
theorem iniX5 : Cond.initialized RX5 ∈ TB := inTB 43 (by decide +kernel) (by decide +kernel)
theorem iniX6 : Cond.initialized RX6 ∈ TB := inTB 45 (by decide +kernel) (by decide +kernel)
theorem iniX7 : Cond.initialized RX7 ∈ TB := inTB 47 (by decide +kernel) (by decide +kernel)
theorem iniX8 : Cond.initialized RX8 ∈ TB := inTB 42 (by decide +kernel) (by decide +kernel)
theorem iniX9 : Cond.initialized RX9 ∈ TB := inTB 51 (by decide +kernel) (by decide +kernel)
set_option maxRecDepth 100000 in
theorem cd_J6_bitCount_0f7a4 : Cond.code yJ6_bitCount_0f7a4 cJ6_bitCount_0f7a4 1 (some .int) ∈ TB := inTB 565 (by decide +kernel) (by decide +kernel)
set_option maxRecDepth 100000 in
theorem cs_J6_bitCount_0f7a4 {own : String} {idx : Nat} (h : Cond.methodLink own idx yJ6_bitCount_0f7a4 ∈ TB) : CS own idx mJ6_bitCount_0f7a4 1 := ⟨⟨h, inTB 564 (by decide +kernel) (by decide +kernel), iniJ6, cd_J6_bitCount_0f7a4⟩, by decide +kernel, by decide⟩
set_option maxRecDepth 100000 in
theorem cd_J9_max_7cf53 : Cond.code yJ9_max_7cf53 cJ9_max_7cf53 2 (some .int) ∈ TB := inTB 530 (by decide +kernel) (by decide +kernel)
set_option maxRecDepth 100000 in
theorem cs_J9_max_7cf53 {own : String} {idx : Nat} (h : Cond.methodLink own idx yJ9_max_7cf53 ∈ TB) : CS own idx mJ9_max_7cf53 2 := ⟨⟨h, inTB 529 (by decide +kernel) (by decide +kernel), iniJ9, cd_J9_max_7cf53⟩, by decide +kernel, by decide⟩
set_option maxRecDepth 100000 in
theorem cd_J9_min_7cf53 : Cond.code yJ9_min_7cf53 cJ9_min_7cf53 2 (some .int) ∈ TB := inTB 373 (by decide +kernel) (by decide +kernel)
set_option maxRecDepth 100000 in
theorem cs_J9_min_7cf53 {own : String} {idx : Nat} (h : Cond.methodLink own idx yJ9_min_7cf53 ∈ TB) : CS own idx mJ9_min_7cf53 2 := ⟨⟨h, inTB 372 (by decide +kernel) (by decide +kernel), iniJ9, cd_J9_min_7cf53⟩, by decide +kernel, by decide⟩
set_option maxRecDepth 100000 in
theorem cd_X0_bestFirst : Cond.code yX0_bestFirst cX0_bestFirst 6 (some .int) ∈ TB := inTB 500 (by decide +kernel) (by decide +kernel)
set_option maxRecDepth 100000 in
theorem cv_X0_bestFirst {own : String} {idx : Nat} (h : Cond.methodLink own idx yX0_bestFirst ∈ TB) : CV own idx mX0_bestFirst 1 0 := ⟨⟨h, inTB 498 (by decide +kernel) (by decide +kernel), inTB 499 (by decide +kernel) (by decide +kernel), iniX0, cd_X0_bestFirst⟩, rfl, by decide +kernel, by decide⟩
set_option maxRecDepth 100000 in
theorem cd_X0_dishInTurn : Cond.code yX0_dishInTurn cX0_dishInTurn 3 (some .int) ∈ TB := inTB 476 (by decide +kernel) (by decide +kernel)
set_option maxRecDepth 100000 in
theorem cv_X0_dishInTurn {own : String} {idx : Nat} (h : Cond.methodLink own idx yX0_dishInTurn ∈ TB) : CV own idx mX0_dishInTurn 2 0 := ⟨⟨h, inTB 474 (by decide +kernel) (by decide +kernel), inTB 475 (by decide +kernel) (by decide +kernel), iniX0, cd_X0_dishInTurn⟩, rfl, by decide +kernel, by decide⟩
set_option maxRecDepth 100000 in
theorem cd_X0_draw : Cond.code yX0_draw cX0_draw 2 (some .int) ∈ TB := inTB 635 (by decide +kernel) (by decide +kernel)
set_option maxRecDepth 100000 in
theorem cv_X0_draw {own : String} {idx : Nat} (h : Cond.methodLink own idx yX0_draw ∈ TB) : CV own idx mX0_draw 1 0 := ⟨⟨h, inTB 634 (by decide +kernel) (by decide +kernel), inTB 10 (by decide +kernel) (by decide +kernel), iniX0, cd_X0_draw⟩, rfl, by decide +kernel, by decide⟩
set_option maxRecDepth 100000 in
theorem cd_X0_fewestBits : Cond.code yX0_fewestBits cX0_fewestBits 4 (some .int) ∈ TB := inTB 576 (by decide +kernel) (by decide +kernel)
set_option maxRecDepth 100000 in
theorem cv_X0_fewestBits {own : String} {idx : Nat} (h : Cond.methodLink own idx yX0_fewestBits ∈ TB) : CV own idx mX0_fewestBits 0 0 := ⟨⟨h, inTB 574 (by decide +kernel) (by decide +kernel), inTB 575 (by decide +kernel) (by decide +kernel), iniX0, cd_X0_fewestBits⟩, rfl, by decide +kernel, by decide⟩
set_option maxRecDepth 100000 in
theorem cd_X0_findJoyOfGroups : Cond.code yX0_findJoyOfGroups cX0_findJoyOfGroups 7 none ∈ TB := inTB 562 (by decide +kernel) (by decide +kernel)
set_option maxRecDepth 100000 in
theorem cv_X0_findJoyOfGroups {own : String} {idx : Nat} (h : Cond.methodLink own idx yX0_findJoyOfGroups ∈ TB) : CV own idx mX0_findJoyOfGroups 1 0 := ⟨⟨h, inTB 561 (by decide +kernel) (by decide +kernel), inTB 7 (by decide +kernel) (by decide +kernel), iniX0, cd_X0_findJoyOfGroups⟩, rfl, by decide +kernel, by decide⟩
set_option maxRecDepth 100000 in
theorem cd_X0_fittingLoaths : Cond.code yX0_fittingLoaths cX0_fittingLoaths 4 (some .int) ∈ TB := inTB 609 (by decide +kernel) (by decide +kernel)
set_option maxRecDepth 100000 in
theorem cv_X0_fittingLoaths {own : String} {idx : Nat} (h : Cond.methodLink own idx yX0_fittingLoaths ∈ TB) : CV own idx mX0_fittingLoaths 1 0 := ⟨⟨h, inTB 607 (by decide +kernel) (by decide +kernel), inTB 608 (by decide +kernel) (by decide +kernel), iniX0, cd_X0_fittingLoaths⟩, rfl, by decide +kernel, by decide⟩
set_option maxRecDepth 100000 in
theorem cd_X0_goRound : Cond.code yX0_goRound cX0_goRound 4 none ∈ TB := inTB 486 (by decide +kernel) (by decide +kernel)
set_option maxRecDepth 100000 in
theorem cv_X0_goRound {own : String} {idx : Nat} (h : Cond.methodLink own idx yX0_goRound ∈ TB) : CV own idx mX0_goRound 1 0 := ⟨⟨h, inTB 485 (by decide +kernel) (by decide +kernel), inTB 5 (by decide +kernel) (by decide +kernel), iniX0, cd_X0_goRound⟩, rfl, by decide +kernel, by decide⟩
set_option maxRecDepth 100000 in
theorem cd_X0_joyFrom : Cond.code yX0_joyFrom cX0_joyFrom 3 (some .int) ∈ TB := inTB 504 (by decide +kernel) (by decide +kernel)
set_option maxRecDepth 100000 in
theorem cv_X0_joyFrom {own : String} {idx : Nat} (h : Cond.methodLink own idx yX0_joyFrom ∈ TB) : CV own idx mX0_joyFrom 2 0 := ⟨⟨h, inTB 502 (by decide +kernel) (by decide +kernel), inTB 503 (by decide +kernel) (by decide +kernel), iniX0, cd_X0_joyFrom⟩, rfl, by decide +kernel, by decide⟩
set_option maxRecDepth 100000 in
theorem cd_X0_joyOfEvenings : Cond.code yX0_joyOfEvenings cX0_joyOfEvenings 8 (some .int) ∈ TB := inTB 624 (by decide +kernel) (by decide +kernel)
set_option maxRecDepth 100000 in
theorem cv_X0_joyOfEvenings {own : String} {idx : Nat} (h : Cond.methodLink own idx yX0_joyOfEvenings ∈ TB) : CV own idx mX0_joyOfEvenings 2 0 := ⟨⟨h, inTB 622 (by decide +kernel) (by decide +kernel), inTB 623 (by decide +kernel) (by decide +kernel), iniX0, cd_X0_joyOfEvenings⟩, rfl, by decide +kernel, by decide⟩
set_option maxRecDepth 100000 in
theorem cd_X0_leastUrge : Cond.code yX0_leastUrge cX0_leastUrge 5 (some .int) ∈ TB := inTB 589 (by decide +kernel) (by decide +kernel)
set_option maxRecDepth 100000 in
theorem cv_X0_leastUrge {own : String} {idx : Nat} (h : Cond.methodLink own idx yX0_leastUrge ∈ TB) : CV own idx mX0_leastUrge 3 0 := ⟨⟨h, inTB 587 (by decide +kernel) (by decide +kernel), inTB 588 (by decide +kernel) (by decide +kernel), iniX0, cd_X0_leastUrge⟩, rfl, by decide +kernel, by decide⟩
set_option maxRecDepth 100000 in
theorem cd_X0_mostGiven : Cond.code yX0_mostGiven cX0_mostGiven 6 (some .int) ∈ TB := inTB 558 (by decide +kernel) (by decide +kernel)
set_option maxRecDepth 100000 in
theorem cv_X0_mostGiven {own : String} {idx : Nat} (h : Cond.methodLink own idx yX0_mostGiven ∈ TB) : CV own idx mX0_mostGiven 0 0 := ⟨⟨h, inTB 556 (by decide +kernel) (by decide +kernel), inTB 557 (by decide +kernel) (by decide +kernel), iniX0, cd_X0_mostGiven⟩, rfl, by decide +kernel, by decide⟩
set_option maxRecDepth 100000 in
theorem cd_X0_pleasesAll : Cond.code yX0_pleasesAll cX0_pleasesAll 5 (some .boolean) ∈ TB := inTB 580 (by decide +kernel) (by decide +kernel)
set_option maxRecDepth 100000 in
theorem cv_X0_pleasesAll {own : String} {idx : Nat} (h : Cond.methodLink own idx yX0_pleasesAll ∈ TB) : CV own idx mX0_pleasesAll 1 0 := ⟨⟨h, inTB 579 (by decide +kernel) (by decide +kernel), inTB 8 (by decide +kernel) (by decide +kernel), iniX0, cd_X0_pleasesAll⟩, rfl, by decide +kernel, by decide⟩
set_option maxRecDepth 100000 in
theorem cd_X0_roundsTillSettled : Cond.code yX0_roundsTillSettled cX0_roundsTillSettled 5 (some .int) ∈ TB := inTB 543 (by decide +kernel) (by decide +kernel)
set_option maxRecDepth 100000 in
theorem cv_X0_roundsTillSettled {own : String} {idx : Nat} (h : Cond.methodLink own idx yX0_roundsTillSettled ∈ TB) : CV own idx mX0_roundsTillSettled 1 0 := ⟨⟨h, inTB 541 (by decide +kernel) (by decide +kernel), inTB 542 (by decide +kernel) (by decide +kernel), iniX0, cd_X0_roundsTillSettled⟩, rfl, by decide +kernel, by decide⟩
set_option maxRecDepth 100000 in
theorem cd_X0_seatOnwards : Cond.code yX0_seatOnwards cX0_seatOnwards 3 none ∈ TB := inTB 523 (by decide +kernel) (by decide +kernel)
set_option maxRecDepth 100000 in
theorem cv_X0_seatOnwards {own : String} {idx : Nat} (h : Cond.methodLink own idx yX0_seatOnwards ∈ TB) : CV own idx mX0_seatOnwards 1 0 := ⟨⟨h, inTB 522 (by decide +kernel) (by decide +kernel), inTB 6 (by decide +kernel) (by decide +kernel), iniX0, cd_X0_seatOnwards⟩, rfl, by decide +kernel, by decide⟩
set_option maxRecDepth 100000 in
theorem cd_X0_seekContent : Cond.code yX0_seekContent cX0_seekContent 1 none ∈ TB := inTB 519 (by decide +kernel) (by decide +kernel)
set_option maxRecDepth 100000 in
theorem cv_X0_seekContent {own : String} {idx : Nat} (h : Cond.methodLink own idx yX0_seekContent ∈ TB) : CV own idx mX0_seekContent 0 0 := ⟨⟨h, inTB 517 (by decide +kernel) (by decide +kernel), inTB 518 (by decide +kernel) (by decide +kernel), iniX0, cd_X0_seekContent⟩, rfl, by decide +kernel, by decide⟩
set_option maxRecDepth 100000 in
theorem cd_X0_setUp : Cond.code yX0_setUp cX0_setUp 1 none ∈ TB := inTB 480 (by decide +kernel) (by decide +kernel)
set_option maxRecDepth 100000 in
theorem cv_X0_setUp {own : String} {idx : Nat} (h : Cond.methodLink own idx yX0_setUp ∈ TB) : CV own idx mX0_setUp 0 0 := ⟨⟨h, inTB 479 (by decide +kernel) (by decide +kernel), inTB 4 (by decide +kernel) (by decide +kernel), iniX0, cd_X0_setUp⟩, rfl, by decide +kernel, by decide⟩
set_option maxRecDepth 100000 in
theorem cd_X0_wouldFit : Cond.code yX0_wouldFit cX0_wouldFit 4 (some .boolean) ∈ TB := inTB 613 (by decide +kernel) (by decide +kernel)
set_option maxRecDepth 100000 in
theorem cv_X0_wouldFit {own : String} {idx : Nat} (h : Cond.methodLink own idx yX0_wouldFit ∈ TB) : CV own idx mX0_wouldFit 2 0 := ⟨⟨h, inTB 612 (by decide +kernel) (by decide +kernel), inTB 9 (by decide +kernel) (by decide +kernel), iniX0, cd_X0_wouldFit⟩, rfl, by decide +kernel, by decide⟩
set_option maxRecDepth 100000 in
theorem cd_X1_isOfKind : Cond.code yX1_isOfKind cX1_isOfKind 2 (some .boolean) ∈ TB := inTB 423 (by decide +kernel) (by decide +kernel)
set_option maxRecDepth 100000 in
theorem cv_X1_isOfKind {own : String} {idx : Nat} (h : Cond.methodLink own idx yX1_isOfKind ∈ TB) : CV own idx mX1_isOfKind 1 1 := ⟨⟨h, inTB 421 (by decide +kernel) (by decide +kernel), inTB 422 (by decide +kernel) (by decide +kernel), iniX1, cd_X1_isOfKind⟩, rfl, by decide +kernel, by decide⟩
set_option maxRecDepth 100000 in
theorem cd_X1_sitDown : Cond.code yX1_sitDown cX1_sitDown 4 none ∈ TB := inTB 401 (by decide +kernel) (by decide +kernel)
set_option maxRecDepth 100000 in
theorem cv_X1_sitDown {own : String} {idx : Nat} (h : Cond.methodLink own idx yX1_sitDown ∈ TB) : CV own idx mX1_sitDown 2 1 := ⟨⟨h, inTB 399 (by decide +kernel) (by decide +kernel), inTB 400 (by decide +kernel) (by decide +kernel), iniX1, cd_X1_sitDown⟩, rfl, by decide +kernel, by decide⟩
set_option maxRecDepth 100000 in
theorem cd_X2_putBack : Cond.code yX2_putBack cX2_putBack 5 none ∈ TB := inTB 670 (by decide +kernel) (by decide +kernel)
set_option maxRecDepth 100000 in
theorem cv_X2_putBack {own : String} {idx : Nat} (h : Cond.methodLink own idx yX2_putBack ∈ TB) : CV own idx mX2_putBack 3 2 := ⟨⟨h, inTB 668 (by decide +kernel) (by decide +kernel), inTB 669 (by decide +kernel) (by decide +kernel), iniX2, cd_X2_putBack⟩, rfl, by decide +kernel, by decide⟩
set_option maxRecDepth 100000 in
theorem cd_X2_take : Cond.code yX2_take cX2_take 5 none ∈ TB := inTB 651 (by decide +kernel) (by decide +kernel)
set_option maxRecDepth 100000 in
theorem cv_X2_take {own : String} {idx : Nat} (h : Cond.methodLink own idx yX2_take ∈ TB) : CV own idx mX2_take 3 2 := ⟨⟨h, inTB 649 (by decide +kernel) (by decide +kernel), inTB 650 (by decide +kernel) (by decide +kernel), iniX2, cd_X2_take⟩, rfl, by decide +kernel, by decide⟩
set_option maxRecDepth 100000 in
theorem cd_X3_add : Cond.code yX3_add cX3_add 4 none ∈ TB := inTB 597 (by decide +kernel) (by decide +kernel)
set_option maxRecDepth 100000 in
theorem cv_X3_add {own : String} {idx : Nat} (h : Cond.methodLink own idx yX3_add ∈ TB) : CV own idx mX3_add 3 3 := ⟨⟨h, inTB 595 (by decide +kernel) (by decide +kernel), inTB 596 (by decide +kernel) (by decide +kernel), iniX3, cd_X3_add⟩, rfl, by decide +kernel, by decide⟩
set_option maxRecDepth 100000 in
theorem cd_X3_copyFrom : Cond.code yX3_copyFrom cX3_copyFrom 2 none ∈ TB := inTB 660 (by decide +kernel) (by decide +kernel)
set_option maxRecDepth 100000 in
theorem cv_X3_copyFrom {own : String} {idx : Nat} (h : Cond.methodLink own idx yX3_copyFrom ∈ TB) : CV own idx mX3_copyFrom 1 3 := ⟨⟨h, inTB 658 (by decide +kernel) (by decide +kernel), inTB 659 (by decide +kernel) (by decide +kernel), iniX3, cd_X3_copyFrom⟩, rfl, by decide +kernel, by decide⟩
set_option maxRecDepth 100000 in
theorem cd_X4_read : Cond.code yX4_read cX4_read 3 none ∈ TB := inTB 370 (by decide +kernel) (by decide +kernel)
set_option maxRecDepth 100000 in
theorem cv_X4_read {own : String} {idx : Nat} (h : Cond.methodLink own idx yX4_read ∈ TB) : CV own idx mX4_read 1 4 := ⟨⟨h, inTB 368 (by decide +kernel) (by decide +kernel), inTB 369 (by decide +kernel) (by decide +kernel), iniX4, cd_X4_read⟩, rfl, by decide +kernel, by decide⟩
set_option maxRecDepth 100000 in
theorem cd_X5_firstFault : Cond.code yX5_firstFault cX5_firstFault 2 (some .int) ∈ TB := inTB 353 (by decide +kernel) (by decide +kernel)
set_option maxRecDepth 100000 in
theorem cv_X5_firstFault {own : String} {idx : Nat} (h : Cond.methodLink own idx yX5_firstFault ∈ TB) : CV own idx mX5_firstFault 0 5 := ⟨⟨h, inTB 351 (by decide +kernel) (by decide +kernel), inTB 352 (by decide +kernel) (by decide +kernel), iniX5, cd_X5_firstFault⟩, rfl, by decide +kernel, by decide⟩
set_option maxRecDepth 100000 in
theorem cd_X5_isCard : Cond.code yX5_isCard cX5_isCard 1 (some .boolean) ∈ TB := inTB 365 (by decide +kernel) (by decide +kernel)
set_option maxRecDepth 100000 in
theorem cv_X5_isCard {own : String} {idx : Nat} (h : Cond.methodLink own idx yX5_isCard ∈ TB) : CV own idx mX5_isCard 0 5 := ⟨⟨h, inTB 363 (by decide +kernel) (by decide +kernel), inTB 364 (by decide +kernel) (by decide +kernel), iniX5, cd_X5_isCard⟩, rfl, by decide +kernel, by decide⟩
set_option maxRecDepth 100000 in
theorem cd_X5_isGood : Cond.code yX5_isGood cX5_isGood 4 (some .boolean) ∈ TB := inTB 357 (by decide +kernel) (by decide +kernel)
set_option maxRecDepth 100000 in
theorem cv_X5_isGood {own : String} {idx : Nat} (h : Cond.methodLink own idx yX5_isGood ∈ TB) : CV own idx mX5_isGood 1 5 := ⟨⟨h, inTB 356 (by decide +kernel) (by decide +kernel), inTB 0 (by decide +kernel) (by decide +kernel), iniX5, cd_X5_isGood⟩, rfl, by decide +kernel, by decide⟩
set_option maxRecDepth 100000 in
theorem cd_X6_behind : Cond.code yX6_behind cX6_behind 4 (some .int) ∈ TB := inTB 490 (by decide +kernel) (by decide +kernel)
set_option maxRecDepth 100000 in
theorem cv_X6_behind {own : String} {idx : Nat} (h : Cond.methodLink own idx yX6_behind ∈ TB) : CV own idx mX6_behind 2 6 := ⟨⟨h, inTB 488 (by decide +kernel) (by decide +kernel), inTB 489 (by decide +kernel) (by decide +kernel), iniX6, cd_X6_behind⟩, rfl, by decide +kernel, by decide⟩
set_option maxRecDepth 100000 in
theorem cd_X6_loadWants : Cond.code yX6_loadWants cX6_loadWants 3 none ∈ TB := inTB 643 (by decide +kernel) (by decide +kernel)
set_option maxRecDepth 100000 in
theorem cv_X6_loadWants {own : String} {idx : Nat} (h : Cond.methodLink own idx yX6_loadWants ∈ TB) : CV own idx mX6_loadWants 1 6 := ⟨⟨h, inTB 641 (by decide +kernel) (by decide +kernel), inTB 642 (by decide +kernel) (by decide +kernel), iniX6, cd_X6_loadWants⟩, rfl, by decide +kernel, by decide⟩
set_option maxRecDepth 100000 in
theorem cd_X6_saveWants : Cond.code yX6_saveWants cX6_saveWants 3 none ∈ TB := inTB 628 (by decide +kernel) (by decide +kernel)
set_option maxRecDepth 100000 in
theorem cv_X6_saveWants {own : String} {idx : Nat} (h : Cond.methodLink own idx yX6_saveWants ∈ TB) : CV own idx mX6_saveWants 1 6 := ⟨⟨h, inTB 626 (by decide +kernel) (by decide +kernel), inTB 627 (by decide +kernel) (by decide +kernel), iniX6, cd_X6_saveWants⟩, rfl, by decide +kernel, by decide⟩
set_option maxRecDepth 100000 in
theorem cd_X7_allContent : Cond.code yX7_allContent cX7_allContent 4 (some .boolean) ∈ TB := inTB 527 (by decide +kernel) (by decide +kernel)
set_option maxRecDepth 100000 in
theorem cv_X7_allContent {own : String} {idx : Nat} (h : Cond.methodLink own idx yX7_allContent ∈ TB) : CV own idx mX7_allContent 0 7 := ⟨⟨h, inTB 525 (by decide +kernel) (by decide +kernel), inTB 526 (by decide +kernel) (by decide +kernel), iniX7, cd_X7_allContent⟩, rfl, by decide +kernel, by decide⟩
set_option maxRecDepth 100000 in
theorem cd_X7_canHave : Cond.code yX7_canHave cX7_canHave 3 (some .boolean) ∈ TB := inTB 447 (by decide +kernel) (by decide +kernel)
set_option maxRecDepth 100000 in
theorem cv_X7_canHave {own : String} {idx : Nat} (h : Cond.methodLink own idx yX7_canHave ∈ TB) : CV own idx mX7_canHave 2 7 := ⟨⟨h, inTB 445 (by decide +kernel) (by decide +kernel), inTB 446 (by decide +kernel) (by decide +kernel), iniX7, cd_X7_canHave⟩, rfl, by decide +kernel, by decide⟩
set_option maxRecDepth 100000 in
theorem cd_X7_changesMind : Cond.code yX7_changesMind cX7_changesMind 4 (some .boolean) ∈ TB := inTB 547 (by decide +kernel) (by decide +kernel)
set_option maxRecDepth 100000 in
theorem cv_X7_changesMind {own : String} {idx : Nat} (h : Cond.methodLink own idx yX7_changesMind ∈ TB) : CV own idx mX7_changesMind 1 7 := ⟨⟨h, inTB 545 (by decide +kernel) (by decide +kernel), inTB 546 (by decide +kernel) (by decide +kernel), iniX7, cd_X7_changesMind⟩, rfl, by decide +kernel, by decide⟩
set_option maxRecDepth 100000 in
theorem cd_X7_choice : Cond.code yX7_choice cX7_choice 6 (some .int) ∈ TB := inTB 443 (by decide +kernel) (by decide +kernel)
set_option maxRecDepth 100000 in
theorem cv_X7_choice {own : String} {idx : Nat} (h : Cond.methodLink own idx yX7_choice ∈ TB) : CV own idx mX7_choice 1 7 := ⟨⟨h, inTB 441 (by decide +kernel) (by decide +kernel), inTB 442 (by decide +kernel) (by decide +kernel), iniX7, cd_X7_choice⟩, rfl, by decide +kernel, by decide⟩
set_option maxRecDepth 100000 in
theorem cd_X7_copyFrom : Cond.code yX7_copyFrom cX7_copyFrom 2 none ∈ TB := inTB 655 (by decide +kernel) (by decide +kernel)
set_option maxRecDepth 100000 in
theorem cv_X7_copyFrom {own : String} {idx : Nat} (h : Cond.methodLink own idx yX7_copyFrom ∈ TB) : CV own idx mX7_copyFrom 1 7 := ⟨⟨h, inTB 653 (by decide +kernel) (by decide +kernel), inTB 654 (by decide +kernel) (by decide +kernel), iniX7, cd_X7_copyFrom⟩, rfl, by decide +kernel, by decide⟩
set_option maxRecDepth 100000 in
theorem cd_X7_give : Cond.code yX7_give cX7_give 3 none ∈ TB := inTB 460 (by decide +kernel) (by decide +kernel)
set_option maxRecDepth 100000 in
theorem cv_X7_give {own : String} {idx : Nat} (h : Cond.methodLink own idx yX7_give ∈ TB) : CV own idx mX7_give 2 7 := ⟨⟨h, inTB 458 (by decide +kernel) (by decide +kernel), inTB 459 (by decide +kernel) (by decide +kernel), iniX7, cd_X7_give⟩, rfl, by decide +kernel, by decide⟩
set_option maxRecDepth 100000 in
theorem cd_X7_giveBack : Cond.code yX7_giveBack cX7_giveBack 3 none ∈ TB := inTB 535 (by decide +kernel) (by decide +kernel)
set_option maxRecDepth 100000 in
theorem cv_X7_giveBack {own : String} {idx : Nat} (h : Cond.methodLink own idx yX7_giveBack ∈ TB) : CV own idx mX7_giveBack 1 7 := ⟨⟨h, inTB 533 (by decide +kernel) (by decide +kernel), inTB 534 (by decide +kernel) (by decide +kernel), iniX7, cd_X7_giveBack⟩, rfl, by decide +kernel, by decide⟩
set_option maxRecDepth 100000 in
theorem cd_X7_howManyOrdered : Cond.code yX7_howManyOrdered cX7_howManyOrdered 3 (some .int) ∈ TB := inTB 468 (by decide +kernel) (by decide +kernel)
set_option maxRecDepth 100000 in
theorem cv_X7_howManyOrdered {own : String} {idx : Nat} (h : Cond.methodLink own idx yX7_howManyOrdered ∈ TB) : CV own idx mX7_howManyOrdered 0 7 := ⟨⟨h, inTB 466 (by decide +kernel) (by decide +kernel), inTB 467 (by decide +kernel) (by decide +kernel), iniX7, cd_X7_howManyOrdered⟩, rfl, by decide +kernel, by decide⟩
set_option maxRecDepth 100000 in
theorem cd_X7_joyOf : Cond.code yX7_joyOf cX7_joyOf 2 (some .int) ∈ TB := inTB 415 (by decide +kernel) (by decide +kernel)
set_option maxRecDepth 100000 in
theorem cv_X7_joyOf {own : String} {idx : Nat} (h : Cond.methodLink own idx yX7_joyOf ∈ TB) : CV own idx mX7_joyOf 1 7 := ⟨⟨h, inTB 413 (by decide +kernel) (by decide +kernel), inTB 414 (by decide +kernel) (by decide +kernel), iniX7, cd_X7_joyOf⟩, rfl, by decide +kernel, by decide⟩
set_option maxRecDepth 100000 in
theorem cd_X7_joyOfAll : Cond.code yX7_joyOfAll cX7_joyOfAll 3 (some .int) ∈ TB := inTB 508 (by decide +kernel) (by decide +kernel)
set_option maxRecDepth 100000 in
theorem cv_X7_joyOfAll {own : String} {idx : Nat} (h : Cond.methodLink own idx yX7_joyOfAll ∈ TB) : CV own idx mX7_joyOfAll 0 7 := ⟨⟨h, inTB 506 (by decide +kernel) (by decide +kernel), inTB 507 (by decide +kernel) (by decide +kernel), iniX7, cd_X7_joyOfAll⟩, rfl, by decide +kernel, by decide⟩
set_option maxRecDepth 100000 in
theorem cd_X7_press : Cond.code yX7_press cX7_press 3 none ∈ TB := inTB 377 (by decide +kernel) (by decide +kernel)
set_option maxRecDepth 100000 in
theorem cv_X7_press {own : String} {idx : Nat} (h : Cond.methodLink own idx yX7_press ∈ TB) : CV own idx mX7_press 2 7 := ⟨⟨h, inTB 375 (by decide +kernel) (by decide +kernel), inTB 376 (by decide +kernel) (by decide +kernel), iniX7, cd_X7_press⟩, rfl, by decide +kernel, by decide⟩
set_option maxRecDepth 100000 in
theorem cd_X7_value : Cond.code yX7_value cX7_value 6 (some .int) ∈ TB := inTB 451 (by decide +kernel) (by decide +kernel)
set_option maxRecDepth 100000 in
theorem cv_X7_value {own : String} {idx : Nat} (h : Cond.methodLink own idx yX7_value ∈ TB) : CV own idx mX7_value 2 7 := ⟨⟨h, inTB 449 (by decide +kernel) (by decide +kernel), inTB 450 (by decide +kernel) (by decide +kernel), iniX7, cd_X7_value⟩, rfl, by decide +kernel, by decide⟩
set_option maxRecDepth 100000 in
theorem cd_X7_wipe : Cond.code yX7_wipe cX7_wipe 2 none ∈ TB := inTB 381 (by decide +kernel) (by decide +kernel)
set_option maxRecDepth 100000 in
theorem cv_X7_wipe {own : String} {idx : Nat} (h : Cond.methodLink own idx yX7_wipe ∈ TB) : CV own idx mX7_wipe 0 7 := ⟨⟨h, inTB 379 (by decide +kernel) (by decide +kernel), inTB 380 (by decide +kernel) (by decide +kernel), iniX7, cd_X7_wipe⟩, rfl, by decide +kernel, by decide⟩
set_option maxRecDepth 100000 in
theorem cd_X8_about : Cond.code yX8_about cX8_about 3 (some .int) ∈ TB := inTB 407 (by decide +kernel) (by decide +kernel)
set_option maxRecDepth 100000 in
theorem cv_X8_about {own : String} {idx : Nat} (h : Cond.methodLink own idx yX8_about ∈ TB) : CV own idx mX8_about 2 8 := ⟨⟨h, inTB 405 (by decide +kernel) (by decide +kernel), inTB 406 (by decide +kernel) (by decide +kernel), iniX8, cd_X8_about⟩, rfl, by decide +kernel, by decide⟩
set_option maxRecDepth 100000 in
theorem cd_X8_as : Cond.code yX8_as cX8_as 3 (some .int) ∈ TB := inTB 419 (by decide +kernel) (by decide +kernel)
set_option maxRecDepth 100000 in
theorem cv_X8_as {own : String} {idx : Nat} (h : Cond.methodLink own idx yX8_as ∈ TB) : CV own idx mX8_as 2 8 := ⟨⟨h, inTB 417 (by decide +kernel) (by decide +kernel), inTB 418 (by decide +kernel) (by decide +kernel), iniX8, cd_X8_as⟩, rfl, by decide +kernel, by decide⟩
set_option maxRecDepth 100000 in
theorem cd_X8_atOnce : Cond.code yX8_atOnce cX8_atOnce 2 (some .int) ∈ TB := inTB 515 (by decide +kernel) (by decide +kernel)
set_option maxRecDepth 100000 in
theorem cv_X8_atOnce {own : String} {idx : Nat} (h : Cond.methodLink own idx yX8_atOnce ∈ TB) : CV own idx mX8_atOnce 1 8 := ⟨⟨h, inTB 513 (by decide +kernel) (by decide +kernel), inTB 514 (by decide +kernel) (by decide +kernel), iniX8, cd_X8_atOnce⟩, rfl, by decide +kernel, by decide⟩
set_option maxRecDepth 100000 in
theorem cd_X8_begin : Cond.code yX8_begin cX8_begin 4 (some .int) ∈ TB := inTB 496 (by decide +kernel) (by decide +kernel)
set_option maxRecDepth 100000 in
theorem cv_X8_begin {own : String} {idx : Nat} (h : Cond.methodLink own idx yX8_begin ∈ TB) : CV own idx mX8_begin 2 8 := ⟨⟨h, inTB 494 (by decide +kernel) (by decide +kernel), inTB 495 (by decide +kernel) (by decide +kernel), iniX8, cd_X8_begin⟩, rfl, by decide +kernel, by decide⟩
set_option maxRecDepth 100000 in
theorem cd_X8_blank : Cond.code yX8_blank cX8_blank 2 (some .int) ∈ TB := inTB 345 (by decide +kernel) (by decide +kernel)
set_option maxRecDepth 100000 in
theorem cv_X8_blank {own : String} {idx : Nat} (h : Cond.methodLink own idx yX8_blank ∈ TB) : CV own idx mX8_blank 0 8 := ⟨⟨h, inTB 343 (by decide +kernel) (by decide +kernel), inTB 344 (by decide +kernel) (by decide +kernel), iniX8, cd_X8_blank⟩, rfl, by decide +kernel, by decide⟩
set_option maxRecDepth 100000 in
theorem cd_X8_card : Cond.code yX8_card cX8_card 1 (some .int) ∈ TB := inTB 361 (by decide +kernel) (by decide +kernel)
set_option maxRecDepth 100000 in
theorem cv_X8_card {own : String} {idx : Nat} (h : Cond.methodLink own idx yX8_card ∈ TB) : CV own idx mX8_card 0 8 := ⟨⟨h, inTB 359 (by decide +kernel) (by decide +kernel), inTB 360 (by decide +kernel) (by decide +kernel), iniX8, cd_X8_card⟩, rfl, by decide +kernel, by decide⟩
set_option maxRecDepth 100000 in
theorem cd_X8_clear : Cond.code yX8_clear cX8_clear 2 (some .int) ∈ TB := inTB 464 (by decide +kernel) (by decide +kernel)
set_option maxRecDepth 100000 in
theorem cv_X8_clear {own : String} {idx : Nat} (h : Cond.methodLink own idx yX8_clear ∈ TB) : CV own idx mX8_clear 0 8 := ⟨⟨h, inTB 462 (by decide +kernel) (by decide +kernel), inTB 463 (by decide +kernel) (by decide +kernel), iniX8, cd_X8_clear⟩, rfl, by decide +kernel, by decide⟩
set_option maxRecDepth 100000 in
theorem cd_X8_count : Cond.code yX8_count cX8_count 2 (some .int) ∈ TB := inTB 675 (by decide +kernel) (by decide +kernel)
set_option maxRecDepth 100000 in
theorem cv_X8_count {own : String} {idx : Nat} (h : Cond.methodLink own idx yX8_count ∈ TB) : CV own idx mX8_count 1 8 := ⟨⟨h, inTB 673 (by decide +kernel) (by decide +kernel), inTB 674 (by decide +kernel) (by decide +kernel), iniX8, cd_X8_count⟩, rfl, by decide +kernel, by decide⟩
set_option maxRecDepth 100000 in
theorem cd_X8_digest : Cond.code yX8_digest cX8_digest 4 (some .long) ∈ TB := inTB 680 (by decide +kernel) (by decide +kernel)
set_option maxRecDepth 100000 in
theorem cv_X8_digest {own : String} {idx : Nat} (h : Cond.methodLink own idx yX8_digest ∈ TB) : CV own idx mX8_digest 0 8 := ⟨⟨h, inTB 678 (by decide +kernel) (by decide +kernel), inTB 679 (by decide +kernel) (by decide +kernel), iniX8, cd_X8_digest⟩, rfl, by decide +kernel, by decide⟩
set_option maxRecDepth 100000 in
theorem cd_X8_dish : Cond.code yX8_dish cX8_dish 3 (some .int) ∈ TB := inTB 385 (by decide +kernel) (by decide +kernel)
set_option maxRecDepth 100000 in
theorem cv_X8_dish {own : String} {idx : Nat} (h : Cond.methodLink own idx yX8_dish ∈ TB) : CV own idx mX8_dish 2 8 := ⟨⟨h, inTB 383 (by decide +kernel) (by decide +kernel), inTB 384 (by decide +kernel) (by decide +kernel), iniX8, cd_X8_dish⟩, rfl, by decide +kernel, by decide⟩
set_option maxRecDepth 100000 in
theorem cd_X8_evening : Cond.code yX8_evening cX8_evening 4 (some .int) ∈ TB := inTB 593 (by decide +kernel) (by decide +kernel)
set_option maxRecDepth 100000 in
theorem cv_X8_evening {own : String} {idx : Nat} (h : Cond.methodLink own idx yX8_evening ∈ TB) : CV own idx mX8_evening 3 8 := ⟨⟨h, inTB 591 (by decide +kernel) (by decide +kernel), inTB 592 (by decide +kernel) (by decide +kernel), iniX8, cd_X8_evening⟩, rfl, by decide +kernel, by decide⟩
set_option maxRecDepth 100000 in
theorem cd_X8_evenings : Cond.code yX8_evenings cX8_evenings 5 (some .int) ∈ TB := inTB 620 (by decide +kernel) (by decide +kernel)
set_option maxRecDepth 100000 in
theorem cv_X8_evenings {own : String} {idx : Nat} (h : Cond.methodLink own idx yX8_evenings ∈ TB) : CV own idx mX8_evenings 3 8 := ⟨⟨h, inTB 618 (by decide +kernel) (by decide +kernel), inTB 619 (by decide +kernel) (by decide +kernel), iniX8, cd_X8_evenings⟩, rfl, by decide +kernel, by decide⟩
set_option maxRecDepth 100000 in
theorem cd_X8_fault : Cond.code yX8_fault cX8_fault 1 (some .int) ∈ TB := inTB 349 (by decide +kernel) (by decide +kernel)
set_option maxRecDepth 100000 in
theorem cv_X8_fault {own : String} {idx : Nat} (h : Cond.methodLink own idx yX8_fault ∈ TB) : CV own idx mX8_fault 0 8 := ⟨⟨h, inTB 347 (by decide +kernel) (by decide +kernel), inTB 348 (by decide +kernel) (by decide +kernel), iniX8, cd_X8_fault⟩, rfl, by decide +kernel, by decide⟩
set_option maxRecDepth 100000 in
theorem cd_X8_fewest : Cond.code yX8_fewest cX8_fewest 3 (some .int) ∈ TB := inTB 572 (by decide +kernel) (by decide +kernel)
set_option maxRecDepth 100000 in
theorem cv_X8_fewest {own : String} {idx : Nat} (h : Cond.methodLink own idx yX8_fewest ∈ TB) : CV own idx mX8_fewest 1 8 := ⟨⟨h, inTB 570 (by decide +kernel) (by decide +kernel), inTB 571 (by decide +kernel) (by decide +kernel), iniX8, cd_X8_fewest⟩, rfl, by decide +kernel, by decide⟩
set_option maxRecDepth 100000 in
theorem cd_X8_fits : Cond.code yX8_fits cX8_fits 3 (some .int) ∈ TB := inTB 605 (by decide +kernel) (by decide +kernel)
set_option maxRecDepth 100000 in
theorem cv_X8_fits {own : String} {idx : Nat} (h : Cond.methodLink own idx yX8_fits ∈ TB) : CV own idx mX8_fits 1 8 := ⟨⟨h, inTB 603 (by decide +kernel) (by decide +kernel), inTB 604 (by decide +kernel) (by decide +kernel), iniX8, cd_X8_fits⟩, rfl, by decide +kernel, by decide⟩
set_option maxRecDepth 100000 in
theorem cd_X8_forget : Cond.code yX8_forget cX8_forget 2 (some .int) ∈ TB := inTB 601 (by decide +kernel) (by decide +kernel)
set_option maxRecDepth 100000 in
theorem cv_X8_forget {own : String} {idx : Nat} (h : Cond.methodLink own idx yX8_forget ∈ TB) : CV own idx mX8_forget 0 8 := ⟨⟨h, inTB 599 (by decide +kernel) (by decide +kernel), inTB 600 (by decide +kernel) (by decide +kernel), iniX8, cd_X8_forget⟩, rfl, by decide +kernel, by decide⟩
set_option maxRecDepth 100000 in
theorem cd_X8_guest : Cond.code yX8_guest cX8_guest 3 (some .int) ∈ TB := inTB 393 (by decide +kernel) (by decide +kernel)
set_option maxRecDepth 100000 in
theorem cv_X8_guest {own : String} {idx : Nat} (h : Cond.methodLink own idx yX8_guest ∈ TB) : CV own idx mX8_guest 2 8 := ⟨⟨h, inTB 391 (by decide +kernel) (by decide +kernel), inTB 392 (by decide +kernel) (by decide +kernel), iniX8, cd_X8_guest⟩, rfl, by decide +kernel, by decide⟩
set_option maxRecDepth 100000 in
theorem cd_X8_host : Cond.code yX8_host cX8_host 1 (some .int) ∈ TB := inTB 554 (by decide +kernel) (by decide +kernel)
set_option maxRecDepth 100000 in
theorem cv_X8_host {own : String} {idx : Nat} (h : Cond.methodLink own idx yX8_host ∈ TB) : CV own idx mX8_host 0 8 := ⟨⟨h, inTB 552 (by decide +kernel) (by decide +kernel), inTB 553 (by decide +kernel) (by decide +kernel), iniX8, cd_X8_host⟩, rfl, by decide +kernel, by decide⟩
set_option maxRecDepth 100000 in
theorem cd_X8_image : Cond.code yX8_image cX8_image 1 (some .int) ∈ TB := inTB 647 (by decide +kernel) (by decide +kernel)
set_option maxRecDepth 100000 in
theorem cv_X8_image {own : String} {idx : Nat} (h : Cond.methodLink own idx yX8_image ∈ TB) : CV own idx mX8_image 0 8 := ⟨⟨h, inTB 645 (by decide +kernel) (by decide +kernel), inTB 646 (by decide +kernel) (by decide +kernel), iniX8, cd_X8_image⟩, rfl, by decide +kernel, by decide⟩
set_option maxRecDepth 100000 in
theorem cd_X8_inTurn : Cond.code yX8_inTurn cX8_inTurn 3 (some .int) ∈ TB := inTB 472 (by decide +kernel) (by decide +kernel)
set_option maxRecDepth 100000 in
theorem cv_X8_inTurn {own : String} {idx : Nat} (h : Cond.methodLink own idx yX8_inTurn ∈ TB) : CV own idx mX8_inTurn 2 8 := ⟨⟨h, inTB 470 (by decide +kernel) (by decide +kernel), inTB 471 (by decide +kernel) (by decide +kernel), iniX8, cd_X8_inTurn⟩, rfl, by decide +kernel, by decide⟩
set_option maxRecDepth 100000 in
theorem cd_X8_isOutside : Cond.code yX8_isOutside cX8_isOutside 3 (some .boolean) ∈ TB := inTB 341 (by decide +kernel) (by decide +kernel)
set_option maxRecDepth 100000 in
theorem cs_X8_isOutside {own : String} {idx : Nat} (h : Cond.methodLink own idx yX8_isOutside ∈ TB) : CS own idx mX8_isOutside 3 := ⟨⟨h, inTB 340 (by decide +kernel) (by decide +kernel), iniX8, cd_X8_isOutside⟩, by decide +kernel, by decide⟩
set_option maxRecDepth 100000 in
theorem cd_X8_letter : Cond.code yX8_letter cX8_letter 2 (some .int) ∈ TB := inTB 338 (by decide +kernel) (by decide +kernel)
set_option maxRecDepth 100000 in
theorem cv_X8_letter {own : String} {idx : Nat} (h : Cond.methodLink own idx yX8_letter ∈ TB) : CV own idx mX8_letter 1 8 := ⟨⟨h, inTB 336 (by decide +kernel) (by decide +kernel), inTB 337 (by decide +kernel) (by decide +kernel), iniX8, cd_X8_letter⟩, rfl, by decide +kernel, by decide⟩
set_option maxRecDepth 100000 in
theorem cd_X8_minds : Cond.code yX8_minds cX8_minds 2 (some .int) ∈ TB := inTB 539 (by decide +kernel) (by decide +kernel)
set_option maxRecDepth 100000 in
theorem cv_X8_minds {own : String} {idx : Nat} (h : Cond.methodLink own idx yX8_minds ∈ TB) : CV own idx mX8_minds 1 8 := ⟨⟨h, inTB 537 (by decide +kernel) (by decide +kernel), inTB 538 (by decide +kernel) (by decide +kernel), iniX8, cd_X8_minds⟩, rfl, by decide +kernel, by decide⟩
set_option maxRecDepth 100000 in
theorem cd_X8_mixed : Cond.code yX8_mixed cX8_mixed 4 (some .long) ∈ TB := inTB 689 (by decide +kernel) (by decide +kernel)
set_option maxRecDepth 100000 in
theorem cs_X8_mixed {own : String} {idx : Nat} (h : Cond.methodLink own idx yX8_mixed ∈ TB) : CS own idx mX8_mixed 2 := ⟨⟨h, inTB 688 (by decide +kernel) (by decide +kernel), iniX8, cd_X8_mixed⟩, by decide +kernel, by decide⟩
set_option maxRecDepth 100000 in
theorem cd_X8_mixedDishes : Cond.code yX8_mixedDishes cX8_mixedDishes 7 (some .long) ∈ TB := inTB 685 (by decide +kernel) (by decide +kernel)
set_option maxRecDepth 100000 in
theorem cv_X8_mixedDishes {own : String} {idx : Nat} (h : Cond.methodLink own idx yX8_mixedDishes ∈ TB) : CV own idx mX8_mixedDishes 1 8 := ⟨⟨h, inTB 684 (by decide +kernel) (by decide +kernel), inTB 11 (by decide +kernel) (by decide +kernel), iniX8, cd_X8_mixedDishes⟩, rfl, by decide +kernel, by decide⟩
set_option maxRecDepth 100000 in
theorem cd_X8_mixedGuests : Cond.code yX8_mixedGuests cX8_mixedGuests 7 (some .long) ∈ TB := inTB 694 (by decide +kernel) (by decide +kernel)
set_option maxRecDepth 100000 in
theorem cv_X8_mixedGuests {own : String} {idx : Nat} (h : Cond.methodLink own idx yX8_mixedGuests ∈ TB) : CV own idx mX8_mixedGuests 1 8 := ⟨⟨h, inTB 693 (by decide +kernel) (by decide +kernel), inTB 12 (by decide +kernel) (by decide +kernel), iniX8, cd_X8_mixedGuests⟩, rfl, by decide +kernel, by decide⟩
set_option maxRecDepth 100000 in
theorem cd_X8_noCard : Cond.code yX8_noCard cX8_noCard 1 (some .boolean) ∈ TB := inTB 397 (by decide +kernel) (by decide +kernel)
set_option maxRecDepth 100000 in
theorem cv_X8_noCard {own : String} {idx : Nat} (h : Cond.methodLink own idx yX8_noCard ∈ TB) : CV own idx mX8_noCard 0 8 := ⟨⟨h, inTB 396 (by decide +kernel) (by decide +kernel), inTB 2 (by decide +kernel) (by decide +kernel), iniX8, cd_X8_noCard⟩, rfl, by decide +kernel, by decide⟩
set_option maxRecDepth 100000 in
theorem cd_X8_noDish : Cond.code yX8_noDish cX8_noDish 2 (some .boolean) ∈ TB := inTB 389 (by decide +kernel) (by decide +kernel)
set_option maxRecDepth 100000 in
theorem cv_X8_noDish {own : String} {idx : Nat} (h : Cond.methodLink own idx yX8_noDish ∈ TB) : CV own idx mX8_noDish 1 8 := ⟨⟨h, inTB 388 (by decide +kernel) (by decide +kernel), inTB 1 (by decide +kernel) (by decide +kernel), iniX8, cd_X8_noDish⟩, rfl, by decide +kernel, by decide⟩
set_option maxRecDepth 100000 in
theorem cd_X8_noGuest : Cond.code yX8_noGuest cX8_noGuest 2 (some .boolean) ∈ TB := inTB 411 (by decide +kernel) (by decide +kernel)
set_option maxRecDepth 100000 in
theorem cv_X8_noGuest {own : String} {idx : Nat} (h : Cond.methodLink own idx yX8_noGuest ∈ TB) : CV own idx mX8_noGuest 1 8 := ⟨⟨h, inTB 410 (by decide +kernel) (by decide +kernel), inTB 3 (by decide +kernel) (by decide +kernel), iniX8, cd_X8_noGuest⟩, rfl, by decide +kernel, by decide⟩
set_option maxRecDepth 100000 in
theorem cd_X8_onlyLoath : Cond.code yX8_onlyLoath cX8_onlyLoath 2 (some .int) ∈ TB := inTB 616 (by decide +kernel) (by decide +kernel)
set_option maxRecDepth 100000 in
theorem cs_X8_onlyLoath {own : String} {idx : Nat} (h : Cond.methodLink own idx yX8_onlyLoath ∈ TB) : CS own idx mX8_onlyLoath 1 := ⟨⟨h, inTB 615 (by decide +kernel) (by decide +kernel), iniX8, cd_X8_onlyLoath⟩, by decide +kernel, by decide⟩
set_option maxRecDepth 100000 in
theorem cd_X8_order : Cond.code yX8_order cX8_order 3 (some .int) ∈ TB := inTB 455 (by decide +kernel) (by decide +kernel)
set_option maxRecDepth 100000 in
theorem cv_X8_order {own : String} {idx : Nat} (h : Cond.methodLink own idx yX8_order ∈ TB) : CV own idx mX8_order 1 8 := ⟨⟨h, inTB 453 (by decide +kernel) (by decide +kernel), inTB 454 (by decide +kernel) (by decide +kernel), iniX8, cd_X8_order⟩, rfl, by decide +kernel, by decide⟩
set_option maxRecDepth 100000 in
theorem cd_X8_purse : Cond.code yX8_purse cX8_purse 4 (some .int) ∈ TB := inTB 431 (by decide +kernel) (by decide +kernel)
set_option maxRecDepth 100000 in
theorem cv_X8_purse {own : String} {idx : Nat} (h : Cond.methodLink own idx yX8_purse ∈ TB) : CV own idx mX8_purse 2 8 := ⟨⟨h, inTB 429 (by decide +kernel) (by decide +kernel), inTB 430 (by decide +kernel) (by decide +kernel), iniX8, cd_X8_purse⟩, rfl, by decide +kernel, by decide⟩
set_option maxRecDepth 100000 in
theorem cd_X8_restore : Cond.code yX8_restore cX8_restore 1 (some .int) ∈ TB := inTB 666 (by decide +kernel) (by decide +kernel)
set_option maxRecDepth 100000 in
theorem cv_X8_restore {own : String} {idx : Nat} (h : Cond.methodLink own idx yX8_restore ∈ TB) : CV own idx mX8_restore 0 8 := ⟨⟨h, inTB 664 (by decide +kernel) (by decide +kernel), inTB 665 (by decide +kernel) (by decide +kernel), iniX8, cd_X8_restore⟩, rfl, by decide +kernel, by decide⟩
set_option maxRecDepth 100000 in
theorem cd_X8_takes : Cond.code yX8_takes cX8_takes 2 (some .int) ∈ TB := inTB 439 (by decide +kernel) (by decide +kernel)
set_option maxRecDepth 100000 in
theorem cv_X8_takes {own : String} {idx : Nat} (h : Cond.methodLink own idx yX8_takes ∈ TB) : CV own idx mX8_takes 1 8 := ⟨⟨h, inTB 437 (by decide +kernel) (by decide +kernel), inTB 438 (by decide +kernel) (by decide +kernel), iniX8, cd_X8_takes⟩, rfl, by decide +kernel, by decide⟩
set_option maxRecDepth 100000 in
theorem cd_X8_urge : Cond.code yX8_urge cX8_urge 4 (some .int) ∈ TB := inTB 435 (by decide +kernel) (by decide +kernel)
set_option maxRecDepth 100000 in
theorem cv_X8_urge {own : String} {idx : Nat} (h : Cond.methodLink own idx yX8_urge ∈ TB) : CV own idx mX8_urge 2 8 := ⟨⟨h, inTB 433 (by decide +kernel) (by decide +kernel), inTB 434 (by decide +kernel) (by decide +kernel), iniX8, cd_X8_urge⟩, rfl, by decide +kernel, by decide⟩
set_option maxRecDepth 100000 in
theorem cd_X8_urges : Cond.code yX8_urges cX8_urges 4 (some .int) ∈ TB := inTB 585 (by decide +kernel) (by decide +kernel)
set_option maxRecDepth 100000 in
theorem cv_X8_urges {own : String} {idx : Nat} (h : Cond.methodLink own idx yX8_urges ∈ TB) : CV own idx mX8_urges 3 8 := ⟨⟨h, inTB 583 (by decide +kernel) (by decide +kernel), inTB 584 (by decide +kernel) (by decide +kernel), iniX8, cd_X8_urges⟩, rfl, by decide +kernel, by decide⟩
set_option maxRecDepth 100000 in
theorem cd_X8_want : Cond.code yX8_want cX8_want 5 (some .int) ∈ TB := inTB 427 (by decide +kernel) (by decide +kernel)
set_option maxRecDepth 100000 in
theorem cv_X8_want {own : String} {idx : Nat} (h : Cond.methodLink own idx yX8_want ∈ TB) : CV own idx mX8_want 3 8 := ⟨⟨h, inTB 425 (by decide +kernel) (by decide +kernel), inTB 426 (by decide +kernel) (by decide +kernel), iniX8, cd_X8_want⟩, rfl, by decide +kernel, by decide⟩
set_option maxRecDepth 100000 in
theorem cd_X9_about : Cond.code yX9_about cX9_about 3 (some .int) ∈ TB := inTB 877 (by decide +kernel) (by decide +kernel)
set_option maxRecDepth 100000 in
theorem cv_X9_about {own : String} {idx : Nat} (h : Cond.methodLink own idx yX9_about ∈ TB) : CV own idx mX9_about 2 9 := ⟨⟨h, inTB 875 (by decide +kernel) (by decide +kernel), inTB 876 (by decide +kernel) (by decide +kernel), iniX9, cd_X9_about⟩, rfl, by decide +kernel, by decide⟩
set_option maxRecDepth 100000 in
theorem cd_X9_as : Cond.code yX9_as cX9_as 5 (some .int) ∈ TB := inTB 897 (by decide +kernel) (by decide +kernel)
set_option maxRecDepth 100000 in
theorem cv_X9_as {own : String} {idx : Nat} (h : Cond.methodLink own idx yX9_as ∈ TB) : CV own idx mX9_as 2 9 := ⟨⟨h, inTB 895 (by decide +kernel) (by decide +kernel), inTB 896 (by decide +kernel) (by decide +kernel), iniX9, cd_X9_as⟩, rfl, by decide +kernel, by decide⟩
set_option maxRecDepth 100000 in
theorem cd_X9_asItIs : Cond.code yX9_asItIs cX9_asItIs 1 none ∈ TB := inTB 918 (by decide +kernel) (by decide +kernel)
set_option maxRecDepth 100000 in
theorem cv_X9_asItIs {own : String} {idx : Nat} (h : Cond.methodLink own idx yX9_asItIs ∈ TB) : CV own idx mX9_asItIs 0 9 := ⟨⟨h, inTB 917 (by decide +kernel) (by decide +kernel), inTB 23 (by decide +kernel) (by decide +kernel), iniX9, cd_X9_asItIs⟩, rfl, by decide +kernel, by decide⟩
set_option maxRecDepth 100000 in
theorem cd_X9_atOnce : Cond.code yX9_atOnce cX9_atOnce 7 (some .int) ∈ TB := inTB 966 (by decide +kernel) (by decide +kernel)
set_option maxRecDepth 100000 in
theorem cv_X9_atOnce {own : String} {idx : Nat} (h : Cond.methodLink own idx yX9_atOnce ∈ TB) : CV own idx mX9_atOnce 1 9 := ⟨⟨h, inTB 964 (by decide +kernel) (by decide +kernel), inTB 965 (by decide +kernel) (by decide +kernel), iniX9, cd_X9_atOnce⟩, rfl, by decide +kernel, by decide⟩
set_option maxRecDepth 100000 in
theorem cd_X9_begin : Cond.code yX9_begin cX9_begin 3 (some .int) ∈ TB := inTB 954 (by decide +kernel) (by decide +kernel)
set_option maxRecDepth 100000 in
theorem cv_X9_begin {own : String} {idx : Nat} (h : Cond.methodLink own idx yX9_begin ∈ TB) : CV own idx mX9_begin 2 9 := ⟨⟨h, inTB 952 (by decide +kernel) (by decide +kernel), inTB 953 (by decide +kernel) (by decide +kernel), iniX9, cd_X9_begin⟩, rfl, by decide +kernel, by decide⟩
set_option maxRecDepth 100000 in
theorem cd_X9_beginOf : Cond.code yX9_beginOf cX9_beginOf 7 (some .int) ∈ TB := inTB 958 (by decide +kernel) (by decide +kernel)
set_option maxRecDepth 100000 in
theorem cv_X9_beginOf {own : String} {idx : Nat} (h : Cond.methodLink own idx yX9_beginOf ∈ TB) : CV own idx mX9_beginOf 2 9 := ⟨⟨h, inTB 957 (by decide +kernel) (by decide +kernel), inTB 29 (by decide +kernel) (by decide +kernel), iniX9, cd_X9_beginOf⟩, rfl, by decide +kernel, by decide⟩
set_option maxRecDepth 100000 in
theorem cd_X9_bestFor : Cond.code yX9_bestFor cX9_bestFor 8 (some .int) ∈ TB := inTB 922 (by decide +kernel) (by decide +kernel)
set_option maxRecDepth 100000 in
theorem cv_X9_bestFor {own : String} {idx : Nat} (h : Cond.methodLink own idx yX9_bestFor ∈ TB) : CV own idx mX9_bestFor 2 9 := ⟨⟨h, inTB 921 (by decide +kernel) (by decide +kernel), inTB 24 (by decide +kernel) (by decide +kernel), iniX9, cd_X9_bestFor⟩, rfl, by decide +kernel, by decide⟩
set_option maxRecDepth 100000 in
theorem cd_X9_blank : Cond.code yX9_blank cX9_blank 2 (some .int) ∈ TB := inTB 831 (by decide +kernel) (by decide +kernel)
set_option maxRecDepth 100000 in
theorem cv_X9_blank {own : String} {idx : Nat} (h : Cond.methodLink own idx yX9_blank ∈ TB) : CV own idx mX9_blank 0 9 := ⟨⟨h, inTB 829 (by decide +kernel) (by decide +kernel), inTB 830 (by decide +kernel) (by decide +kernel), iniX9, cd_X9_blank⟩, rfl, by decide +kernel, by decide⟩
set_option maxRecDepth 100000 in
theorem cd_X9_card : Cond.code yX9_card cX9_card 2 (some .int) ∈ TB := inTB 848 (by decide +kernel) (by decide +kernel)
set_option maxRecDepth 100000 in
theorem cv_X9_card {own : String} {idx : Nat} (h : Cond.methodLink own idx yX9_card ∈ TB) : CV own idx mX9_card 0 9 := ⟨⟨h, inTB 846 (by decide +kernel) (by decide +kernel), inTB 847 (by decide +kernel) (by decide +kernel), iniX9, cd_X9_card⟩, rfl, by decide +kernel, by decide⟩
set_option maxRecDepth 100000 in
theorem cd_X9_clear : Cond.code yX9_clear cX9_clear 3 (some .int) ∈ TB := inTB 938 (by decide +kernel) (by decide +kernel)
set_option maxRecDepth 100000 in
theorem cv_X9_clear {own : String} {idx : Nat} (h : Cond.methodLink own idx yX9_clear ∈ TB) : CV own idx mX9_clear 0 9 := ⟨⟨h, inTB 936 (by decide +kernel) (by decide +kernel), inTB 937 (by decide +kernel) (by decide +kernel), iniX9, cd_X9_clear⟩, rfl, by decide +kernel, by decide⟩
set_option maxRecDepth 100000 in
theorem cd_X9_copy : Cond.code yX9_copy cX9_copy 3 none ∈ TB := inTB 1030 (by decide +kernel) (by decide +kernel)
set_option maxRecDepth 100000 in
theorem cs_X9_copy {own : String} {idx : Nat} (h : Cond.methodLink own idx yX9_copy ∈ TB) : CS own idx mX9_copy 2 := ⟨⟨h, inTB 1029 (by decide +kernel) (by decide +kernel), iniX9, cd_X9_copy⟩, by decide +kernel, by decide⟩
set_option maxRecDepth 100000 in
theorem cd_X9_count : Cond.code yX9_count cX9_count 2 (some .int) ∈ TB := inTB 1050 (by decide +kernel) (by decide +kernel)
set_option maxRecDepth 100000 in
theorem cv_X9_count {own : String} {idx : Nat} (h : Cond.methodLink own idx yX9_count ∈ TB) : CV own idx mX9_count 1 9 := ⟨⟨h, inTB 1048 (by decide +kernel) (by decide +kernel), inTB 1049 (by decide +kernel) (by decide +kernel), iniX9, cd_X9_count⟩, rfl, by decide +kernel, by decide⟩
set_option maxRecDepth 100000 in
theorem cd_X9_countOf : Cond.code yX9_countOf cX9_countOf 2 (some .int) ∈ TB := inTB 1054 (by decide +kernel) (by decide +kernel)
set_option maxRecDepth 100000 in
theorem cv_X9_countOf {own : String} {idx : Nat} (h : Cond.methodLink own idx yX9_countOf ∈ TB) : CV own idx mX9_countOf 1 9 := ⟨⟨h, inTB 1053 (by decide +kernel) (by decide +kernel), inTB 38 (by decide +kernel) (by decide +kernel), iniX9, cd_X9_countOf⟩, rfl, by decide +kernel, by decide⟩
set_option maxRecDepth 100000 in
theorem cd_X9_digest : Cond.code yX9_digest cX9_digest 3 (some .long) ∈ TB := inTB 1058 (by decide +kernel) (by decide +kernel)
set_option maxRecDepth 100000 in
theorem cv_X9_digest {own : String} {idx : Nat} (h : Cond.methodLink own idx yX9_digest ∈ TB) : CV own idx mX9_digest 0 9 := ⟨⟨h, inTB 1056 (by decide +kernel) (by decide +kernel), inTB 1057 (by decide +kernel) (by decide +kernel), iniX9, cd_X9_digest⟩, rfl, by decide +kernel, by decide⟩
set_option maxRecDepth 100000 in
theorem cd_X9_dish : Cond.code yX9_dish cX9_dish 3 (some .int) ∈ TB := inTB 852 (by decide +kernel) (by decide +kernel)
set_option maxRecDepth 100000 in
theorem cv_X9_dish {own : String} {idx : Nat} (h : Cond.methodLink own idx yX9_dish ∈ TB) : CV own idx mX9_dish 2 9 := ⟨⟨h, inTB 850 (by decide +kernel) (by decide +kernel), inTB 851 (by decide +kernel) (by decide +kernel), iniX9, cd_X9_dish⟩, rfl, by decide +kernel, by decide⟩
set_option maxRecDepth 100000 in
theorem cd_X9_draw : Cond.code yX9_draw cX9_draw 2 (some .int) ∈ TB := inTB 1034 (by decide +kernel) (by decide +kernel)
set_option maxRecDepth 100000 in
theorem cv_X9_draw {own : String} {idx : Nat} (h : Cond.methodLink own idx yX9_draw ∈ TB) : CV own idx mX9_draw 1 9 := ⟨⟨h, inTB 1033 (by decide +kernel) (by decide +kernel), inTB 37 (by decide +kernel) (by decide +kernel), iniX9, cd_X9_draw⟩, rfl, by decide +kernel, by decide⟩
set_option maxRecDepth 100000 in
theorem cd_X9_evening : Cond.code yX9_evening cX9_evening 4 (some .int) ∈ TB := inTB 1010 (by decide +kernel) (by decide +kernel)
set_option maxRecDepth 100000 in
theorem cv_X9_evening {own : String} {idx : Nat} (h : Cond.methodLink own idx yX9_evening ∈ TB) : CV own idx mX9_evening 3 9 := ⟨⟨h, inTB 1008 (by decide +kernel) (by decide +kernel), inTB 1009 (by decide +kernel) (by decide +kernel), iniX9, cd_X9_evening⟩, rfl, by decide +kernel, by decide⟩
set_option maxRecDepth 100000 in
theorem cd_X9_evenings : Cond.code yX9_evenings cX9_evenings 9 (some .int) ∈ TB := inTB 1026 (by decide +kernel) (by decide +kernel)
set_option maxRecDepth 100000 in
theorem cv_X9_evenings {own : String} {idx : Nat} (h : Cond.methodLink own idx yX9_evenings ∈ TB) : CV own idx mX9_evenings 3 9 := ⟨⟨h, inTB 1024 (by decide +kernel) (by decide +kernel), inTB 1025 (by decide +kernel) (by decide +kernel), iniX9, cd_X9_evenings⟩, rfl, by decide +kernel, by decide⟩
set_option maxRecDepth 100000 in
theorem cd_X9_fault : Cond.code yX9_fault cX9_fault 1 (some .int) ∈ TB := inTB 835 (by decide +kernel) (by decide +kernel)
set_option maxRecDepth 100000 in
theorem cv_X9_fault {own : String} {idx : Nat} (h : Cond.methodLink own idx yX9_fault ∈ TB) : CV own idx mX9_fault 0 9 := ⟨⟨h, inTB 833 (by decide +kernel) (by decide +kernel), inTB 834 (by decide +kernel) (by decide +kernel), iniX9, cd_X9_fault⟩, rfl, by decide +kernel, by decide⟩
set_option maxRecDepth 100000 in
theorem cd_X9_faultOf : Cond.code yX9_faultOf cX9_faultOf 2 (some .int) ∈ TB := inTB 839 (by decide +kernel) (by decide +kernel)
set_option maxRecDepth 100000 in
theorem cv_X9_faultOf {own : String} {idx : Nat} (h : Cond.methodLink own idx yX9_faultOf ∈ TB) : CV own idx mX9_faultOf 0 9 := ⟨⟨h, inTB 838 (by decide +kernel) (by decide +kernel), inTB 13 (by decide +kernel) (by decide +kernel), iniX9, cd_X9_faultOf⟩, rfl, by decide +kernel, by decide⟩
set_option maxRecDepth 100000 in
theorem cd_X9_fewest : Cond.code yX9_fewest cX9_fewest 2 (some .int) ∈ TB := inTB 994 (by decide +kernel) (by decide +kernel)
set_option maxRecDepth 100000 in
theorem cv_X9_fewest {own : String} {idx : Nat} (h : Cond.methodLink own idx yX9_fewest ∈ TB) : CV own idx mX9_fewest 1 9 := ⟨⟨h, inTB 992 (by decide +kernel) (by decide +kernel), inTB 993 (by decide +kernel) (by decide +kernel), iniX9, cd_X9_fewest⟩, rfl, by decide +kernel, by decide⟩
set_option maxRecDepth 100000 in
theorem cd_X9_fewestOf : Cond.code yX9_fewestOf cX9_fewestOf 8 (some .int) ∈ TB := inTB 998 (by decide +kernel) (by decide +kernel)
set_option maxRecDepth 100000 in
theorem cv_X9_fewestOf {own : String} {idx : Nat} (h : Cond.methodLink own idx yX9_fewestOf ∈ TB) : CV own idx mX9_fewestOf 1 9 := ⟨⟨h, inTB 997 (by decide +kernel) (by decide +kernel), inTB 35 (by decide +kernel) (by decide +kernel), iniX9, cd_X9_fewestOf⟩, rfl, by decide +kernel, by decide⟩
set_option maxRecDepth 100000 in
theorem cd_X9_fits : Cond.code yX9_fits cX9_fits 4 (some .int) ∈ TB := inTB 1018 (by decide +kernel) (by decide +kernel)
set_option maxRecDepth 100000 in
theorem cv_X9_fits {own : String} {idx : Nat} (h : Cond.methodLink own idx yX9_fits ∈ TB) : CV own idx mX9_fits 1 9 := ⟨⟨h, inTB 1016 (by decide +kernel) (by decide +kernel), inTB 1017 (by decide +kernel) (by decide +kernel), iniX9, cd_X9_fits⟩, rfl, by decide +kernel, by decide⟩
set_option maxRecDepth 100000 in
theorem cd_X9_fitsOf : Cond.code yX9_fitsOf cX9_fitsOf 5 (some .int) ∈ TB := inTB 1022 (by decide +kernel) (by decide +kernel)
set_option maxRecDepth 100000 in
theorem cv_X9_fitsOf {own : String} {idx : Nat} (h : Cond.methodLink own idx yX9_fitsOf ∈ TB) : CV own idx mX9_fitsOf 0 9 := ⟨⟨h, inTB 1021 (by decide +kernel) (by decide +kernel), inTB 36 (by decide +kernel) (by decide +kernel), iniX9, cd_X9_fitsOf⟩, rfl, by decide +kernel, by decide⟩
set_option maxRecDepth 100000 in
theorem cd_X9_forget : Cond.code yX9_forget cX9_forget 2 (some .int) ∈ TB := inTB 1014 (by decide +kernel) (by decide +kernel)
set_option maxRecDepth 100000 in
theorem cv_X9_forget {own : String} {idx : Nat} (h : Cond.methodLink own idx yX9_forget ∈ TB) : CV own idx mX9_forget 0 9 := ⟨⟨h, inTB 1012 (by decide +kernel) (by decide +kernel), inTB 1013 (by decide +kernel) (by decide +kernel), iniX9, cd_X9_forget⟩, rfl, by decide +kernel, by decide⟩
set_option maxRecDepth 100000 in
theorem cd_X9_go : Cond.code yX9_go cX9_go 4 (some .boolean) ∈ TB := inTB 843 (by decide +kernel) (by decide +kernel)
set_option maxRecDepth 100000 in
theorem cv_X9_go {own : String} {idx : Nat} (h : Cond.methodLink own idx yX9_go ∈ TB) : CV own idx mX9_go 1 9 := ⟨⟨h, inTB 842 (by decide +kernel) (by decide +kernel), inTB 14 (by decide +kernel) (by decide +kernel), iniX9, cd_X9_go⟩, rfl, by decide +kernel, by decide⟩
set_option maxRecDepth 100000 in
theorem cd_X9_guest : Cond.code yX9_guest cX9_guest 4 (some .int) ∈ TB := inTB 868 (by decide +kernel) (by decide +kernel)
set_option maxRecDepth 100000 in
theorem cv_X9_guest {own : String} {idx : Nat} (h : Cond.methodLink own idx yX9_guest ∈ TB) : CV own idx mX9_guest 2 9 := ⟨⟨h, inTB 866 (by decide +kernel) (by decide +kernel), inTB 867 (by decide +kernel) (by decide +kernel), iniX9, cd_X9_guest⟩, rfl, by decide +kernel, by decide⟩
set_option maxRecDepth 100000 in
theorem cd_X9_haveOf : Cond.code yX9_haveOf cX9_haveOf 5 (some .int) ∈ TB := inTB 864 (by decide +kernel) (by decide +kernel)
set_option maxRecDepth 100000 in
theorem cv_X9_haveOf {own : String} {idx : Nat} (h : Cond.methodLink own idx yX9_haveOf ∈ TB) : CV own idx mX9_haveOf 2 9 := ⟨⟨h, inTB 863 (by decide +kernel) (by decide +kernel), inTB 17 (by decide +kernel) (by decide +kernel), iniX9, cd_X9_haveOf⟩, rfl, by decide +kernel, by decide⟩
set_option maxRecDepth 100000 in
theorem cd_X9_host : Cond.code yX9_host cX9_host 1 (some .int) ∈ TB := inTB 986 (by decide +kernel) (by decide +kernel)
set_option maxRecDepth 100000 in
theorem cv_X9_host {own : String} {idx : Nat} (h : Cond.methodLink own idx yX9_host ∈ TB) : CV own idx mX9_host 0 9 := ⟨⟨h, inTB 984 (by decide +kernel) (by decide +kernel), inTB 985 (by decide +kernel) (by decide +kernel), iniX9, cd_X9_host⟩, rfl, by decide +kernel, by decide⟩
set_option maxRecDepth 100000 in
theorem cd_X9_hostOf : Cond.code yX9_hostOf cX9_hostOf 6 (some .int) ∈ TB := inTB 990 (by decide +kernel) (by decide +kernel)
set_option maxRecDepth 100000 in
theorem cv_X9_hostOf {own : String} {idx : Nat} (h : Cond.methodLink own idx yX9_hostOf ∈ TB) : CV own idx mX9_hostOf 0 9 := ⟨⟨h, inTB 989 (by decide +kernel) (by decide +kernel), inTB 34 (by decide +kernel) (by decide +kernel), iniX9, cd_X9_hostOf⟩, rfl, by decide +kernel, by decide⟩
set_option maxRecDepth 100000 in
theorem cd_X9_image : Cond.code yX9_image cX9_image 1 (some .int) ∈ TB := inTB 1042 (by decide +kernel) (by decide +kernel)
set_option maxRecDepth 100000 in
theorem cv_X9_image {own : String} {idx : Nat} (h : Cond.methodLink own idx yX9_image ∈ TB) : CV own idx mX9_image 0 9 := ⟨⟨h, inTB 1040 (by decide +kernel) (by decide +kernel), inTB 1041 (by decide +kernel) (by decide +kernel), iniX9, cd_X9_image⟩, rfl, by decide +kernel, by decide⟩
set_option maxRecDepth 100000 in
theorem cd_X9_in : Cond.code yX9_in cX9_in 6 (some .boolean) ∈ TB := inTB 827 (by decide +kernel) (by decide +kernel)
set_option maxRecDepth 100000 in
theorem cs_X9_in {own : String} {idx : Nat} (h : Cond.methodLink own idx yX9_in ∈ TB) : CS own idx mX9_in 3 := ⟨⟨h, inTB 826 (by decide +kernel) (by decide +kernel), iniX9, cd_X9_in⟩, by decide +kernel, by decide⟩
set_option maxRecDepth 100000 in
theorem cd_X9_inTurn : Cond.code yX9_inTurn cX9_inTurn 3 (some .int) ∈ TB := inTB 946 (by decide +kernel) (by decide +kernel)
set_option maxRecDepth 100000 in
theorem cv_X9_inTurn {own : String} {idx : Nat} (h : Cond.methodLink own idx yX9_inTurn ∈ TB) : CV own idx mX9_inTurn 2 9 := ⟨⟨h, inTB 944 (by decide +kernel) (by decide +kernel), inTB 945 (by decide +kernel) (by decide +kernel), iniX9, cd_X9_inTurn⟩, rfl, by decide +kernel, by decide⟩
set_option maxRecDepth 100000 in
theorem cd_X9_isAtOnce : Cond.code yX9_isAtOnce cX9_isAtOnce 4 (some .boolean) ∈ TB := inTB 974 (by decide +kernel) (by decide +kernel)
set_option maxRecDepth 100000 in
theorem cv_X9_isAtOnce {own : String} {idx : Nat} (h : Cond.methodLink own idx yX9_isAtOnce ∈ TB) : CV own idx mX9_isAtOnce 0 9 := ⟨⟨h, inTB 973 (by decide +kernel) (by decide +kernel), inTB 32 (by decide +kernel) (by decide +kernel), iniX9, cd_X9_isAtOnce⟩, rfl, by decide +kernel, by decide⟩
set_option maxRecDepth 100000 in
theorem cd_X9_isDish : Cond.code yX9_isDish cX9_isDish 2 (some .boolean) ∈ TB := inTB 856 (by decide +kernel) (by decide +kernel)
set_option maxRecDepth 100000 in
theorem cv_X9_isDish {own : String} {idx : Nat} (h : Cond.methodLink own idx yX9_isDish ∈ TB) : CV own idx mX9_isDish 1 9 := ⟨⟨h, inTB 855 (by decide +kernel) (by decide +kernel), inTB 15 (by decide +kernel) (by decide +kernel), iniX9, cd_X9_isDish⟩, rfl, by decide +kernel, by decide⟩
set_option maxRecDepth 100000 in
theorem cd_X9_isGuest : Cond.code yX9_isGuest cX9_isGuest 2 (some .boolean) ∈ TB := inTB 881 (by decide +kernel) (by decide +kernel)
set_option maxRecDepth 100000 in
theorem cv_X9_isGuest {own : String} {idx : Nat} (h : Cond.methodLink own idx yX9_isGuest ∈ TB) : CV own idx mX9_isGuest 1 9 := ⟨⟨h, inTB 880 (by decide +kernel) (by decide +kernel), inTB 19 (by decide +kernel) (by decide +kernel), iniX9, cd_X9_isGuest⟩, rfl, by decide +kernel, by decide⟩
set_option maxRecDepth 100000 in
theorem cd_X9_joyAll : Cond.code yX9_joyAll cX9_joyAll 4 (some .int) ∈ TB := inTB 962 (by decide +kernel) (by decide +kernel)
set_option maxRecDepth 100000 in
theorem cv_X9_joyAll {own : String} {idx : Nat} (h : Cond.methodLink own idx yX9_joyAll ∈ TB) : CV own idx mX9_joyAll 1 9 := ⟨⟨h, inTB 961 (by decide +kernel) (by decide +kernel), inTB 30 (by decide +kernel) (by decide +kernel), iniX9, cd_X9_joyAll⟩, rfl, by decide +kernel, by decide⟩
set_option maxRecDepth 100000 in
theorem cd_X9_joyOf : Cond.code yX9_joyOf cX9_joyOf 3 (some .int) ∈ TB := inTB 893 (by decide +kernel) (by decide +kernel)
set_option maxRecDepth 100000 in
theorem cv_X9_joyOf {own : String} {idx : Nat} (h : Cond.methodLink own idx yX9_joyOf ∈ TB) : CV own idx mX9_joyOf 2 9 := ⟨⟨h, inTB 892 (by decide +kernel) (by decide +kernel), inTB 22 (by decide +kernel) (by decide +kernel), iniX9, cd_X9_joyOf⟩, rfl, by decide +kernel, by decide⟩
set_option maxRecDepth 100000 in
theorem cd_X9_lacks : Cond.code yX9_lacks cX9_lacks 1 (some .boolean) ∈ TB := inTB 873 (by decide +kernel) (by decide +kernel)
set_option maxRecDepth 100000 in
theorem cv_X9_lacks {own : String} {idx : Nat} (h : Cond.methodLink own idx yX9_lacks ∈ TB) : CV own idx mX9_lacks 0 9 := ⟨⟨h, inTB 872 (by decide +kernel) (by decide +kernel), inTB 18 (by decide +kernel) (by decide +kernel), iniX9, cd_X9_lacks⟩, rfl, by decide +kernel, by decide⟩
set_option maxRecDepth 100000 in
theorem cd_X9_layInTurn : Cond.code yX9_layInTurn cX9_layInTurn 4 none ∈ TB := inTB 950 (by decide +kernel) (by decide +kernel)
set_option maxRecDepth 100000 in
theorem cv_X9_layInTurn {own : String} {idx : Nat} (h : Cond.methodLink own idx yX9_layInTurn ∈ TB) : CV own idx mX9_layInTurn 1 9 := ⟨⟨h, inTB 949 (by decide +kernel) (by decide +kernel), inTB 28 (by decide +kernel) (by decide +kernel), iniX9, cd_X9_layInTurn⟩, rfl, by decide +kernel, by decide⟩
set_option maxRecDepth 100000 in
theorem cd_X9_letter : Cond.code yX9_letter cX9_letter 2 (some .int) ∈ TB := inTB 823 (by decide +kernel) (by decide +kernel)
set_option maxRecDepth 100000 in
theorem cv_X9_letter {own : String} {idx : Nat} (h : Cond.methodLink own idx yX9_letter ∈ TB) : CV own idx mX9_letter 1 9 := ⟨⟨h, inTB 821 (by decide +kernel) (by decide +kernel), inTB 822 (by decide +kernel) (by decide +kernel), iniX9, cd_X9_letter⟩, rfl, by decide +kernel, by decide⟩
set_option maxRecDepth 100000 in
theorem cd_X9_mayHave : Cond.code yX9_mayHave cX9_mayHave 5 (some .boolean) ∈ TB := inTB 926 (by decide +kernel) (by decide +kernel)
set_option maxRecDepth 100000 in
theorem cv_X9_mayHave {own : String} {idx : Nat} (h : Cond.methodLink own idx yX9_mayHave ∈ TB) : CV own idx mX9_mayHave 3 9 := ⟨⟨h, inTB 925 (by decide +kernel) (by decide +kernel), inTB 25 (by decide +kernel) (by decide +kernel), iniX9, cd_X9_mayHave⟩, rfl, by decide +kernel, by decide⟩
set_option maxRecDepth 100000 in
theorem cd_X9_minds : Cond.code yX9_minds cX9_minds 2 (some .int) ∈ TB := inTB 978 (by decide +kernel) (by decide +kernel)
set_option maxRecDepth 100000 in
theorem cv_X9_minds {own : String} {idx : Nat} (h : Cond.methodLink own idx yX9_minds ∈ TB) : CV own idx mX9_minds 1 9 := ⟨⟨h, inTB 976 (by decide +kernel) (by decide +kernel), inTB 977 (by decide +kernel) (by decide +kernel), iniX9, cd_X9_minds⟩, rfl, by decide +kernel, by decide⟩
set_option maxRecDepth 100000 in
theorem cd_X9_mindsOf : Cond.code yX9_mindsOf cX9_mindsOf 8 (some .int) ∈ TB := inTB 982 (by decide +kernel) (by decide +kernel)
set_option maxRecDepth 100000 in
theorem cv_X9_mindsOf {own : String} {idx : Nat} (h : Cond.methodLink own idx yX9_mindsOf ∈ TB) : CV own idx mX9_mindsOf 1 9 := ⟨⟨h, inTB 981 (by decide +kernel) (by decide +kernel), inTB 33 (by decide +kernel) (by decide +kernel), iniX9, cd_X9_mindsOf⟩, rfl, by decide +kernel, by decide⟩
set_option maxRecDepth 100000 in
theorem cd_X9_ones : Cond.code yX9_ones cX9_ones 3 (some .int) ∈ TB := inTB 1001 (by decide +kernel) (by decide +kernel)
set_option maxRecDepth 100000 in
theorem cs_X9_ones {own : String} {idx : Nat} (h : Cond.methodLink own idx yX9_ones ∈ TB) : CS own idx mX9_ones 1 := ⟨⟨h, inTB 1000 (by decide +kernel) (by decide +kernel), iniX9, cd_X9_ones⟩, by decide +kernel, by decide⟩
set_option maxRecDepth 100000 in
theorem cd_X9_order : Cond.code yX9_order cX9_order 2 (some .int) ∈ TB := inTB 934 (by decide +kernel) (by decide +kernel)
set_option maxRecDepth 100000 in
theorem cv_X9_order {own : String} {idx : Nat} (h : Cond.methodLink own idx yX9_order ∈ TB) : CV own idx mX9_order 1 9 := ⟨⟨h, inTB 932 (by decide +kernel) (by decide +kernel), inTB 933 (by decide +kernel) (by decide +kernel), iniX9, cd_X9_order⟩, rfl, by decide +kernel, by decide⟩
set_option maxRecDepth 100000 in
theorem cd_X9_orderedMany : Cond.code yX9_orderedMany cX9_orderedMany 3 (some .int) ∈ TB := inTB 942 (by decide +kernel) (by decide +kernel)
set_option maxRecDepth 100000 in
theorem cv_X9_orderedMany {own : String} {idx : Nat} (h : Cond.methodLink own idx yX9_orderedMany ∈ TB) : CV own idx mX9_orderedMany 0 9 := ⟨⟨h, inTB 941 (by decide +kernel) (by decide +kernel), inTB 27 (by decide +kernel) (by decide +kernel), iniX9, cd_X9_orderedMany⟩, rfl, by decide +kernel, by decide⟩
set_option maxRecDepth 100000 in
theorem cd_X9_power : Cond.code yX9_power cX9_power 4 (some .int) ∈ TB := inTB 970 (by decide +kernel) (by decide +kernel)
set_option maxRecDepth 100000 in
theorem cv_X9_power {own : String} {idx : Nat} (h : Cond.methodLink own idx yX9_power ∈ TB) : CV own idx mX9_power 1 9 := ⟨⟨h, inTB 969 (by decide +kernel) (by decide +kernel), inTB 31 (by decide +kernel) (by decide +kernel), iniX9, cd_X9_power⟩, rfl, by decide +kernel, by decide⟩
set_option maxRecDepth 100000 in
theorem cd_X9_purse : Cond.code yX9_purse cX9_purse 4 (some .int) ∈ TB := inTB 905 (by decide +kernel) (by decide +kernel)
set_option maxRecDepth 100000 in
theorem cv_X9_purse {own : String} {idx : Nat} (h : Cond.methodLink own idx yX9_purse ∈ TB) : CV own idx mX9_purse 2 9 := ⟨⟨h, inTB 903 (by decide +kernel) (by decide +kernel), inTB 904 (by decide +kernel) (by decide +kernel), iniX9, cd_X9_purse⟩, rfl, by decide +kernel, by decide⟩
set_option maxRecDepth 100000 in
theorem cd_X9_restore : Cond.code yX9_restore cX9_restore 1 (some .int) ∈ TB := inTB 1046 (by decide +kernel) (by decide +kernel)
set_option maxRecDepth 100000 in
theorem cv_X9_restore {own : String} {idx : Nat} (h : Cond.methodLink own idx yX9_restore ∈ TB) : CV own idx mX9_restore 0 9 := ⟨⟨h, inTB 1044 (by decide +kernel) (by decide +kernel), inTB 1045 (by decide +kernel) (by decide +kernel), iniX9, cd_X9_restore⟩, rfl, by decide +kernel, by decide⟩
set_option maxRecDepth 100000 in
theorem cd_X9_say : Cond.code yX9_say cX9_say 3 none ∈ TB := inTB 1063 (by decide +kernel) (by decide +kernel)
set_option maxRecDepth 100000 in
theorem cv_X9_say {own : String} {idx : Nat} (h : Cond.methodLink own idx yX9_say ∈ TB) : CV own idx mX9_say 1 9 := ⟨⟨h, inTB 1062 (by decide +kernel) (by decide +kernel), inTB 39 (by decide +kernel) (by decide +kernel), iniX9, cd_X9_say⟩, rfl, by decide +kernel, by decide⟩
set_option maxRecDepth 100000 in
theorem cd_X9_sayGuest : Cond.code yX9_sayGuest cX9_sayGuest 3 none ∈ TB := inTB 1068 (by decide +kernel) (by decide +kernel)
set_option maxRecDepth 100000 in
theorem cv_X9_sayGuest {own : String} {idx : Nat} (h : Cond.methodLink own idx yX9_sayGuest ∈ TB) : CV own idx mX9_sayGuest 1 9 := ⟨⟨h, inTB 1067 (by decide +kernel) (by decide +kernel), inTB 40 (by decide +kernel) (by decide +kernel), iniX9, cd_X9_sayGuest⟩, rfl, by decide +kernel, by decide⟩
set_option maxRecDepth 100000 in
theorem cd_X9_swayBy : Cond.code yX9_swayBy cX9_swayBy 4 (some .int) ∈ TB := inTB 889 (by decide +kernel) (by decide +kernel)
set_option maxRecDepth 100000 in
theorem cv_X9_swayBy {own : String} {idx : Nat} (h : Cond.methodLink own idx yX9_swayBy ∈ TB) : CV own idx mX9_swayBy 2 9 := ⟨⟨h, inTB 888 (by decide +kernel) (by decide +kernel), inTB 21 (by decide +kernel) (by decide +kernel), iniX9, cd_X9_swayBy⟩, rfl, by decide +kernel, by decide⟩
set_option maxRecDepth 100000 in
theorem cd_X9_takes : Cond.code yX9_takes cX9_takes 2 (some .int) ∈ TB := inTB 914 (by decide +kernel) (by decide +kernel)
set_option maxRecDepth 100000 in
theorem cv_X9_takes {own : String} {idx : Nat} (h : Cond.methodLink own idx yX9_takes ∈ TB) : CV own idx mX9_takes 1 9 := ⟨⟨h, inTB 912 (by decide +kernel) (by decide +kernel), inTB 913 (by decide +kernel) (by decide +kernel), iniX9, cd_X9_takes⟩, rfl, by decide +kernel, by decide⟩
set_option maxRecDepth 100000 in
theorem cd_X9_tell : Cond.code yX9_tell cX9_tell 3 (some .int) ∈ TB := inTB 885 (by decide +kernel) (by decide +kernel)
set_option maxRecDepth 100000 in
theorem cv_X9_tell {own : String} {idx : Nat} (h : Cond.methodLink own idx yX9_tell ∈ TB) : CV own idx mX9_tell 2 9 := ⟨⟨h, inTB 884 (by decide +kernel) (by decide +kernel), inTB 20 (by decide +kernel) (by decide +kernel), iniX9, cd_X9_tell⟩, rfl, by decide +kernel, by decide⟩
set_option maxRecDepth 100000 in
theorem cd_X9_tellDish : Cond.code yX9_tellDish cX9_tellDish 3 (some .int) ∈ TB := inTB 860 (by decide +kernel) (by decide +kernel)
set_option maxRecDepth 100000 in
theorem cv_X9_tellDish {own : String} {idx : Nat} (h : Cond.methodLink own idx yX9_tellDish ∈ TB) : CV own idx mX9_tellDish 2 9 := ⟨⟨h, inTB 859 (by decide +kernel) (by decide +kernel), inTB 16 (by decide +kernel) (by decide +kernel), iniX9, cd_X9_tellDish⟩, rfl, by decide +kernel, by decide⟩
set_option maxRecDepth 100000 in
theorem cd_X9_urge : Cond.code yX9_urge cX9_urge 4 (some .int) ∈ TB := inTB 909 (by decide +kernel) (by decide +kernel)
set_option maxRecDepth 100000 in
theorem cv_X9_urge {own : String} {idx : Nat} (h : Cond.methodLink own idx yX9_urge ∈ TB) : CV own idx mX9_urge 2 9 := ⟨⟨h, inTB 907 (by decide +kernel) (by decide +kernel), inTB 908 (by decide +kernel) (by decide +kernel), iniX9, cd_X9_urge⟩, rfl, by decide +kernel, by decide⟩
set_option maxRecDepth 100000 in
theorem cd_X9_urges : Cond.code yX9_urges cX9_urges 5 (some .int) ∈ TB := inTB 1005 (by decide +kernel) (by decide +kernel)
set_option maxRecDepth 100000 in
theorem cv_X9_urges {own : String} {idx : Nat} (h : Cond.methodLink own idx yX9_urges ∈ TB) : CV own idx mX9_urges 3 9 := ⟨⟨h, inTB 1003 (by decide +kernel) (by decide +kernel), inTB 1004 (by decide +kernel) (by decide +kernel), iniX9, cd_X9_urges⟩, rfl, by decide +kernel, by decide⟩
set_option maxRecDepth 100000 in
theorem cd_X9_valueOf : Cond.code yX9_valueOf cX9_valueOf 5 (some .int) ∈ TB := inTB 930 (by decide +kernel) (by decide +kernel)
set_option maxRecDepth 100000 in
theorem cv_X9_valueOf {own : String} {idx : Nat} (h : Cond.methodLink own idx yX9_valueOf ∈ TB) : CV own idx mX9_valueOf 3 9 := ⟨⟨h, inTB 929 (by decide +kernel) (by decide +kernel), inTB 26 (by decide +kernel) (by decide +kernel), iniX9, cd_X9_valueOf⟩, rfl, by decide +kernel, by decide⟩
set_option maxRecDepth 100000 in
theorem cd_X9_want : Cond.code yX9_want cX9_want 5 (some .int) ∈ TB := inTB 901 (by decide +kernel) (by decide +kernel)
set_option maxRecDepth 100000 in
theorem cv_X9_want {own : String} {idx : Nat} (h : Cond.methodLink own idx yX9_want ∈ TB) : CV own idx mX9_want 3 9 := ⟨⟨h, inTB 899 (by decide +kernel) (by decide +kernel), inTB 900 (by decide +kernel) (by decide +kernel), iniX9, cd_X9_want⟩, rfl, by decide +kernel, by decide⟩
theorem kiJ6_265 : Cond.constant RJ6 265 1431655765 ∈ TB := inTB 566 (by decide +kernel) (by decide +kernel)
theorem kiJ6_266 : Cond.constant RJ6 266 858993459 ∈ TB := inTB 567 (by decide +kernel) (by decide +kernel)
theorem kiJ6_267 : Cond.constant RJ6 267 252645135 ∈ TB := inTB 568 (by decide +kernel) (by decide +kernel)
set_option maxRecDepth 100000 in
theorem cvL_13 : CV RL 13 mX8_letter 1 8 := cv_X8_letter (own := RL) (idx := 13) (inTB 335 (by decide +kernel) (by decide +kernel))
set_option maxRecDepth 100000 in
theorem cvL_17 : CV RL 17 mX9_letter 1 9 := cv_X9_letter (own := RL) (idx := 17) (inTB 820 (by decide +kernel) (by decide +kernel))
set_option maxRecDepth 100000 in
theorem cvL_18 : CV RL 18 mX8_blank 0 8 := cv_X8_blank (own := RL) (idx := 18) (inTB 342 (by decide +kernel) (by decide +kernel))
set_option maxRecDepth 100000 in
theorem cvL_22 : CV RL 22 mX9_blank 0 9 := cv_X9_blank (own := RL) (idx := 22) (inTB 828 (by decide +kernel) (by decide +kernel))
set_option maxRecDepth 100000 in
theorem cvL_23 : CV RL 23 mX8_fault 0 8 := cv_X8_fault (own := RL) (idx := 23) (inTB 346 (by decide +kernel) (by decide +kernel))
set_option maxRecDepth 100000 in
theorem cvL_26 : CV RL 26 mX9_fault 0 9 := cv_X9_fault (own := RL) (idx := 26) (inTB 832 (by decide +kernel) (by decide +kernel))
set_option maxRecDepth 100000 in
theorem cvL_27 : CV RL 27 mX8_card 0 8 := cv_X8_card (own := RL) (idx := 27) (inTB 358 (by decide +kernel) (by decide +kernel))
set_option maxRecDepth 100000 in
theorem cvL_30 : CV RL 30 mX9_card 0 9 := cv_X9_card (own := RL) (idx := 30) (inTB 845 (by decide +kernel) (by decide +kernel))
set_option maxRecDepth 100000 in
theorem cvL_31 : CV RL 31 mX8_dish 2 8 := cv_X8_dish (own := RL) (idx := 31) (inTB 382 (by decide +kernel) (by decide +kernel))
set_option maxRecDepth 100000 in
theorem cvL_35 : CV RL 35 mX9_dish 2 9 := cv_X9_dish (own := RL) (idx := 35) (inTB 849 (by decide +kernel) (by decide +kernel))
set_option maxRecDepth 100000 in
theorem cvL_36 : CV RL 36 mX8_guest 2 8 := cv_X8_guest (own := RL) (idx := 36) (inTB 390 (by decide +kernel) (by decide +kernel))
set_option maxRecDepth 100000 in
theorem cvL_39 : CV RL 39 mX9_guest 2 9 := cv_X9_guest (own := RL) (idx := 39) (inTB 865 (by decide +kernel) (by decide +kernel))
set_option maxRecDepth 100000 in
theorem cvL_40 : CV RL 40 mX8_about 2 8 := cv_X8_about (own := RL) (idx := 40) (inTB 404 (by decide +kernel) (by decide +kernel))
set_option maxRecDepth 100000 in
theorem cvL_43 : CV RL 43 mX9_about 2 9 := cv_X9_about (own := RL) (idx := 43) (inTB 874 (by decide +kernel) (by decide +kernel))
set_option maxRecDepth 100000 in
theorem cvL_44 : CV RL 44 mX8_as 2 8 := cv_X8_as (own := RL) (idx := 44) (inTB 416 (by decide +kernel) (by decide +kernel))
set_option maxRecDepth 100000 in
theorem cvL_47 : CV RL 47 mX9_as 2 9 := cv_X9_as (own := RL) (idx := 47) (inTB 894 (by decide +kernel) (by decide +kernel))
set_option maxRecDepth 100000 in
theorem cvL_48 : CV RL 48 mX8_want 3 8 := cv_X8_want (own := RL) (idx := 48) (inTB 424 (by decide +kernel) (by decide +kernel))
set_option maxRecDepth 100000 in
theorem cvL_52 : CV RL 52 mX9_want 3 9 := cv_X9_want (own := RL) (idx := 52) (inTB 898 (by decide +kernel) (by decide +kernel))
set_option maxRecDepth 100000 in
theorem cvL_53 : CV RL 53 mX8_purse 2 8 := cv_X8_purse (own := RL) (idx := 53) (inTB 428 (by decide +kernel) (by decide +kernel))
set_option maxRecDepth 100000 in
theorem cvL_56 : CV RL 56 mX9_purse 2 9 := cv_X9_purse (own := RL) (idx := 56) (inTB 902 (by decide +kernel) (by decide +kernel))
set_option maxRecDepth 100000 in
theorem cvL_57 : CV RL 57 mX8_urge 2 8 := cv_X8_urge (own := RL) (idx := 57) (inTB 432 (by decide +kernel) (by decide +kernel))
set_option maxRecDepth 100000 in
theorem cvL_60 : CV RL 60 mX9_urge 2 9 := cv_X9_urge (own := RL) (idx := 60) (inTB 906 (by decide +kernel) (by decide +kernel))
set_option maxRecDepth 100000 in
theorem cvL_61 : CV RL 61 mX8_takes 1 8 := cv_X8_takes (own := RL) (idx := 61) (inTB 436 (by decide +kernel) (by decide +kernel))
set_option maxRecDepth 100000 in
theorem cvL_64 : CV RL 64 mX9_takes 1 9 := cv_X9_takes (own := RL) (idx := 64) (inTB 911 (by decide +kernel) (by decide +kernel))
set_option maxRecDepth 100000 in
theorem cvL_65 : CV RL 65 mX8_order 1 8 := cv_X8_order (own := RL) (idx := 65) (inTB 452 (by decide +kernel) (by decide +kernel))
set_option maxRecDepth 100000 in
theorem cvL_68 : CV RL 68 mX9_order 1 9 := cv_X9_order (own := RL) (idx := 68) (inTB 931 (by decide +kernel) (by decide +kernel))
set_option maxRecDepth 100000 in
theorem cvL_69 : CV RL 69 mX8_clear 0 8 := cv_X8_clear (own := RL) (idx := 69) (inTB 461 (by decide +kernel) (by decide +kernel))
set_option maxRecDepth 100000 in
theorem cvL_72 : CV RL 72 mX9_clear 0 9 := cv_X9_clear (own := RL) (idx := 72) (inTB 935 (by decide +kernel) (by decide +kernel))
set_option maxRecDepth 100000 in
theorem cvL_73 : CV RL 73 mX8_inTurn 2 8 := cv_X8_inTurn (own := RL) (idx := 73) (inTB 469 (by decide +kernel) (by decide +kernel))
set_option maxRecDepth 100000 in
theorem cvL_76 : CV RL 76 mX9_inTurn 2 9 := cv_X9_inTurn (own := RL) (idx := 76) (inTB 943 (by decide +kernel) (by decide +kernel))
set_option maxRecDepth 100000 in
theorem cvL_77 : CV RL 77 mX8_begin 2 8 := cv_X8_begin (own := RL) (idx := 77) (inTB 493 (by decide +kernel) (by decide +kernel))
set_option maxRecDepth 100000 in
theorem cvL_80 : CV RL 80 mX9_begin 2 9 := cv_X9_begin (own := RL) (idx := 80) (inTB 951 (by decide +kernel) (by decide +kernel))
set_option maxRecDepth 100000 in
theorem cvL_81 : CV RL 81 mX8_atOnce 1 8 := cv_X8_atOnce (own := RL) (idx := 81) (inTB 512 (by decide +kernel) (by decide +kernel))
set_option maxRecDepth 100000 in
theorem cvL_84 : CV RL 84 mX9_atOnce 1 9 := cv_X9_atOnce (own := RL) (idx := 84) (inTB 963 (by decide +kernel) (by decide +kernel))
set_option maxRecDepth 100000 in
theorem cvL_85 : CV RL 85 mX8_minds 1 8 := cv_X8_minds (own := RL) (idx := 85) (inTB 536 (by decide +kernel) (by decide +kernel))
set_option maxRecDepth 100000 in
theorem cvL_88 : CV RL 88 mX9_minds 1 9 := cv_X9_minds (own := RL) (idx := 88) (inTB 975 (by decide +kernel) (by decide +kernel))
set_option maxRecDepth 100000 in
theorem cvL_89 : CV RL 89 mX8_host 0 8 := cv_X8_host (own := RL) (idx := 89) (inTB 551 (by decide +kernel) (by decide +kernel))
set_option maxRecDepth 100000 in
theorem cvL_92 : CV RL 92 mX9_host 0 9 := cv_X9_host (own := RL) (idx := 92) (inTB 983 (by decide +kernel) (by decide +kernel))
set_option maxRecDepth 100000 in
theorem cvL_93 : CV RL 93 mX8_fewest 1 8 := cv_X8_fewest (own := RL) (idx := 93) (inTB 569 (by decide +kernel) (by decide +kernel))
set_option maxRecDepth 100000 in
theorem cvL_96 : CV RL 96 mX9_fewest 1 9 := cv_X9_fewest (own := RL) (idx := 96) (inTB 991 (by decide +kernel) (by decide +kernel))
set_option maxRecDepth 100000 in
theorem cvL_97 : CV RL 97 mX8_urges 3 8 := cv_X8_urges (own := RL) (idx := 97) (inTB 582 (by decide +kernel) (by decide +kernel))
set_option maxRecDepth 100000 in
theorem cvL_100 : CV RL 100 mX9_urges 3 9 := cv_X9_urges (own := RL) (idx := 100) (inTB 1002 (by decide +kernel) (by decide +kernel))
set_option maxRecDepth 100000 in
theorem cvL_101 : CV RL 101 mX8_evening 3 8 := cv_X8_evening (own := RL) (idx := 101) (inTB 590 (by decide +kernel) (by decide +kernel))
set_option maxRecDepth 100000 in
theorem cvL_104 : CV RL 104 mX9_evening 3 9 := cv_X9_evening (own := RL) (idx := 104) (inTB 1007 (by decide +kernel) (by decide +kernel))
set_option maxRecDepth 100000 in
theorem cvL_105 : CV RL 105 mX8_forget 0 8 := cv_X8_forget (own := RL) (idx := 105) (inTB 598 (by decide +kernel) (by decide +kernel))
set_option maxRecDepth 100000 in
theorem cvL_108 : CV RL 108 mX9_forget 0 9 := cv_X9_forget (own := RL) (idx := 108) (inTB 1011 (by decide +kernel) (by decide +kernel))
set_option maxRecDepth 100000 in
theorem cvL_109 : CV RL 109 mX8_fits 1 8 := cv_X8_fits (own := RL) (idx := 109) (inTB 602 (by decide +kernel) (by decide +kernel))
set_option maxRecDepth 100000 in
theorem cvL_112 : CV RL 112 mX9_fits 1 9 := cv_X9_fits (own := RL) (idx := 112) (inTB 1015 (by decide +kernel) (by decide +kernel))
set_option maxRecDepth 100000 in
theorem cvL_113 : CV RL 113 mX8_evenings 3 8 := cv_X8_evenings (own := RL) (idx := 113) (inTB 617 (by decide +kernel) (by decide +kernel))
set_option maxRecDepth 100000 in
theorem cvL_116 : CV RL 116 mX9_evenings 3 9 := cv_X9_evenings (own := RL) (idx := 116) (inTB 1023 (by decide +kernel) (by decide +kernel))
set_option maxRecDepth 100000 in
theorem cvL_117 : CV RL 117 mX8_image 0 8 := cv_X8_image (own := RL) (idx := 117) (inTB 644 (by decide +kernel) (by decide +kernel))
set_option maxRecDepth 100000 in
theorem cvL_120 : CV RL 120 mX9_image 0 9 := cv_X9_image (own := RL) (idx := 120) (inTB 1039 (by decide +kernel) (by decide +kernel))
set_option maxRecDepth 100000 in
theorem cvL_121 : CV RL 121 mX8_restore 0 8 := cv_X8_restore (own := RL) (idx := 121) (inTB 663 (by decide +kernel) (by decide +kernel))
set_option maxRecDepth 100000 in
theorem cvL_124 : CV RL 124 mX9_restore 0 9 := cv_X9_restore (own := RL) (idx := 124) (inTB 1043 (by decide +kernel) (by decide +kernel))
set_option maxRecDepth 100000 in
theorem cvL_125 : CV RL 125 mX8_count 1 8 := cv_X8_count (own := RL) (idx := 125) (inTB 672 (by decide +kernel) (by decide +kernel))
set_option maxRecDepth 100000 in
theorem cvL_128 : CV RL 128 mX9_count 1 9 := cv_X9_count (own := RL) (idx := 128) (inTB 1047 (by decide +kernel) (by decide +kernel))
set_option maxRecDepth 100000 in
theorem cvL_129 : CV RL 129 mX8_digest 0 8 := cv_X8_digest (own := RL) (idx := 129) (inTB 677 (by decide +kernel) (by decide +kernel))
set_option maxRecDepth 100000 in
theorem cvL_133 : CV RL 133 mX9_digest 0 9 := cv_X9_digest (own := RL) (idx := 133) (inTB 1055 (by decide +kernel) (by decide +kernel))
set_option maxRecDepth 100000 in
theorem flX0_11 : FL RX0 11 0 4 := ⟨_, _, _, _, cfX0, by decide, inTB 246 (by decide +kernel) (by decide +kernel)⟩
set_option maxRecDepth 100000 in
theorem flX0_15 : FL RX0 15 0 5 := ⟨_, _, _, _, cfX0, by decide, inTB 247 (by decide +kernel) (by decide +kernel)⟩
set_option maxRecDepth 100000 in
theorem flX0_20 : FL RX0 20 0 6 := ⟨_, _, _, _, cfX0, by decide, inTB 248 (by decide +kernel) (by decide +kernel)⟩
set_option maxRecDepth 100000 in
theorem flX0_23 : FL RX0 23 0 0 := ⟨_, _, _, _, cfX0, by decide, inTB 242 (by decide +kernel) (by decide +kernel)⟩
set_option maxRecDepth 100000 in
theorem flX0_27 : FL RX0 27 0 1 := ⟨_, _, _, _, cfX0, by decide, inTB 243 (by decide +kernel) (by decide +kernel)⟩
set_option maxRecDepth 100000 in
theorem flX0_31 : FL RX0 31 0 2 := ⟨_, _, _, _, cfX0, by decide, inTB 244 (by decide +kernel) (by decide +kernel)⟩
set_option maxRecDepth 100000 in
theorem flX0_40 : FL RX0 40 0 3 := ⟨_, _, _, _, cfX0, by decide, inTB 245 (by decide +kernel) (by decide +kernel)⟩
set_option maxRecDepth 100000 in
theorem flX0_46 : FL RX0 46 4 3 := ⟨_, _, _, _, cfX4, by decide, inTB 98 (by decide +kernel) (by decide +kernel)⟩
set_option maxRecDepth 100000 in
theorem flX0_53 : FL RX0 53 7 6 := ⟨_, _, _, _, cfX7, by decide, inTB 181 (by decide +kernel) (by decide +kernel)⟩
set_option maxRecDepth 100000 in
theorem flX0_56 : FL RX0 56 7 7 := ⟨_, _, _, _, cfX7, by decide, inTB 183 (by decide +kernel) (by decide +kernel)⟩
set_option maxRecDepth 100000 in
theorem flX0_63 : FL RX0 63 6 1 := ⟨_, _, _, _, cfX6, by decide, inTB 154 (by decide +kernel) (by decide +kernel)⟩
set_option maxRecDepth 100000 in
theorem flX0_86 : FL RX0 86 7 4 := ⟨_, _, _, _, cfX7, by decide, inTB 176 (by decide +kernel) (by decide +kernel)⟩
set_option maxRecDepth 100000 in
theorem flX0_99 : FL RX0 99 0 7 := ⟨_, _, _, _, cfX0, by decide, inTB 249 (by decide +kernel) (by decide +kernel)⟩
set_option maxRecDepth 100000 in
theorem flX0_102 : FL RX0 102 0 8 := ⟨_, _, _, _, cfX0, by decide, inTB 251 (by decide +kernel) (by decide +kernel)⟩
set_option maxRecDepth 100000 in
theorem flX0_117 : FL RX0 117 4 2 := ⟨_, _, _, _, cfX4, by decide, inTB 97 (by decide +kernel) (by decide +kernel)⟩
set_option maxRecDepth 100000 in
theorem flX0_134 : FL RX0 134 6 0 := ⟨_, _, _, _, cfX6, by decide, inTB 151 (by decide +kernel) (by decide +kernel)⟩
set_option maxRecDepth 100000 in
theorem flX0_138 : FL RX0 138 4 1 := ⟨_, _, _, _, cfX4, by decide, inTB 93 (by decide +kernel) (by decide +kernel)⟩
set_option maxRecDepth 100000 in
theorem flX0_141 : FL RX0 141 1 2 := ⟨_, _, _, _, cfX1, by decide, inTB 134 (by decide +kernel) (by decide +kernel)⟩
set_option maxRecDepth 100000 in
theorem flX0_151 : FL RX0 151 4 0 := ⟨_, _, _, _, cfX4, by decide, inTB 89 (by decide +kernel) (by decide +kernel)⟩
set_option maxRecDepth 100000 in
theorem flX0_154 : FL RX0 154 1 0 := ⟨_, _, _, _, cfX1, by decide, inTB 127 (by decide +kernel) (by decide +kernel)⟩
set_option maxRecDepth 100000 in
theorem flX0_160 : FL RX0 160 7 3 := ⟨_, _, _, _, cfX7, by decide, inTB 174 (by decide +kernel) (by decide +kernel)⟩
set_option maxRecDepth 100000 in
theorem flX0_167 : FL RX0 167 3 3 := ⟨_, _, _, _, cfX3, by decide, inTB 222 (by decide +kernel) (by decide +kernel)⟩
set_option maxRecDepth 100000 in
theorem flX0_170 : FL RX0 170 3 0 := ⟨_, _, _, _, cfX3, by decide, inTB 215 (by decide +kernel) (by decide +kernel)⟩
set_option maxRecDepth 100000 in
theorem flX0_173 : FL RX0 173 3 1 := ⟨_, _, _, _, cfX3, by decide, inTB 217 (by decide +kernel) (by decide +kernel)⟩
set_option maxRecDepth 100000 in
theorem flX0_176 : FL RX0 176 3 2 := ⟨_, _, _, _, cfX3, by decide, inTB 219 (by decide +kernel) (by decide +kernel)⟩
set_option maxRecDepth 100000 in
theorem flX0_179 : FL RX0 179 0 9 := ⟨_, _, _, _, cfX0, by decide, inTB 253 (by decide +kernel) (by decide +kernel)⟩
set_option maxRecDepth 100000 in
theorem csX0_112 : CS RX0 112 mJ9_max_7cf53 2 := cs_J9_max_7cf53 (own := RX0) (idx := 112) (inTB 528 (by decide +kernel) (by decide +kernel))
set_option maxRecDepth 100000 in
theorem csX0_146 : CS RX0 146 mJ6_bitCount_0f7a4 1 := cs_J6_bitCount_0f7a4 (own := RX0) (idx := 146) (inTB 563 (by decide +kernel) (by decide +kernel))
set_option maxRecDepth 100000 in
theorem cvX0_43 : CV RX0 43 mX7_wipe 0 7 := cv_X7_wipe (own := RX0) (idx := 43) (inTB 481 (by decide +kernel) (by decide +kernel))
set_option maxRecDepth 100000 in
theorem cvX0_59 : CV RX0 59 mX7_press 2 7 := cv_X7_press (own := RX0) (idx := 59) (inTB 482 (by decide +kernel) (by decide +kernel))
set_option maxRecDepth 100000 in
theorem cvX0_68 : CV RX0 68 mX6_behind 2 6 := cv_X6_behind (own := RX0) (idx := 68) (inTB 487 (by decide +kernel) (by decide +kernel))
set_option maxRecDepth 100000 in
theorem cvX0_72 : CV RX0 72 mX7_choice 1 7 := cv_X7_choice (own := RX0) (idx := 72) (inTB 491 (by decide +kernel) (by decide +kernel))
set_option maxRecDepth 100000 in
theorem cvX0_76 : CV RX0 76 mX7_give 2 7 := cv_X7_give (own := RX0) (idx := 76) (inTB 492 (by decide +kernel) (by decide +kernel))
set_option maxRecDepth 100000 in
theorem cvX0_79 : CV RX0 79 mX0_setUp 0 0 := cv_X0_setUp (own := RX0) (idx := 79) (inTB 477 (by decide +kernel) (by decide +kernel))
set_option maxRecDepth 100000 in
theorem cvX0_82 : CV RX0 82 mX0_goRound 1 0 := cv_X0_goRound (own := RX0) (idx := 82) (inTB 483 (by decide +kernel) (by decide +kernel))
set_option maxRecDepth 100000 in
theorem cvX0_89 : CV RX0 89 mX7_joyOfAll 0 7 := cv_X7_joyOfAll (own := RX0) (idx := 89) (inTB 505 (by decide +kernel) (by decide +kernel))
set_option maxRecDepth 100000 in
theorem cvX0_93 : CV RX0 93 mX7_joyOf 1 7 := cv_X7_joyOf (own := RX0) (idx := 93) (inTB 510 (by decide +kernel) (by decide +kernel))
set_option maxRecDepth 100000 in
theorem cvX0_96 : CV RX0 96 mX0_joyFrom 2 0 := cv_X0_joyFrom (own := RX0) (idx := 96) (inTB 501 (by decide +kernel) (by decide +kernel))
set_option maxRecDepth 100000 in
theorem cvX0_105 : CV RX0 105 mX0_seatOnwards 1 0 := cv_X0_seatOnwards (own := RX0) (idx := 105) (inTB 520 (by decide +kernel) (by decide +kernel))
set_option maxRecDepth 100000 in
theorem cvX0_108 : CV RX0 108 mX7_allContent 0 7 := cv_X7_allContent (own := RX0) (idx := 108) (inTB 524 (by decide +kernel) (by decide +kernel))
set_option maxRecDepth 100000 in
theorem cvX0_120 : CV RX0 120 mX7_canHave 2 7 := cv_X7_canHave (own := RX0) (idx := 120) (inTB 531 (by decide +kernel) (by decide +kernel))
set_option maxRecDepth 100000 in
theorem cvX0_124 : CV RX0 124 mX7_giveBack 1 7 := cv_X7_giveBack (own := RX0) (idx := 124) (inTB 532 (by decide +kernel) (by decide +kernel))
set_option maxRecDepth 100000 in
theorem cvX0_127 : CV RX0 127 mX7_changesMind 1 7 := cv_X7_changesMind (own := RX0) (idx := 127) (inTB 544 (by decide +kernel) (by decide +kernel))
set_option maxRecDepth 100000 in
theorem cvX0_131 : CV RX0 131 mX0_findJoyOfGroups 1 0 := cv_X0_findJoyOfGroups (own := RX0) (idx := 131) (inTB 559 (by decide +kernel) (by decide +kernel))
set_option maxRecDepth 100000 in
theorem cvX0_157 : CV RX0 157 mX0_pleasesAll 1 0 := cv_X0_pleasesAll (own := RX0) (idx := 157) (inTB 577 (by decide +kernel) (by decide +kernel))
set_option maxRecDepth 100000 in
theorem cvX0_163 : CV RX0 163 mX0_wouldFit 2 0 := cv_X0_wouldFit (own := RX0) (idx := 163) (inTB 610 (by decide +kernel) (by decide +kernel))
set_option maxRecDepth 100000 in
theorem cvX0_183 : CV RX0 183 mX6_saveWants 1 6 := cv_X6_saveWants (own := RX0) (idx := 183) (inTB 625 (by decide +kernel) (by decide +kernel))
set_option maxRecDepth 100000 in
theorem cvX0_187 : CV RX0 187 mX0_draw 1 0 := cv_X0_draw (own := RX0) (idx := 187) (inTB 632 (by decide +kernel) (by decide +kernel))
set_option maxRecDepth 100000 in
theorem cvX0_190 : CV RX0 190 mX6_loadWants 1 6 := cv_X6_loadWants (own := RX0) (idx := 190) (inTB 640 (by decide +kernel) (by decide +kernel))
theorem klX0_193 : Cond.constantLong RX0 193 1103515245 ∈ TB := inTB 636 (by decide +kernel) (by decide +kernel)
theorem klX0_195 : Cond.constantLong RX0 195 12345 ∈ TB := inTB 637 (by decide +kernel) (by decide +kernel)
theorem klX0_197 : Cond.constantLong RX0 197 2147483648 ∈ TB := inTB 638 (by decide +kernel) (by decide +kernel)
theorem klX0_199 : Cond.constantLong RX0 199 65536 ∈ TB := inTB 639 (by decide +kernel) (by decide +kernel)
set_option maxRecDepth 100000 in
theorem fwX0_52 : FW RX0 52 7 8 .int := ⟨_, _, _, _, cfX7, by decide, inTB 186 (by decide +kernel) (by decide +kernel), rfl, rfl⟩
set_option maxRecDepth 100000 in
theorem fwX0_99 : FW RX0 99 0 7 .int := ⟨_, _, _, _, cfX0, by decide, inTB 249 (by decide +kernel) (by decide +kernel), rfl, rfl⟩
set_option maxRecDepth 100000 in
theorem fwX0_102 : FW RX0 102 0 8 .int := ⟨_, _, _, _, cfX0, by decide, inTB 251 (by decide +kernel) (by decide +kernel), rfl, rfl⟩
set_option maxRecDepth 100000 in
theorem fwX0_179 : FW RX0 179 0 9 .long := ⟨_, _, _, _, cfX0, by decide, inTB 253 (by decide +kernel) (by decide +kernel), rfl, rfl⟩
set_option maxRecDepth 100000 in
theorem flX1_9 : FL RX1 9 1 0 := ⟨_, _, _, _, cfX1, by decide, inTB 123 (by decide +kernel) (by decide +kernel)⟩
set_option maxRecDepth 100000 in
theorem flX1_15 : FL RX1 15 1 1 := ⟨_, _, _, _, cfX1, by decide, inTB 128 (by decide +kernel) (by decide +kernel)⟩
set_option maxRecDepth 100000 in
theorem fwX1_15 : FW RX1 15 1 1 .int := ⟨_, _, _, _, cfX1, by decide, inTB 128 (by decide +kernel) (by decide +kernel), rfl, rfl⟩
set_option maxRecDepth 100000 in
theorem fwX1_19 : FW RX1 19 1 2 .int := ⟨_, _, _, _, cfX1, by decide, inTB 130 (by decide +kernel) (by decide +kernel), rfl, rfl⟩
set_option maxRecDepth 100000 in
theorem fwX1_25 : FW RX1 25 1 3 .int := ⟨_, _, _, _, cfX1, by decide, inTB 135 (by decide +kernel) (by decide +kernel), rfl, rfl⟩
set_option maxRecDepth 100000 in
theorem flX2_11 : FL RX2 11 2 2 := ⟨_, _, _, _, cfX2, by decide, inTB 289 (by decide +kernel) (by decide +kernel)⟩
set_option maxRecDepth 100000 in
theorem flX2_16 : FL RX2 16 2 3 := ⟨_, _, _, _, cfX2, by decide, inTB 290 (by decide +kernel) (by decide +kernel)⟩
set_option maxRecDepth 100000 in
theorem flX2_25 : FL RX2 25 2 0 := ⟨_, _, _, _, cfX2, by decide, inTB 287 (by decide +kernel) (by decide +kernel)⟩
set_option maxRecDepth 100000 in
theorem flX2_32 : FL RX2 32 2 1 := ⟨_, _, _, _, cfX2, by decide, inTB 288 (by decide +kernel) (by decide +kernel)⟩
set_option maxRecDepth 100000 in
theorem flX2_43 : FL RX2 43 6 1 := ⟨_, _, _, _, cfX6, by decide, inTB 153 (by decide +kernel) (by decide +kernel)⟩
set_option maxRecDepth 100000 in
theorem flX2_56 : FL RX2 56 6 0 := ⟨_, _, _, _, cfX6, by decide, inTB 148 (by decide +kernel) (by decide +kernel)⟩
set_option maxRecDepth 100000 in
theorem flX2_60 : FL RX2 60 1 2 := ⟨_, _, _, _, cfX1, by decide, inTB 131 (by decide +kernel) (by decide +kernel)⟩
set_option maxRecDepth 100000 in
theorem cvX2_36 : CV RX2 36 mX7_copyFrom 1 7 := cv_X7_copyFrom (own := RX2) (idx := 36) (inTB 652 (by decide +kernel) (by decide +kernel))
set_option maxRecDepth 100000 in
theorem cvX2_40 : CV RX2 40 mX3_copyFrom 1 3 := cv_X3_copyFrom (own := RX2) (idx := 40) (inTB 657 (by decide +kernel) (by decide +kernel))
set_option maxRecDepth 100000 in
theorem cvX2_52 : CV RX2 52 mX6_saveWants 1 6 := cv_X6_saveWants (own := RX2) (idx := 52) (inTB 662 (by decide +kernel) (by decide +kernel))
set_option maxRecDepth 100000 in
theorem cvX2_65 : CV RX2 65 mX6_loadWants 1 6 := cv_X6_loadWants (own := RX2) (idx := 65) (inTB 671 (by decide +kernel) (by decide +kernel))
set_option maxRecDepth 100000 in
theorem fwX2_49 : FW RX2 49 2 4 .int := ⟨_, _, _, _, cfX2, by decide, inTB 291 (by decide +kernel) (by decide +kernel), rfl, rfl⟩
set_option maxRecDepth 100000 in
theorem fwX2_60 : FW RX2 60 1 2 .int := ⟨_, _, _, _, cfX1, by decide, inTB 131 (by decide +kernel) (by decide +kernel), rfl, rfl⟩
set_option maxRecDepth 100000 in
theorem flX3_9 : FL RX3 9 3 0 := ⟨_, _, _, _, cfX3, by decide, inTB 214 (by decide +kernel) (by decide +kernel)⟩
set_option maxRecDepth 100000 in
theorem flX3_15 : FL RX3 15 3 1 := ⟨_, _, _, _, cfX3, by decide, inTB 216 (by decide +kernel) (by decide +kernel)⟩
set_option maxRecDepth 100000 in
theorem flX3_18 : FL RX3 18 3 2 := ⟨_, _, _, _, cfX3, by decide, inTB 218 (by decide +kernel) (by decide +kernel)⟩
set_option maxRecDepth 100000 in
theorem flX3_21 : FL RX3 21 3 3 := ⟨_, _, _, _, cfX3, by decide, inTB 220 (by decide +kernel) (by decide +kernel)⟩
set_option maxRecDepth 100000 in
theorem acX3_25 : Cond.methodLink RX3 25 arraycopyName ∈ TB := inTB 661 (by decide +kernel) (by decide +kernel)
set_option maxRecDepth 100000 in
theorem fwX3_21 : FW RX3 21 3 3 .int := ⟨_, _, _, _, cfX3, by decide, inTB 220 (by decide +kernel) (by decide +kernel), rfl, rfl⟩
set_option maxRecDepth 100000 in
theorem flX4_9 : FL RX4 9 4 0 := ⟨_, _, _, _, cfX4, by decide, inTB 87 (by decide +kernel) (by decide +kernel)⟩
set_option maxRecDepth 100000 in
theorem flX4_15 : FL RX4 15 4 1 := ⟨_, _, _, _, cfX4, by decide, inTB 90 (by decide +kernel) (by decide +kernel)⟩
set_option maxRecDepth 100000 in
theorem flX4_18 : FL RX4 18 5 1 := ⟨_, _, _, _, cfX5, by decide, inTB 72 (by decide +kernel) (by decide +kernel)⟩
set_option maxRecDepth 100000 in
theorem flX4_30 : FL RX4 30 4 2 := ⟨_, _, _, _, cfX4, by decide, inTB 94 (by decide +kernel) (by decide +kernel)⟩
set_option maxRecDepth 100000 in
theorem flX4_33 : FL RX4 33 5 0 := ⟨_, _, _, _, cfX5, by decide, inTB 70 (by decide +kernel) (by decide +kernel)⟩
set_option maxRecDepth 100000 in
theorem csX4_24 : CS RX4 24 mJ9_min_7cf53 2 := cs_J9_min_7cf53 (own := RX4) (idx := 24) (inTB 371 (by decide +kernel) (by decide +kernel))
set_option maxRecDepth 100000 in
theorem fwX4_30 : FW RX4 30 4 2 .int := ⟨_, _, _, _, cfX4, by decide, inTB 94 (by decide +kernel) (by decide +kernel), rfl, rfl⟩
set_option maxRecDepth 100000 in
theorem fwX4_36 : FW RX4 36 4 3 .int := ⟨_, _, _, _, cfX4, by decide, inTB 99 (by decide +kernel) (by decide +kernel), rfl, rfl⟩
set_option maxRecDepth 100000 in
theorem flX5_9 : FL RX5 9 5 0 := ⟨_, _, _, _, cfX5, by decide, inTB 69 (by decide +kernel) (by decide +kernel)⟩
set_option maxRecDepth 100000 in
theorem flX5_15 : FL RX5 15 5 1 := ⟨_, _, _, _, cfX5, by decide, inTB 73 (by decide +kernel) (by decide +kernel)⟩
set_option maxRecDepth 100000 in
theorem cvX5_19 : CV RX5 19 mX5_isGood 1 5 := cv_X5_isGood (own := RX5) (idx := 19) (inTB 354 (by decide +kernel) (by decide +kernel))
set_option maxRecDepth 100000 in
theorem cvX5_23 : CV RX5 23 mX5_firstFault 0 5 := cv_X5_firstFault (own := RX5) (idx := 23) (inTB 366 (by decide +kernel) (by decide +kernel))
set_option maxRecDepth 100000 in
theorem flX6_11 : FL RX6 11 6 0 := ⟨_, _, _, _, cfX6, by decide, inTB 147 (by decide +kernel) (by decide +kernel)⟩
set_option maxRecDepth 100000 in
theorem flX6_18 : FL RX6 18 6 1 := ⟨_, _, _, _, cfX6, by decide, inTB 152 (by decide +kernel) (by decide +kernel)⟩
set_option maxRecDepth 100000 in
theorem flX6_22 : FL RX6 22 1 0 := ⟨_, _, _, _, cfX1, by decide, inTB 124 (by decide +kernel) (by decide +kernel)⟩
set_option maxRecDepth 100000 in
theorem acX6_26 : Cond.methodLink RX6 26 arraycopyName ∈ TB := inTB 629 (by decide +kernel) (by decide +kernel)
set_option maxRecDepth 100000 in
theorem flX7_9 : FL RX7 9 7 2 := ⟨_, _, _, _, cfX7, by decide, inTB 170 (by decide +kernel) (by decide +kernel)⟩
set_option maxRecDepth 100000 in
theorem flX7_15 : FL RX7 15 7 3 := ⟨_, _, _, _, cfX7, by decide, inTB 172 (by decide +kernel) (by decide +kernel)⟩
set_option maxRecDepth 100000 in
theorem flX7_18 : FL RX7 18 7 4 := ⟨_, _, _, _, cfX7, by decide, inTB 175 (by decide +kernel) (by decide +kernel)⟩
set_option maxRecDepth 100000 in
theorem flX7_21 : FL RX7 21 7 5 := ⟨_, _, _, _, cfX7, by decide, inTB 178 (by decide +kernel) (by decide +kernel)⟩
set_option maxRecDepth 100000 in
theorem flX7_24 : FL RX7 24 7 6 := ⟨_, _, _, _, cfX7, by decide, inTB 180 (by decide +kernel) (by decide +kernel)⟩
set_option maxRecDepth 100000 in
theorem flX7_28 : FL RX7 28 7 0 := ⟨_, _, _, _, cfX7, by decide, inTB 168 (by decide +kernel) (by decide +kernel)⟩
set_option maxRecDepth 100000 in
theorem flX7_32 : FL RX7 32 7 1 := ⟨_, _, _, _, cfX7, by decide, inTB 169 (by decide +kernel) (by decide +kernel)⟩
set_option maxRecDepth 100000 in
theorem flX7_36 : FL RX7 36 4 0 := ⟨_, _, _, _, cfX4, by decide, inTB 88 (by decide +kernel) (by decide +kernel)⟩
set_option maxRecDepth 100000 in
theorem flX7_41 : FL RX7 41 7 7 := ⟨_, _, _, _, cfX7, by decide, inTB 184 (by decide +kernel) (by decide +kernel)⟩
set_option maxRecDepth 100000 in
theorem flX7_44 : FL RX7 44 4 1 := ⟨_, _, _, _, cfX4, by decide, inTB 91 (by decide +kernel) (by decide +kernel)⟩
set_option maxRecDepth 100000 in
theorem flX7_47 : FL RX7 47 6 0 := ⟨_, _, _, _, cfX6, by decide, inTB 149 (by decide +kernel) (by decide +kernel)⟩
set_option maxRecDepth 100000 in
theorem flX7_53 : FL RX7 53 1 2 := ⟨_, _, _, _, cfX1, by decide, inTB 132 (by decide +kernel) (by decide +kernel)⟩
set_option maxRecDepth 100000 in
theorem flX7_58 : FL RX7 58 1 0 := ⟨_, _, _, _, cfX1, by decide, inTB 125 (by decide +kernel) (by decide +kernel)⟩
set_option maxRecDepth 100000 in
theorem flX7_61 : FL RX7 61 1 3 := ⟨_, _, _, _, cfX1, by decide, inTB 136 (by decide +kernel) (by decide +kernel)⟩
set_option maxRecDepth 100000 in
theorem flX7_64 : FL RX7 64 7 8 := ⟨_, _, _, _, cfX7, by decide, inTB 188 (by decide +kernel) (by decide +kernel)⟩
set_option maxRecDepth 100000 in
theorem flX7_67 : FL RX7 67 4 2 := ⟨_, _, _, _, cfX4, by decide, inTB 96 (by decide +kernel) (by decide +kernel)⟩
set_option maxRecDepth 100000 in
theorem flX7_90 : FL RX7 90 6 1 := ⟨_, _, _, _, cfX6, by decide, inTB 156 (by decide +kernel) (by decide +kernel)⟩
set_option maxRecDepth 100000 in
theorem acX7_96 : Cond.methodLink RX7 96 arraycopyName ∈ TB := inTB 656 (by decide +kernel) (by decide +kernel)
set_option maxRecDepth 100000 in
theorem cvX7_70 : CV RX7 70 mX7_canHave 2 7 := cv_X7_canHave (own := RX7) (idx := 70) (inTB 444 (by decide +kernel) (by decide +kernel))
set_option maxRecDepth 100000 in
theorem cvX7_74 : CV RX7 74 mX7_value 2 7 := cv_X7_value (own := RX7) (idx := 74) (inTB 448 (by decide +kernel) (by decide +kernel))
set_option maxRecDepth 100000 in
theorem cvX7_78 : CV RX7 78 mX7_giveBack 1 7 := cv_X7_giveBack (own := RX7) (idx := 78) (inTB 548 (by decide +kernel) (by decide +kernel))
set_option maxRecDepth 100000 in
theorem cvX7_82 : CV RX7 82 mX7_choice 1 7 := cv_X7_choice (own := RX7) (idx := 82) (inTB 549 (by decide +kernel) (by decide +kernel))
set_option maxRecDepth 100000 in
theorem cvX7_86 : CV RX7 86 mX7_give 2 7 := cv_X7_give (own := RX7) (idx := 86) (inTB 550 (by decide +kernel) (by decide +kernel))
set_option maxRecDepth 100000 in
theorem cvX7_93 : CV RX7 93 mX7_joyOf 1 7 := cv_X7_joyOf (own := RX7) (idx := 93) (inTB 509 (by decide +kernel) (by decide +kernel))
set_option maxRecDepth 100000 in
theorem fwX7_24 : FW RX7 24 7 6 .int := ⟨_, _, _, _, cfX7, by decide, inTB 180 (by decide +kernel) (by decide +kernel), rfl, rfl⟩
set_option maxRecDepth 100000 in
theorem fwX7_41 : FW RX7 41 7 7 .int := ⟨_, _, _, _, cfX7, by decide, inTB 184 (by decide +kernel) (by decide +kernel), rfl, rfl⟩
set_option maxRecDepth 100000 in
theorem fwX7_64 : FW RX7 64 7 8 .int := ⟨_, _, _, _, cfX7, by decide, inTB 188 (by decide +kernel) (by decide +kernel), rfl, rfl⟩
set_option maxRecDepth 100000 in
theorem flX8_10 : FL RX8 10 8 0 := ⟨_, _, _, _, cfX8, by decide, inTB 307 (by decide +kernel) (by decide +kernel)⟩
set_option maxRecDepth 100000 in
theorem flX8_19 : FL RX8 19 8 1 := ⟨_, _, _, _, cfX8, by decide, inTB 308 (by decide +kernel) (by decide +kernel)⟩
set_option maxRecDepth 100000 in
theorem flX8_26 : FL RX8 26 8 2 := ⟨_, _, _, _, cfX8, by decide, inTB 309 (by decide +kernel) (by decide +kernel)⟩
set_option maxRecDepth 100000 in
theorem flX8_35 : FL RX8 35 8 3 := ⟨_, _, _, _, cfX8, by decide, inTB 310 (by decide +kernel) (by decide +kernel)⟩
set_option maxRecDepth 100000 in
theorem flX8_42 : FL RX8 42 8 4 := ⟨_, _, _, _, cfX8, by decide, inTB 311 (by decide +kernel) (by decide +kernel)⟩
set_option maxRecDepth 100000 in
theorem flX8_51 : FL RX8 51 8 5 := ⟨_, _, _, _, cfX8, by decide, inTB 312 (by decide +kernel) (by decide +kernel)⟩
set_option maxRecDepth 100000 in
theorem flX8_58 : FL RX8 58 8 6 := ⟨_, _, _, _, cfX8, by decide, inTB 313 (by decide +kernel) (by decide +kernel)⟩
set_option maxRecDepth 100000 in
theorem flX8_66 : FL RX8 66 5 1 := ⟨_, _, _, _, cfX5, by decide, inTB 74 (by decide +kernel) (by decide +kernel)⟩
set_option maxRecDepth 100000 in
theorem flX8_70 : FL RX8 70 5 0 := ⟨_, _, _, _, cfX5, by decide, inTB 71 (by decide +kernel) (by decide +kernel)⟩
set_option maxRecDepth 100000 in
theorem flX8_86 : FL RX8 86 6 1 := ⟨_, _, _, _, cfX6, by decide, inTB 155 (by decide +kernel) (by decide +kernel)⟩
set_option maxRecDepth 100000 in
theorem flX8_87 : FL RX8 87 3 3 := ⟨_, _, _, _, cfX3, by decide, inTB 221 (by decide +kernel) (by decide +kernel)⟩
set_option maxRecDepth 100000 in
theorem flX8_88 : FL RX8 88 4 3 := ⟨_, _, _, _, cfX4, by decide, inTB 100 (by decide +kernel) (by decide +kernel)⟩
set_option maxRecDepth 100000 in
theorem flX8_99 : FL RX8 99 8 7 := ⟨_, _, _, _, cfX8, by decide, inTB 314 (by decide +kernel) (by decide +kernel)⟩
set_option maxRecDepth 100000 in
theorem flX8_102 : FL RX8 102 4 2 := ⟨_, _, _, _, cfX4, by decide, inTB 95 (by decide +kernel) (by decide +kernel)⟩
set_option maxRecDepth 100000 in
theorem flX8_109 : FL RX8 109 7 2 := ⟨_, _, _, _, cfX7, by decide, inTB 171 (by decide +kernel) (by decide +kernel)⟩
set_option maxRecDepth 100000 in
theorem flX8_112 : FL RX8 112 4 1 := ⟨_, _, _, _, cfX4, by decide, inTB 92 (by decide +kernel) (by decide +kernel)⟩
set_option maxRecDepth 100000 in
theorem flX8_115 : FL RX8 115 7 3 := ⟨_, _, _, _, cfX7, by decide, inTB 173 (by decide +kernel) (by decide +kernel)⟩
set_option maxRecDepth 100000 in
theorem flX8_118 : FL RX8 118 7 6 := ⟨_, _, _, _, cfX7, by decide, inTB 182 (by decide +kernel) (by decide +kernel)⟩
set_option maxRecDepth 100000 in
theorem flX8_121 : FL RX8 121 7 7 := ⟨_, _, _, _, cfX7, by decide, inTB 185 (by decide +kernel) (by decide +kernel)⟩
set_option maxRecDepth 100000 in
theorem flX8_127 : FL RX8 127 6 0 := ⟨_, _, _, _, cfX6, by decide, inTB 150 (by decide +kernel) (by decide +kernel)⟩
set_option maxRecDepth 100000 in
theorem flX8_139 : FL RX8 139 1 1 := ⟨_, _, _, _, cfX1, by decide, inTB 129 (by decide +kernel) (by decide +kernel)⟩
set_option maxRecDepth 100000 in
theorem flX8_142 : FL RX8 142 1 2 := ⟨_, _, _, _, cfX1, by decide, inTB 133 (by decide +kernel) (by decide +kernel)⟩
set_option maxRecDepth 100000 in
theorem flX8_145 : FL RX8 145 7 4 := ⟨_, _, _, _, cfX7, by decide, inTB 177 (by decide +kernel) (by decide +kernel)⟩
set_option maxRecDepth 100000 in
theorem flX8_148 : FL RX8 148 7 5 := ⟨_, _, _, _, cfX7, by decide, inTB 179 (by decide +kernel) (by decide +kernel)⟩
set_option maxRecDepth 100000 in
theorem flX8_151 : FL RX8 151 1 3 := ⟨_, _, _, _, cfX1, by decide, inTB 137 (by decide +kernel) (by decide +kernel)⟩
set_option maxRecDepth 100000 in
theorem flX8_161 : FL RX8 161 1 0 := ⟨_, _, _, _, cfX1, by decide, inTB 126 (by decide +kernel) (by decide +kernel)⟩
set_option maxRecDepth 100000 in
theorem flX8_186 : FL RX8 186 8 8 := ⟨_, _, _, _, cfX8, by decide, inTB 315 (by decide +kernel) (by decide +kernel)⟩
set_option maxRecDepth 100000 in
theorem flX8_192 : FL RX8 192 0 7 := ⟨_, _, _, _, cfX0, by decide, inTB 250 (by decide +kernel) (by decide +kernel)⟩
set_option maxRecDepth 100000 in
theorem flX8_195 : FL RX8 195 0 8 := ⟨_, _, _, _, cfX0, by decide, inTB 252 (by decide +kernel) (by decide +kernel)⟩
set_option maxRecDepth 100000 in
theorem flX8_230 : FL RX8 230 0 9 := ⟨_, _, _, _, cfX0, by decide, inTB 254 (by decide +kernel) (by decide +kernel)⟩
set_option maxRecDepth 100000 in
theorem flX8_238 : FL RX8 238 2 5 := ⟨_, _, _, _, cfX2, by decide, inTB 293 (by decide +kernel) (by decide +kernel)⟩
set_option maxRecDepth 100000 in
theorem flX8_241 : FL RX8 241 2 4 := ⟨_, _, _, _, cfX2, by decide, inTB 292 (by decide +kernel) (by decide +kernel)⟩
set_option maxRecDepth 100000 in
theorem csX8_62 : CS RX8 62 mX8_isOutside 3 := cs_X8_isOutside (own := RX8) (idx := 62) (inTB 339 (by decide +kernel) (by decide +kernel))
set_option maxRecDepth 100000 in
theorem csX8_207 : CS RX8 207 mJ6_bitCount_0f7a4 1 := cs_J6_bitCount_0f7a4 (own := RX8) (idx := 207) (inTB 581 (by decide +kernel) (by decide +kernel))
set_option maxRecDepth 100000 in
theorem csX8_224 : CS RX8 224 mX8_onlyLoath 1 := cs_X8_onlyLoath (own := RX8) (idx := 224) (inTB 614 (by decide +kernel) (by decide +kernel))
set_option maxRecDepth 100000 in
theorem csX8_262 : CS RX8 262 mX8_mixed 2 := cs_X8_mixed (own := RX8) (idx := 262) (inTB 687 (by decide +kernel) (by decide +kernel))
set_option maxRecDepth 100000 in
theorem cvX8_74 : CV RX8 74 mX5_firstFault 0 5 := cv_X5_firstFault (own := RX8) (idx := 74) (inTB 350 (by decide +kernel) (by decide +kernel))
set_option maxRecDepth 100000 in
theorem cvX8_78 : CV RX8 78 mX5_isCard 0 5 := cv_X5_isCard (own := RX8) (idx := 78) (inTB 362 (by decide +kernel) (by decide +kernel))
set_option maxRecDepth 100000 in
theorem cvX8_82 : CV RX8 82 mX4_read 1 4 := cv_X4_read (own := RX8) (idx := 82) (inTB 367 (by decide +kernel) (by decide +kernel))
set_option maxRecDepth 100000 in
theorem cvX8_92 : CV RX8 92 mX7_press 2 7 := cv_X7_press (own := RX8) (idx := 92) (inTB 374 (by decide +kernel) (by decide +kernel))
set_option maxRecDepth 100000 in
theorem cvX8_96 : CV RX8 96 mX7_wipe 0 7 := cv_X7_wipe (own := RX8) (idx := 96) (inTB 378 (by decide +kernel) (by decide +kernel))
set_option maxRecDepth 100000 in
theorem cvX8_105 : CV RX8 105 mX8_noDish 1 8 := cv_X8_noDish (own := RX8) (idx := 105) (inTB 386 (by decide +kernel) (by decide +kernel))
set_option maxRecDepth 100000 in
theorem cvX8_124 : CV RX8 124 mX8_noCard 0 8 := cv_X8_noCard (own := RX8) (idx := 124) (inTB 394 (by decide +kernel) (by decide +kernel))
set_option maxRecDepth 100000 in
theorem cvX8_131 : CV RX8 131 mX1_sitDown 2 1 := cv_X1_sitDown (own := RX8) (idx := 131) (inTB 398 (by decide +kernel) (by decide +kernel))
set_option maxRecDepth 100000 in
theorem cvX8_136 : CV RX8 136 mX8_noGuest 1 8 := cv_X8_noGuest (own := RX8) (idx := 136) (inTB 408 (by decide +kernel) (by decide +kernel))
set_option maxRecDepth 100000 in
theorem cvX8_154 : CV RX8 154 mX7_joyOf 1 7 := cv_X7_joyOf (own := RX8) (idx := 154) (inTB 412 (by decide +kernel) (by decide +kernel))
set_option maxRecDepth 100000 in
theorem cvX8_158 : CV RX8 158 mX1_isOfKind 1 1 := cv_X1_isOfKind (own := RX8) (idx := 158) (inTB 420 (by decide +kernel) (by decide +kernel))
set_option maxRecDepth 100000 in
theorem cvX8_164 : CV RX8 164 mX7_choice 1 7 := cv_X7_choice (own := RX8) (idx := 164) (inTB 440 (by decide +kernel) (by decide +kernel))
set_option maxRecDepth 100000 in
theorem cvX8_167 : CV RX8 167 mX8_takes 1 8 := cv_X8_takes (own := RX8) (idx := 167) (inTB 456 (by decide +kernel) (by decide +kernel))
set_option maxRecDepth 100000 in
theorem cvX8_170 : CV RX8 170 mX7_give 2 7 := cv_X7_give (own := RX8) (idx := 170) (inTB 457 (by decide +kernel) (by decide +kernel))
set_option maxRecDepth 100000 in
theorem cvX8_173 : CV RX8 173 mX7_howManyOrdered 0 7 := cv_X7_howManyOrdered (own := RX8) (idx := 173) (inTB 465 (by decide +kernel) (by decide +kernel))
set_option maxRecDepth 100000 in
theorem cvX8_176 : CV RX8 176 mX0_dishInTurn 2 0 := cv_X0_dishInTurn (own := RX8) (idx := 176) (inTB 473 (by decide +kernel) (by decide +kernel))
set_option maxRecDepth 100000 in
theorem cvX8_180 : CV RX8 180 mX0_bestFirst 1 0 := cv_X0_bestFirst (own := RX8) (idx := 180) (inTB 497 (by decide +kernel) (by decide +kernel))
set_option maxRecDepth 100000 in
theorem cvX8_183 : CV RX8 183 mX0_joyFrom 2 0 := cv_X0_joyFrom (own := RX8) (idx := 183) (inTB 511 (by decide +kernel) (by decide +kernel))
set_option maxRecDepth 100000 in
theorem cvX8_189 : CV RX8 189 mX0_seekContent 0 0 := cv_X0_seekContent (own := RX8) (idx := 189) (inTB 516 (by decide +kernel) (by decide +kernel))
set_option maxRecDepth 100000 in
theorem cvX8_198 : CV RX8 198 mX0_roundsTillSettled 1 0 := cv_X0_roundsTillSettled (own := RX8) (idx := 198) (inTB 540 (by decide +kernel) (by decide +kernel))
set_option maxRecDepth 100000 in
theorem cvX8_201 : CV RX8 201 mX0_mostGiven 0 0 := cv_X0_mostGiven (own := RX8) (idx := 201) (inTB 555 (by decide +kernel) (by decide +kernel))
set_option maxRecDepth 100000 in
theorem cvX8_204 : CV RX8 204 mX0_fewestBits 0 0 := cv_X0_fewestBits (own := RX8) (idx := 204) (inTB 573 (by decide +kernel) (by decide +kernel))
set_option maxRecDepth 100000 in
theorem cvX8_212 : CV RX8 212 mX0_leastUrge 3 0 := cv_X0_leastUrge (own := RX8) (idx := 212) (inTB 586 (by decide +kernel) (by decide +kernel))
set_option maxRecDepth 100000 in
theorem cvX8_216 : CV RX8 216 mX3_add 3 3 := cv_X3_add (own := RX8) (idx := 216) (inTB 594 (by decide +kernel) (by decide +kernel))
set_option maxRecDepth 100000 in
theorem cvX8_220 : CV RX8 220 mX0_fittingLoaths 1 0 := cv_X0_fittingLoaths (own := RX8) (idx := 220) (inTB 606 (by decide +kernel) (by decide +kernel))
set_option maxRecDepth 100000 in
theorem cvX8_227 : CV RX8 227 mX0_joyOfEvenings 2 0 := cv_X0_joyOfEvenings (own := RX8) (idx := 227) (inTB 621 (by decide +kernel) (by decide +kernel))
set_option maxRecDepth 100000 in
theorem cvX8_234 : CV RX8 234 mX2_take 3 2 := cv_X2_take (own := RX8) (idx := 234) (inTB 648 (by decide +kernel) (by decide +kernel))
set_option maxRecDepth 100000 in
theorem cvX8_244 : CV RX8 244 mX2_putBack 3 2 := cv_X2_putBack (own := RX8) (idx := 244) (inTB 667 (by decide +kernel) (by decide +kernel))
set_option maxRecDepth 100000 in
theorem cvX8_247 : CV RX8 247 mX7_joyOfAll 0 7 := cv_X7_joyOfAll (own := RX8) (idx := 247) (inTB 676 (by decide +kernel) (by decide +kernel))
set_option maxRecDepth 100000 in
theorem cvX8_252 : CV RX8 252 mX8_mixedDishes 1 8 := cv_X8_mixedDishes (own := RX8) (idx := 252) (inTB 682 (by decide +kernel) (by decide +kernel))
set_option maxRecDepth 100000 in
theorem cvX8_256 : CV RX8 256 mX8_mixedGuests 1 8 := cv_X8_mixedGuests (own := RX8) (idx := 256) (inTB 691 (by decide +kernel) (by decide +kernel))
set_option maxRecDepth 100000 in
theorem cvX8_259 : CV RX8 259 mX8_host 0 8 := cv_X8_host (own := RX8) (idx := 259) (inTB 697 (by decide +kernel) (by decide +kernel))
set_option maxRecDepth 100000 in
theorem cvX8_266 : CV RX8 266 mX8_fewest 1 8 := cv_X8_fewest (own := RX8) (idx := 266) (inTB 698 (by decide +kernel) (by decide +kernel))
set_option maxRecDepth 100000 in
theorem cvX8_269 : CV RX8 269 mX8_fits 1 8 := cv_X8_fits (own := RX8) (idx := 269) (inTB 699 (by decide +kernel) (by decide +kernel))
set_option maxRecDepth 100000 in
theorem cvX8_272 : CV RX8 272 mX8_begin 2 8 := cv_X8_begin (own := RX8) (idx := 272) (inTB 700 (by decide +kernel) (by decide +kernel))
set_option maxRecDepth 100000 in
theorem cvX8_275 : CV RX8 275 mX8_count 1 8 := cv_X8_count (own := RX8) (idx := 275) (inTB 701 (by decide +kernel) (by decide +kernel))
set_option maxRecDepth 100000 in
theorem cvX8_278 : CV RX8 278 mX8_dish 2 8 := cv_X8_dish (own := RX8) (idx := 278) (inTB 686 (by decide +kernel) (by decide +kernel))
set_option maxRecDepth 100000 in
theorem cvX8_281 : CV RX8 281 mX8_about 2 8 := cv_X8_about (own := RX8) (idx := 281) (inTB 695 (by decide +kernel) (by decide +kernel))
set_option maxRecDepth 100000 in
theorem cvX8_284 : CV RX8 284 mX8_minds 1 8 := cv_X8_minds (own := RX8) (idx := 284) (inTB 696 (by decide +kernel) (by decide +kernel))
theorem klX8_250 : Cond.constantLong RX8 250 757 ∈ TB := inTB 681 (by decide +kernel) (by decide +kernel)
theorem klX8_287 : Cond.constantLong RX8 287 31 ∈ TB := inTB 690 (by decide +kernel) (by decide +kernel)
set_option maxRecDepth 100000 in
theorem fwX8_66 : FW RX8 66 5 1 .int := ⟨_, _, _, _, cfX5, by decide, inTB 74 (by decide +kernel) (by decide +kernel), rfl, rfl⟩
set_option maxRecDepth 100000 in
theorem fwX8_86 : FW RX8 86 6 1 .int := ⟨_, _, _, _, cfX6, by decide, inTB 155 (by decide +kernel) (by decide +kernel), rfl, rfl⟩
set_option maxRecDepth 100000 in
theorem fwX8_87 : FW RX8 87 3 3 .int := ⟨_, _, _, _, cfX3, by decide, inTB 221 (by decide +kernel) (by decide +kernel), rfl, rfl⟩
set_option maxRecDepth 100000 in
theorem fwX8_91 : FW RX8 91 7 8 .int := ⟨_, _, _, _, cfX7, by decide, inTB 187 (by decide +kernel) (by decide +kernel), rfl, rfl⟩
set_option maxRecDepth 100000 in
theorem fwX8_99 : FW RX8 99 8 7 .int := ⟨_, _, _, _, cfX8, by decide, inTB 314 (by decide +kernel) (by decide +kernel), rfl, rfl⟩
set_option maxRecDepth 100000 in
theorem fwX8_142 : FW RX8 142 1 2 .int := ⟨_, _, _, _, cfX1, by decide, inTB 133 (by decide +kernel) (by decide +kernel), rfl, rfl⟩
set_option maxRecDepth 100000 in
theorem fwX8_186 : FW RX8 186 8 8 .int := ⟨_, _, _, _, cfX8, by decide, inTB 315 (by decide +kernel) (by decide +kernel), rfl, rfl⟩
set_option maxRecDepth 100000 in
theorem fwX8_238 : FW RX8 238 2 5 .int := ⟨_, _, _, _, cfX2, by decide, inTB 293 (by decide +kernel) (by decide +kernel), rfl, rfl⟩
set_option maxRecDepth 100000 in
theorem flX9_7 : FL RX9 7 9 0 := ⟨_, _, _, _, cfX9, by decide, inTB 708 (by decide +kernel) (by decide +kernel)⟩
set_option maxRecDepth 100000 in
theorem flX9_13 : FL RX9 13 9 2 := ⟨_, _, _, _, cfX9, by decide, inTB 710 (by decide +kernel) (by decide +kernel)⟩
set_option maxRecDepth 100000 in
theorem flX9_16 : FL RX9 16 9 3 := ⟨_, _, _, _, cfX9, by decide, inTB 711 (by decide +kernel) (by decide +kernel)⟩
set_option maxRecDepth 100000 in
theorem flX9_19 : FL RX9 19 9 12 := ⟨_, _, _, _, cfX9, by decide, inTB 720 (by decide +kernel) (by decide +kernel)⟩
set_option maxRecDepth 100000 in
theorem flX9_22 : FL RX9 22 9 13 := ⟨_, _, _, _, cfX9, by decide, inTB 721 (by decide +kernel) (by decide +kernel)⟩
set_option maxRecDepth 100000 in
theorem flX9_25 : FL RX9 25 9 15 := ⟨_, _, _, _, cfX9, by decide, inTB 723 (by decide +kernel) (by decide +kernel)⟩
set_option maxRecDepth 100000 in
theorem flX9_28 : FL RX9 28 9 16 := ⟨_, _, _, _, cfX9, by decide, inTB 724 (by decide +kernel) (by decide +kernel)⟩
set_option maxRecDepth 100000 in
theorem flX9_31 : FL RX9 31 9 17 := ⟨_, _, _, _, cfX9, by decide, inTB 725 (by decide +kernel) (by decide +kernel)⟩
set_option maxRecDepth 100000 in
theorem flX9_34 : FL RX9 34 9 21 := ⟨_, _, _, _, cfX9, by decide, inTB 729 (by decide +kernel) (by decide +kernel)⟩
set_option maxRecDepth 100000 in
theorem flX9_37 : FL RX9 37 9 24 := ⟨_, _, _, _, cfX9, by decide, inTB 732 (by decide +kernel) (by decide +kernel)⟩
set_option maxRecDepth 100000 in
theorem flX9_40 : FL RX9 40 9 26 := ⟨_, _, _, _, cfX9, by decide, inTB 734 (by decide +kernel) (by decide +kernel)⟩
set_option maxRecDepth 100000 in
theorem flX9_43 : FL RX9 43 9 32 := ⟨_, _, _, _, cfX9, by decide, inTB 740 (by decide +kernel) (by decide +kernel)⟩
set_option maxRecDepth 100000 in
theorem flX9_46 : FL RX9 46 9 33 := ⟨_, _, _, _, cfX9, by decide, inTB 741 (by decide +kernel) (by decide +kernel)⟩
set_option maxRecDepth 100000 in
theorem flX9_49 : FL RX9 49 9 34 := ⟨_, _, _, _, cfX9, by decide, inTB 742 (by decide +kernel) (by decide +kernel)⟩
set_option maxRecDepth 100000 in
theorem flX9_52 : FL RX9 52 9 35 := ⟨_, _, _, _, cfX9, by decide, inTB 743 (by decide +kernel) (by decide +kernel)⟩
set_option maxRecDepth 100000 in
theorem flX9_55 : FL RX9 55 9 27 := ⟨_, _, _, _, cfX9, by decide, inTB 735 (by decide +kernel) (by decide +kernel)⟩
set_option maxRecDepth 100000 in
theorem flX9_59 : FL RX9 59 9 10 := ⟨_, _, _, _, cfX9, by decide, inTB 718 (by decide +kernel) (by decide +kernel)⟩
set_option maxRecDepth 100000 in
theorem flX9_68 : FL RX9 68 9 1 := ⟨_, _, _, _, cfX9, by decide, inTB 709 (by decide +kernel) (by decide +kernel)⟩
set_option maxRecDepth 100000 in
theorem flX9_71 : FL RX9 71 9 6 := ⟨_, _, _, _, cfX9, by decide, inTB 714 (by decide +kernel) (by decide +kernel)⟩
set_option maxRecDepth 100000 in
theorem flX9_74 : FL RX9 74 9 4 := ⟨_, _, _, _, cfX9, by decide, inTB 712 (by decide +kernel) (by decide +kernel)⟩
set_option maxRecDepth 100000 in
theorem flX9_79 : FL RX9 79 9 5 := ⟨_, _, _, _, cfX9, by decide, inTB 713 (by decide +kernel) (by decide +kernel)⟩
set_option maxRecDepth 100000 in
theorem flX9_90 : FL RX9 90 9 7 := ⟨_, _, _, _, cfX9, by decide, inTB 715 (by decide +kernel) (by decide +kernel)⟩
set_option maxRecDepth 100000 in
theorem flX9_93 : FL RX9 93 9 8 := ⟨_, _, _, _, cfX9, by decide, inTB 716 (by decide +kernel) (by decide +kernel)⟩
set_option maxRecDepth 100000 in
theorem flX9_96 : FL RX9 96 9 14 := ⟨_, _, _, _, cfX9, by decide, inTB 722 (by decide +kernel) (by decide +kernel)⟩
set_option maxRecDepth 100000 in
theorem flX9_99 : FL RX9 99 9 23 := ⟨_, _, _, _, cfX9, by decide, inTB 731 (by decide +kernel) (by decide +kernel)⟩
set_option maxRecDepth 100000 in
theorem flX9_102 : FL RX9 102 9 11 := ⟨_, _, _, _, cfX9, by decide, inTB 719 (by decide +kernel) (by decide +kernel)⟩
set_option maxRecDepth 100000 in
theorem flX9_105 : FL RX9 105 9 9 := ⟨_, _, _, _, cfX9, by decide, inTB 717 (by decide +kernel) (by decide +kernel)⟩
set_option maxRecDepth 100000 in
theorem flX9_139 : FL RX9 139 9 18 := ⟨_, _, _, _, cfX9, by decide, inTB 726 (by decide +kernel) (by decide +kernel)⟩
set_option maxRecDepth 100000 in
theorem flX9_142 : FL RX9 142 9 19 := ⟨_, _, _, _, cfX9, by decide, inTB 727 (by decide +kernel) (by decide +kernel)⟩
set_option maxRecDepth 100000 in
theorem flX9_145 : FL RX9 145 9 20 := ⟨_, _, _, _, cfX9, by decide, inTB 728 (by decide +kernel) (by decide +kernel)⟩
set_option maxRecDepth 100000 in
theorem flX9_176 : FL RX9 176 9 22 := ⟨_, _, _, _, cfX9, by decide, inTB 730 (by decide +kernel) (by decide +kernel)⟩
set_option maxRecDepth 100000 in
theorem flX9_205 : FL RX9 205 9 25 := ⟨_, _, _, _, cfX9, by decide, inTB 733 (by decide +kernel) (by decide +kernel)⟩
set_option maxRecDepth 100000 in
theorem flX9_222 : FL RX9 222 9 28 := ⟨_, _, _, _, cfX9, by decide, inTB 736 (by decide +kernel) (by decide +kernel)⟩
set_option maxRecDepth 100000 in
theorem flX9_225 : FL RX9 225 9 29 := ⟨_, _, _, _, cfX9, by decide, inTB 737 (by decide +kernel) (by decide +kernel)⟩
set_option maxRecDepth 100000 in
theorem flX9_228 : FL RX9 228 9 30 := ⟨_, _, _, _, cfX9, by decide, inTB 738 (by decide +kernel) (by decide +kernel)⟩
set_option maxRecDepth 100000 in
theorem flX9_231 : FL RX9 231 9 31 := ⟨_, _, _, _, cfX9, by decide, inTB 739 (by decide +kernel) (by decide +kernel)⟩
set_option maxRecDepth 100000 in
theorem flX9_239 : FL RX9 239 9 36 := ⟨_, _, _, _, cfX9, by decide, inTB 744 (by decide +kernel) (by decide +kernel)⟩
set_option maxRecDepth 100000 in
theorem csX9_64 : CS RX9 64 mX9_in 3 := cs_X9_in (own := RX9) (idx := 64) (inTB 825 (by decide +kernel) (by decide +kernel))
set_option maxRecDepth 100000 in
theorem csX9_192 : CS RX9 192 mX9_ones 1 := cs_X9_ones (own := RX9) (idx := 192) (inTB 999 (by decide +kernel) (by decide +kernel))
set_option maxRecDepth 100000 in
theorem csX9_215 : CS RX9 215 mX9_copy 2 := cs_X9_copy (own := RX9) (idx := 215) (inTB 1028 (by decide +kernel) (by decide +kernel))
set_option maxRecDepth 100000 in
theorem cvX9_82 : CV RX9 82 mX9_go 1 9 := cv_X9_go (own := RX9) (idx := 82) (inTB 840 (by decide +kernel) (by decide +kernel))
set_option maxRecDepth 100000 in
theorem cvX9_86 : CV RX9 86 mX9_faultOf 0 9 := cv_X9_faultOf (own := RX9) (idx := 86) (inTB 836 (by decide +kernel) (by decide +kernel))
set_option maxRecDepth 100000 in
theorem cvX9_108 : CV RX9 108 mX9_haveOf 2 9 := cv_X9_haveOf (own := RX9) (idx := 108) (inTB 861 (by decide +kernel) (by decide +kernel))
set_option maxRecDepth 100000 in
theorem cvX9_112 : CV RX9 112 mX9_isDish 1 9 := cv_X9_isDish (own := RX9) (idx := 112) (inTB 853 (by decide +kernel) (by decide +kernel))
set_option maxRecDepth 100000 in
theorem cvX9_115 : CV RX9 115 mX9_tellDish 2 9 := cv_X9_tellDish (own := RX9) (idx := 115) (inTB 857 (by decide +kernel) (by decide +kernel))
set_option maxRecDepth 100000 in
theorem cvX9_121 : CV RX9 121 mX9_lacks 0 9 := cv_X9_lacks (own := RX9) (idx := 121) (inTB 870 (by decide +kernel) (by decide +kernel))
set_option maxRecDepth 100000 in
theorem cvX9_125 : CV RX9 125 mX9_swayBy 2 9 := cv_X9_swayBy (own := RX9) (idx := 125) (inTB 886 (by decide +kernel) (by decide +kernel))
set_option maxRecDepth 100000 in
theorem cvX9_128 : CV RX9 128 mX9_joyOf 2 9 := cv_X9_joyOf (own := RX9) (idx := 128) (inTB 890 (by decide +kernel) (by decide +kernel))
set_option maxRecDepth 100000 in
theorem cvX9_131 : CV RX9 131 mX9_isGuest 1 9 := cv_X9_isGuest (own := RX9) (idx := 131) (inTB 878 (by decide +kernel) (by decide +kernel))
set_option maxRecDepth 100000 in
theorem cvX9_134 : CV RX9 134 mX9_tell 2 9 := cv_X9_tell (own := RX9) (idx := 134) (inTB 882 (by decide +kernel) (by decide +kernel))
set_option maxRecDepth 100000 in
theorem cvX9_148 : CV RX9 148 mX9_mayHave 3 9 := cv_X9_mayHave (own := RX9) (idx := 148) (inTB 923 (by decide +kernel) (by decide +kernel))
set_option maxRecDepth 100000 in
theorem cvX9_152 : CV RX9 152 mX9_valueOf 3 9 := cv_X9_valueOf (own := RX9) (idx := 152) (inTB 927 (by decide +kernel) (by decide +kernel))
set_option maxRecDepth 100000 in
theorem cvX9_156 : CV RX9 156 mX9_asItIs 0 9 := cv_X9_asItIs (own := RX9) (idx := 156) (inTB 915 (by decide +kernel) (by decide +kernel))
set_option maxRecDepth 100000 in
theorem cvX9_159 : CV RX9 159 mX9_bestFor 2 9 := cv_X9_bestFor (own := RX9) (idx := 159) (inTB 919 (by decide +kernel) (by decide +kernel))
set_option maxRecDepth 100000 in
theorem cvX9_162 : CV RX9 162 mX9_orderedMany 0 9 := cv_X9_orderedMany (own := RX9) (idx := 162) (inTB 939 (by decide +kernel) (by decide +kernel))
set_option maxRecDepth 100000 in
theorem cvX9_165 : CV RX9 165 mX9_layInTurn 1 9 := cv_X9_layInTurn (own := RX9) (idx := 165) (inTB 947 (by decide +kernel) (by decide +kernel))
set_option maxRecDepth 100000 in
theorem cvX9_169 : CV RX9 169 mX9_joyAll 1 9 := cv_X9_joyAll (own := RX9) (idx := 169) (inTB 959 (by decide +kernel) (by decide +kernel))
set_option maxRecDepth 100000 in
theorem cvX9_173 : CV RX9 173 mX9_beginOf 2 9 := cv_X9_beginOf (own := RX9) (idx := 173) (inTB 955 (by decide +kernel) (by decide +kernel))
set_option maxRecDepth 100000 in
theorem cvX9_179 : CV RX9 179 mX9_power 1 9 := cv_X9_power (own := RX9) (idx := 179) (inTB 967 (by decide +kernel) (by decide +kernel))
set_option maxRecDepth 100000 in
theorem cvX9_183 : CV RX9 183 mX9_isAtOnce 0 9 := cv_X9_isAtOnce (own := RX9) (idx := 183) (inTB 971 (by decide +kernel) (by decide +kernel))
set_option maxRecDepth 100000 in
theorem cvX9_186 : CV RX9 186 mX9_mindsOf 1 9 := cv_X9_mindsOf (own := RX9) (idx := 186) (inTB 979 (by decide +kernel) (by decide +kernel))
set_option maxRecDepth 100000 in
theorem cvX9_189 : CV RX9 189 mX9_hostOf 0 9 := cv_X9_hostOf (own := RX9) (idx := 189) (inTB 987 (by decide +kernel) (by decide +kernel))
set_option maxRecDepth 100000 in
theorem cvX9_195 : CV RX9 195 mX9_fewestOf 1 9 := cv_X9_fewestOf (own := RX9) (idx := 195) (inTB 995 (by decide +kernel) (by decide +kernel))
set_option maxRecDepth 100000 in
theorem cvX9_200 : CV RX9 200 mX9_fitsOf 0 9 := cv_X9_fitsOf (own := RX9) (idx := 200) (inTB 1019 (by decide +kernel) (by decide +kernel))
set_option maxRecDepth 100000 in
theorem cvX9_219 : CV RX9 219 mX9_draw 1 9 := cv_X9_draw (own := RX9) (idx := 219) (inTB 1031 (by decide +kernel) (by decide +kernel))
set_option maxRecDepth 100000 in
theorem cvX9_234 : CV RX9 234 mX9_countOf 1 9 := cv_X9_countOf (own := RX9) (idx := 234) (inTB 1051 (by decide +kernel) (by decide +kernel))
set_option maxRecDepth 100000 in
theorem cvX9_243 : CV RX9 243 mX9_say 1 9 := cv_X9_say (own := RX9) (idx := 243) (inTB 1060 (by decide +kernel) (by decide +kernel))
set_option maxRecDepth 100000 in
theorem cvX9_249 : CV RX9 249 mX9_sayGuest 1 9 := cv_X9_sayGuest (own := RX9) (idx := 249) (inTB 1065 (by decide +kernel) (by decide +kernel))
theorem kiX9_212 : Cond.constant RX9 212 65536 ∈ TB := inTB 1038 (by decide +kernel) (by decide +kernel)
theorem klX9_62 : Cond.constantLong RX9 62 126 ∈ TB := inTB 824 (by decide +kernel) (by decide +kernel)
theorem klX9_77 : Cond.constantLong RX9 77 9 ∈ TB := inTB 844 (by decide +kernel) (by decide +kernel)
theorem klX9_119 : Cond.constantLong RX9 119 4 ∈ TB := inTB 869 (by decide +kernel) (by decide +kernel)
theorem klX9_137 : Cond.constantLong RX9 137 20 ∈ TB := inTB 910 (by decide +kernel) (by decide +kernel)
theorem klX9_198 : Cond.constantLong RX9 198 5 ∈ TB := inTB 1006 (by decide +kernel) (by decide +kernel)
theorem klX9_203 : Cond.constantLong RX9 203 1103515245 ∈ TB := inTB 1035 (by decide +kernel) (by decide +kernel)
theorem klX9_208 : Cond.constantLong RX9 208 12345 ∈ TB := inTB 1036 (by decide +kernel) (by decide +kernel)
theorem klX9_210 : Cond.constantLong RX9 210 2147483647 ∈ TB := inTB 1037 (by decide +kernel) (by decide +kernel)
theorem klX9_213 : Cond.constantLong RX9 213 60 ∈ TB := inTB 1027 (by decide +kernel) (by decide +kernel)
theorem klX9_237 : Cond.constantLong RX9 237 31 ∈ TB := inTB 1064 (by decide +kernel) (by decide +kernel)
theorem klX9_247 : Cond.constantLong RX9 247 757 ∈ TB := inTB 1059 (by decide +kernel) (by decide +kernel)
set_option maxRecDepth 100000 in
theorem fwX9_55 : FW RX9 55 9 27 .int := ⟨_, _, _, _, cfX9, by decide, inTB 735 (by decide +kernel) (by decide +kernel), rfl, rfl⟩
set_option maxRecDepth 100000 in
theorem fwX9_59 : FW RX9 59 9 10 .int := ⟨_, _, _, _, cfX9, by decide, inTB 718 (by decide +kernel) (by decide +kernel), rfl, rfl⟩
set_option maxRecDepth 100000 in
theorem fwX9_68 : FW RX9 68 9 1 .int := ⟨_, _, _, _, cfX9, by decide, inTB 709 (by decide +kernel) (by decide +kernel), rfl, rfl⟩
set_option maxRecDepth 100000 in
theorem fwX9_71 : FW RX9 71 9 6 .int := ⟨_, _, _, _, cfX9, by decide, inTB 714 (by decide +kernel) (by decide +kernel), rfl, rfl⟩
set_option maxRecDepth 100000 in
theorem fwX9_74 : FW RX9 74 9 4 .int := ⟨_, _, _, _, cfX9, by decide, inTB 712 (by decide +kernel) (by decide +kernel), rfl, rfl⟩
set_option maxRecDepth 100000 in
theorem fwX9_79 : FW RX9 79 9 5 .int := ⟨_, _, _, _, cfX9, by decide, inTB 713 (by decide +kernel) (by decide +kernel), rfl, rfl⟩
set_option maxRecDepth 100000 in
theorem fwX9_90 : FW RX9 90 9 7 .int := ⟨_, _, _, _, cfX9, by decide, inTB 715 (by decide +kernel) (by decide +kernel), rfl, rfl⟩
set_option maxRecDepth 100000 in
theorem fwX9_93 : FW RX9 93 9 8 .int := ⟨_, _, _, _, cfX9, by decide, inTB 716 (by decide +kernel) (by decide +kernel), rfl, rfl⟩
set_option maxRecDepth 100000 in
theorem fwX9_96 : FW RX9 96 9 14 .int := ⟨_, _, _, _, cfX9, by decide, inTB 722 (by decide +kernel) (by decide +kernel), rfl, rfl⟩
set_option maxRecDepth 100000 in
theorem fwX9_99 : FW RX9 99 9 23 .int := ⟨_, _, _, _, cfX9, by decide, inTB 731 (by decide +kernel) (by decide +kernel), rfl, rfl⟩
set_option maxRecDepth 100000 in
theorem fwX9_102 : FW RX9 102 9 11 .int := ⟨_, _, _, _, cfX9, by decide, inTB 719 (by decide +kernel) (by decide +kernel), rfl, rfl⟩
set_option maxRecDepth 100000 in
theorem fwX9_105 : FW RX9 105 9 9 .int := ⟨_, _, _, _, cfX9, by decide, inTB 717 (by decide +kernel) (by decide +kernel), rfl, rfl⟩
set_option maxRecDepth 100000 in
theorem fwX9_139 : FW RX9 139 9 18 .int := ⟨_, _, _, _, cfX9, by decide, inTB 726 (by decide +kernel) (by decide +kernel), rfl, rfl⟩
set_option maxRecDepth 100000 in
theorem fwX9_142 : FW RX9 142 9 19 .int := ⟨_, _, _, _, cfX9, by decide, inTB 727 (by decide +kernel) (by decide +kernel), rfl, rfl⟩
set_option maxRecDepth 100000 in
theorem fwX9_145 : FW RX9 145 9 20 .int := ⟨_, _, _, _, cfX9, by decide, inTB 728 (by decide +kernel) (by decide +kernel), rfl, rfl⟩
set_option maxRecDepth 100000 in
theorem fwX9_176 : FW RX9 176 9 22 .int := ⟨_, _, _, _, cfX9, by decide, inTB 730 (by decide +kernel) (by decide +kernel), rfl, rfl⟩
set_option maxRecDepth 100000 in
theorem fwX9_205 : FW RX9 205 9 25 .int := ⟨_, _, _, _, cfX9, by decide, inTB 733 (by decide +kernel) (by decide +kernel), rfl, rfl⟩
set_option maxRecDepth 100000 in
theorem fwX9_222 : FW RX9 222 9 28 .int := ⟨_, _, _, _, cfX9, by decide, inTB 736 (by decide +kernel) (by decide +kernel), rfl, rfl⟩
set_option maxRecDepth 100000 in
theorem fwX9_225 : FW RX9 225 9 29 .int := ⟨_, _, _, _, cfX9, by decide, inTB 737 (by decide +kernel) (by decide +kernel), rfl, rfl⟩
set_option maxRecDepth 100000 in
theorem fwX9_228 : FW RX9 228 9 30 .int := ⟨_, _, _, _, cfX9, by decide, inTB 738 (by decide +kernel) (by decide +kernel), rfl, rfl⟩
set_option maxRecDepth 100000 in
theorem fwX9_231 : FW RX9 231 9 31 .int := ⟨_, _, _, _, cfX9, by decide, inTB 739 (by decide +kernel) (by decide +kernel), rfl, rfl⟩
set_option maxRecDepth 100000 in
theorem fwX9_239 : FW RX9 239 9 36 .long := ⟨_, _, _, _, cfX9, by decide, inTB 744 (by decide +kernel) (by decide +kernel), rfl, rfl⟩
theorem ac_nat : Cond.native arraycopyName ∈ TB := inTB 631 (by decide +kernel) (by decide +kernel)
theorem ac_sta : Cond.static arraycopyName ∈ TB := inTB 630 (by decide +kernel) (by decide +kernel)
theorem ac_ini : Cond.initialized "java/lang/System" ∈ TB := inTB 54 (by decide +kernel) (by decide +kernel)
