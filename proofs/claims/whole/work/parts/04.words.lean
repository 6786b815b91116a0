def lw_g : List Cond := lw_tbl.filter goodWord
theorem gi_all : GoodIn lw_g lw_g := fun w h => ⟨h, good_of_word (List.mem_filter.mp h).2⟩
theorem gi_tbl : ∀ w ∈ lw_g, w ∈ lw_tbl := fun w h => (List.mem_filter.mp h).1
theorem tw_se_X3_remember : Cond.selects RX3 yX3_remember yX3_remember ∈ lw_g := List.mem_filter.mpr ⟨List.mem_of_getElem? (i := 0) (by decide +kernel), rfl⟩
theorem tw_se_X3_measure : Cond.selects RX3 yX3_measure yX3_measure ∈ lw_g := List.mem_filter.mpr ⟨List.mem_of_getElem? (i := 1) (by decide +kernel), rfl⟩
theorem tw_se_X8_difference : Cond.selects RX8 yX8_difference yX8_difference ∈ lw_g := List.mem_filter.mpr ⟨List.mem_of_getElem? (i := 2) (by decide +kernel), rfl⟩
theorem tw_se_X8_hasBefore : Cond.selects RX8 yX8_hasBefore yX8_hasBefore ∈ lw_g := List.mem_filter.mpr ⟨List.mem_of_getElem? (i := 3) (by decide +kernel), rfl⟩
theorem tw_se_X9_findBreakers : Cond.selects RX9 yX9_findBreakers yX9_findBreakers ∈ lw_g := List.mem_filter.mpr ⟨List.mem_of_getElem? (i := 4) (by decide +kernel), rfl⟩
theorem tw_se_X9_endBeyond : Cond.selects RX9 yX9_endBeyond yX9_endBeyond ∈ lw_g := List.mem_filter.mpr ⟨List.mem_of_getElem? (i := 5) (by decide +kernel), rfl⟩
theorem tw_se_X5_spotOf : Cond.selects RX5 yX5_spotOf yX5_spotOf ∈ lw_g := List.mem_filter.mpr ⟨List.mem_of_getElem? (i := 6) (by decide +kernel), rfl⟩
theorem tw_se_X10_rankNearFirst : Cond.selects RX10 yX10_rankNearFirst yX10_rankNearFirst ∈ lw_g := List.mem_filter.mpr ⟨List.mem_of_getElem? (i := 7) (by decide +kernel), rfl⟩
theorem tw_se_X10_takeRanked : Cond.selects RX10 yX10_takeRanked yX10_takeRanked ∈ lw_g := List.mem_filter.mpr ⟨List.mem_of_getElem? (i := 8) (by decide +kernel), rfl⟩
theorem tw_se_X10_rankFarFirst : Cond.selects RX10 yX10_rankFarFirst yX10_rankFarFirst ∈ lw_g := List.mem_filter.mpr ⟨List.mem_of_getElem? (i := 9) (by decide +kernel), rfl⟩
theorem tw_se_X10_openBook : Cond.selects RX10 yX10_openBook yX10_openBook ∈ lw_g := List.mem_filter.mpr ⟨List.mem_of_getElem? (i := 10) (by decide +kernel), rfl⟩
theorem tw_se_X10_closestKey : Cond.selects RX10 yX10_closestKey yX10_closestKey ∈ lw_g := List.mem_filter.mpr ⟨List.mem_of_getElem? (i := 11) (by decide +kernel), rfl⟩
theorem tw_se_X1_closeGaps : Cond.selects RX1 yX1_closeGaps yX1_closeGaps ∈ lw_g := List.mem_filter.mpr ⟨List.mem_of_getElem? (i := 12) (by decide +kernel), rfl⟩
theorem tw_se_X1_farthestLoose : Cond.selects RX1 yX1_farthestLoose yX1_farthestLoose ∈ lw_g := List.mem_filter.mpr ⟨List.mem_of_getElem? (i := 13) (by decide +kernel), rfl⟩
theorem tw_se_X0_tryLast : Cond.selects RX0 yX0_tryLast yX0_tryLast ∈ lw_g := List.mem_filter.mpr ⟨List.mem_of_getElem? (i := 14) (by decide +kernel), rfl⟩
theorem tw_se_X0_reachOf : Cond.selects RX0 yX0_reachOf yX0_reachOf ∈ lw_g := List.mem_filter.mpr ⟨List.mem_of_getElem? (i := 15) (by decide +kernel), rfl⟩
theorem tw_se_X0_gapWith : Cond.selects RX0 yX0_gapWith yX0_gapWith ∈ lw_g := List.mem_filter.mpr ⟨List.mem_of_getElem? (i := 16) (by decide +kernel), rfl⟩
theorem tw_se_X0_tryTwos : Cond.selects RX0 yX0_tryTwos yX0_tryTwos ∈ lw_g := List.mem_filter.mpr ⟨List.mem_of_getElem? (i := 17) (by decide +kernel), rfl⟩
theorem tw_se_X0_pick : Cond.selects RX0 yX0_pick yX0_pick ∈ lw_g := List.mem_filter.mpr ⟨List.mem_of_getElem? (i := 18) (by decide +kernel), rfl⟩
theorem tw_se_X0_tryThrees : Cond.selects RX0 yX0_tryThrees yX0_tryThrees ∈ lw_g := List.mem_filter.mpr ⟨List.mem_of_getElem? (i := 19) (by decide +kernel), rfl⟩
theorem tw_se_X2_reachFrom : Cond.selects RX2 yX2_reachFrom yX2_reachFrom ∈ lw_g := List.mem_filter.mpr ⟨List.mem_of_getElem? (i := 20) (by decide +kernel), rfl⟩
theorem tw_se_X2_leastLoose : Cond.selects RX2 yX2_leastLoose yX2_leastLoose ∈ lw_g := List.mem_filter.mpr ⟨List.mem_of_getElem? (i := 21) (by decide +kernel), rfl⟩
theorem tw_se_X6_join : Cond.selects RX6 yX6_join yX6_join ∈ lw_g := List.mem_filter.mpr ⟨List.mem_of_getElem? (i := 22) (by decide +kernel), rfl⟩
theorem tw_se_X10_isBeyondResults : Cond.selects RX10 yX10_isBeyondResults yX10_isBeyondResults ∈ lw_g := List.mem_filter.mpr ⟨List.mem_of_getElem? (i := 23) (by decide +kernel), rfl⟩
theorem tw_se_X10_sumFrom : Cond.selects RX10 yX10_sumFrom yX10_sumFrom ∈ lw_g := List.mem_filter.mpr ⟨List.mem_of_getElem? (i := 24) (by decide +kernel), rfl⟩
theorem tw_se_X10_greatestInBook : Cond.selects RX10 yX10_greatestInBook yX10_greatestInBook ∈ lw_g := List.mem_filter.mpr ⟨List.mem_of_getElem? (i := 25) (by decide +kernel), rfl⟩
theorem tw_se_X10_lengthAsked : Cond.selects RX10 yX10_lengthAsked yX10_lengthAsked ∈ lw_g := List.mem_filter.mpr ⟨List.mem_of_getElem? (i := 26) (by decide +kernel), rfl⟩
theorem tw_se_X11_isThing : Cond.selects RX11 yX11_isThing yX11_isThing ∈ lw_g := List.mem_filter.mpr ⟨List.mem_of_getElem? (i := 27) (by decide +kernel), rfl⟩
theorem tw_se_X11_far : Cond.selects RX11 yX11_far yX11_far ∈ lw_g := List.mem_filter.mpr ⟨List.mem_of_getElem? (i := 28) (by decide +kernel), rfl⟩
theorem tw_se_X11_unlike : Cond.selects RX11 yX11_unlike yX11_unlike ∈ lw_g := List.mem_filter.mpr ⟨List.mem_of_getElem? (i := 29) (by decide +kernel), rfl⟩
theorem tw_se_X11_edits : Cond.selects RX11 yX11_edits yX11_edits ∈ lw_g := List.mem_filter.mpr ⟨List.mem_of_getElem? (i := 30) (by decide +kernel), rfl⟩
theorem tw_se_X11_alone : Cond.selects RX11 yX11_alone yX11_alone ∈ lw_g := List.mem_filter.mpr ⟨List.mem_of_getElem? (i := 31) (by decide +kernel), rfl⟩
theorem tw_se_X11_has : Cond.selects RX11 yX11_has yX11_has ∈ lw_g := List.mem_filter.mpr ⟨List.mem_of_getElem? (i := 32) (by decide +kernel), rfl⟩
theorem tw_se_X11_holds : Cond.selects RX11 yX11_holds yX11_holds ∈ lw_g := List.mem_filter.mpr ⟨List.mem_of_getElem? (i := 33) (by decide +kernel), rfl⟩
theorem tw_se_X11_those : Cond.selects RX11 yX11_those yX11_those ∈ lw_g := List.mem_filter.mpr ⟨List.mem_of_getElem? (i := 34) (by decide +kernel), rfl⟩
theorem tw_se_X11_takesNone : Cond.selects RX11 yX11_takesNone yX11_takesNone ∈ lw_g := List.mem_filter.mpr ⟨List.mem_of_getElem? (i := 35) (by decide +kernel), rfl⟩
theorem tw_se_X11_next : Cond.selects RX11 yX11_next yX11_next ∈ lw_g := List.mem_filter.mpr ⟨List.mem_of_getElem? (i := 36) (by decide +kernel), rfl⟩
theorem tw_se_X11_gives : Cond.selects RX11 yX11_gives yX11_gives ∈ lw_g := List.mem_filter.mpr ⟨List.mem_of_getElem? (i := 37) (by decide +kernel), rfl⟩
theorem tw_se_X11_inBook : Cond.selects RX11 yX11_inBook yX11_inBook ∈ lw_g := List.mem_filter.mpr ⟨List.mem_of_getElem? (i := 38) (by decide +kernel), rfl⟩
theorem tw_se_X11_fromResults : Cond.selects RX11 yX11_fromResults yX11_fromResults ∈ lw_g := List.mem_filter.mpr ⟨List.mem_of_getElem? (i := 39) (by decide +kernel), rfl⟩
theorem tw_se_X11_radius : Cond.selects RX11 yX11_radius yX11_radius ∈ lw_g := List.mem_filter.mpr ⟨List.mem_of_getElem? (i := 40) (by decide +kernel), rfl⟩
theorem tw_se_X11_radiusOf : Cond.selects RX11 yX11_radiusOf yX11_radiusOf ∈ lw_g := List.mem_filter.mpr ⟨List.mem_of_getElem? (i := 41) (by decide +kernel), rfl⟩
theorem tw_se_X11_chains : Cond.selects RX11 yX11_chains yX11_chains ∈ lw_g := List.mem_filter.mpr ⟨List.mem_of_getElem? (i := 42) (by decide +kernel), rfl⟩
theorem tw_se_X11_alonePieces : Cond.selects RX11 yX11_alonePieces yX11_alonePieces ∈ lw_g := List.mem_filter.mpr ⟨List.mem_of_getElem? (i := 43) (by decide +kernel), rfl⟩
theorem tw_se_X11_joins : Cond.selects RX11 yX11_joins yX11_joins ∈ lw_g := List.mem_filter.mpr ⟨List.mem_of_getElem? (i := 44) (by decide +kernel), rfl⟩
theorem tw_se_X11_pieces : Cond.selects RX11 yX11_pieces yX11_pieces ∈ lw_g := List.mem_filter.mpr ⟨List.mem_of_getElem? (i := 45) (by decide +kernel), rfl⟩
theorem tw_in_L : Cond.initialized RL ∈ lw_g := List.mem_filter.mpr ⟨List.mem_of_getElem? (i := 46) (by decide +kernel), rfl⟩
theorem tw_in_X10 : Cond.initialized RX10 ∈ lw_g := List.mem_filter.mpr ⟨List.mem_of_getElem? (i := 47) (by decide +kernel), rfl⟩
theorem tw_in_X8 : Cond.initialized RX8 ∈ lw_g := List.mem_filter.mpr ⟨List.mem_of_getElem? (i := 48) (by decide +kernel), rfl⟩
theorem tw_in_X9 : Cond.initialized RX9 ∈ lw_g := List.mem_filter.mpr ⟨List.mem_of_getElem? (i := 49) (by decide +kernel), rfl⟩
theorem tw_in_X3 : Cond.initialized RX3 ∈ lw_g := List.mem_filter.mpr ⟨List.mem_of_getElem? (i := 50) (by decide +kernel), rfl⟩
theorem tw_in_J7 : Cond.initialized RJ7 ∈ lw_g := List.mem_filter.mpr ⟨List.mem_of_getElem? (i := 51) (by decide +kernel), rfl⟩
theorem tw_in_X5 : Cond.initialized RX5 ∈ lw_g := List.mem_filter.mpr ⟨List.mem_of_getElem? (i := 52) (by decide +kernel), rfl⟩
theorem tw_in_X7 : Cond.initialized RX7 ∈ lw_g := List.mem_filter.mpr ⟨List.mem_of_getElem? (i := 53) (by decide +kernel), rfl⟩
theorem tw_in_X4 : Cond.initialized RX4 ∈ lw_g := List.mem_filter.mpr ⟨List.mem_of_getElem? (i := 54) (by decide +kernel), rfl⟩
theorem tw_in_X2 : Cond.initialized RX2 ∈ lw_g := List.mem_filter.mpr ⟨List.mem_of_getElem? (i := 55) (by decide +kernel), rfl⟩
theorem tw_in_X6 : Cond.initialized RX6 ∈ lw_g := List.mem_filter.mpr ⟨List.mem_of_getElem? (i := 56) (by decide +kernel), rfl⟩
theorem tw_in_X1 : Cond.initialized RX1 ∈ lw_g := List.mem_filter.mpr ⟨List.mem_of_getElem? (i := 57) (by decide +kernel), rfl⟩
theorem tw_in_X0 : Cond.initialized RX0 ∈ lw_g := List.mem_filter.mpr ⟨List.mem_of_getElem? (i := 58) (by decide +kernel), rfl⟩
theorem tw_in_X11 : Cond.initialized RX11 ∈ lw_g := List.mem_filter.mpr ⟨List.mem_of_getElem? (i := 59) (by decide +kernel), rfl⟩
theorem tw_in_J9 : Cond.initialized RJ9 ∈ lw_g := List.mem_filter.mpr ⟨List.mem_of_getElem? (i := 60) (by decide +kernel), rfl⟩
theorem tw_in_J10 : Cond.initialized RJ10 ∈ lw_g := List.mem_filter.mpr ⟨List.mem_of_getElem? (i := 61) (by decide +kernel), rfl⟩
theorem tw_cl_L_7 : Cond.classLink RL 7 RX10 ∈ lw_g := List.mem_filter.mpr ⟨List.mem_of_getElem? (i := 62) (by decide +kernel), rfl⟩
theorem tw_ib_X10 : Cond.instantiable RX10 10 ∈ lw_g := List.mem_filter.mpr ⟨List.mem_of_getElem? (i := 63) (by decide +kernel), rfl⟩
theorem tw_ml_L_9 : Cond.methodLink RL 9 yX10_init ∈ lw_g := List.mem_filter.mpr ⟨List.mem_of_getElem? (i := 64) (by decide +kernel), rfl⟩
theorem tw_im_X10_init : Cond.instanceMethod yX10_init ∈ lw_g := List.mem_filter.mpr ⟨List.mem_of_getElem? (i := 65) (by decide +kernel), rfl⟩
theorem tw_co_X10_init : Cond.code yX10_init cX10_init 1 none ∈ lw_g := List.mem_filter.mpr ⟨List.mem_of_getElem? (i := 66) (by decide +kernel), rfl⟩
theorem tw_ml_X10_1 : Cond.methodLink RX10 1 objectInit ∈ lw_g := List.mem_filter.mpr ⟨List.mem_of_getElem? (i := 67) (by decide +kernel), rfl⟩
theorem tw_im_objectInit : Cond.instanceMethod objectInit ∈ lw_g := List.mem_filter.mpr ⟨List.mem_of_getElem? (i := 68) (by decide +kernel), rfl⟩
theorem tw_co_objectInit : Cond.code objectInit ⟨#[0xb1]⟩ 1 none ∈ lw_g := List.mem_filter.mpr ⟨List.mem_of_getElem? (i := 69) (by decide +kernel), rfl⟩
theorem tw_cl_X10_7 : Cond.classLink RX10 7 RX8 ∈ lw_g := List.mem_filter.mpr ⟨List.mem_of_getElem? (i := 70) (by decide +kernel), rfl⟩
theorem tw_ib_X8 : Cond.instantiable RX8 4 ∈ lw_g := List.mem_filter.mpr ⟨List.mem_of_getElem? (i := 71) (by decide +kernel), rfl⟩
theorem tw_im_X8_init : Cond.instanceMethod yX8_init ∈ lw_g := List.mem_filter.mpr ⟨List.mem_of_getElem? (i := 73) (by decide +kernel), rfl⟩
theorem tw_co_X8_init : Cond.code yX8_init cX8_init 1 none ∈ lw_g := List.mem_filter.mpr ⟨List.mem_of_getElem? (i := 74) (by decide +kernel), rfl⟩
theorem tw_ml_X8_3 : Cond.methodLink RX8 3 objectInit ∈ lw_g := List.mem_filter.mpr ⟨List.mem_of_getElem? (i := 75) (by decide +kernel), rfl⟩
theorem tw_fl_X8_9 : Cond.fieldLink RX8 9 "NearBook$Rows" "lengths" "[I" ∈ lw_g := List.mem_filter.mpr ⟨List.mem_of_getElem? (i := 76) (by decide +kernel), rfl⟩
theorem tw_fl_X8_15 : Cond.fieldLink RX8 15 "NearBook$Rows" "places" "[I" ∈ lw_g := List.mem_filter.mpr ⟨List.mem_of_getElem? (i := 77) (by decide +kernel), rfl⟩
theorem tw_fl_X8_18 : Cond.fieldLink RX8 18 "NearBook$Rows" "line" "[I" ∈ lw_g := List.mem_filter.mpr ⟨List.mem_of_getElem? (i := 78) (by decide +kernel), rfl⟩
theorem tw_fl_X8_21 : Cond.fieldLink RX8 21 "NearBook$Rows" "size" "I" ∈ lw_g := List.mem_filter.mpr ⟨List.mem_of_getElem? (i := 79) (by decide +kernel), rfl⟩
theorem tw_ac_int : Cond.arrayClass .int ∈ lw_g := List.mem_filter.mpr ⟨List.mem_of_getElem? (i := 89) (by decide +kernel), rfl⟩
theorem tw_cl_X10_16 : Cond.classLink RX10 16 RX9 ∈ lw_g := List.mem_filter.mpr ⟨List.mem_of_getElem? (i := 90) (by decide +kernel), rfl⟩
theorem tw_ib_X9 : Cond.instantiable RX9 4 ∈ lw_g := List.mem_filter.mpr ⟨List.mem_of_getElem? (i := 91) (by decide +kernel), rfl⟩
theorem tw_im_X9_init : Cond.instanceMethod yX9_init ∈ lw_g := List.mem_filter.mpr ⟨List.mem_of_getElem? (i := 93) (by decide +kernel), rfl⟩
theorem tw_co_X9_init : Cond.code yX9_init cX9_init 1 none ∈ lw_g := List.mem_filter.mpr ⟨List.mem_of_getElem? (i := 94) (by decide +kernel), rfl⟩
theorem tw_ml_X9_3 : Cond.methodLink RX9 3 objectInit ∈ lw_g := List.mem_filter.mpr ⟨List.mem_of_getElem? (i := 95) (by decide +kernel), rfl⟩
theorem tw_fl_X9_9 : Cond.fieldLink RX9 9 "NearBook$Table" "told" "[I" ∈ lw_g := List.mem_filter.mpr ⟨List.mem_of_getElem? (i := 96) (by decide +kernel), rfl⟩
theorem tw_fl_X9_15 : Cond.fieldLink RX9 15 "NearBook$Table" "breakers" "[I" ∈ lw_g := List.mem_filter.mpr ⟨List.mem_of_getElem? (i := 97) (by decide +kernel), rfl⟩
theorem tw_fl_X9_18 : Cond.fieldLink RX9 18 "NearBook$Table" "broken" "Z" ∈ lw_g := List.mem_filter.mpr ⟨List.mem_of_getElem? (i := 98) (by decide +kernel), rfl⟩
theorem tw_fl_X9_22 : Cond.fieldLink RX9 22 "NearBook$Table" "checkedThings" "I" ∈ lw_g := List.mem_filter.mpr ⟨List.mem_of_getElem? (i := 99) (by decide +kernel), rfl⟩
theorem tw_cl_X10_23 : Cond.classLink RX10 23 RX3 ∈ lw_g := List.mem_filter.mpr ⟨List.mem_of_getElem? (i := 109) (by decide +kernel), rfl⟩
theorem tw_ib_X3 : Cond.instantiable RX3 4 ∈ lw_g := List.mem_filter.mpr ⟨List.mem_of_getElem? (i := 110) (by decide +kernel), rfl⟩
theorem tw_ml_X10_25 : Cond.methodLink RX10 25 yX3_init ∈ lw_g := List.mem_filter.mpr ⟨List.mem_of_getElem? (i := 111) (by decide +kernel), rfl⟩
theorem tw_im_X3_init : Cond.instanceMethod yX3_init ∈ lw_g := List.mem_filter.mpr ⟨List.mem_of_getElem? (i := 112) (by decide +kernel), rfl⟩
theorem tw_co_X3_init : Cond.code yX3_init cX3_init 3 none ∈ lw_g := List.mem_filter.mpr ⟨List.mem_of_getElem? (i := 113) (by decide +kernel), rfl⟩
theorem tw_ml_X3_3 : Cond.methodLink RX3 3 objectInit ∈ lw_g := List.mem_filter.mpr ⟨List.mem_of_getElem? (i := 114) (by decide +kernel), rfl⟩
theorem tw_ml_X3_27 : Cond.methodLink RX3 27 yJ7_fill_53178 ∈ lw_g := List.mem_filter.mpr ⟨List.mem_of_getElem? (i := 115) (by decide +kernel), rfl⟩
theorem tw_sm_J7_fill_53178 : Cond.static yJ7_fill_53178 ∈ lw_g := List.mem_filter.mpr ⟨List.mem_of_getElem? (i := 116) (by decide +kernel), rfl⟩
theorem tw_co_J7_fill_53178 : Cond.code yJ7_fill_53178 cJ7_fill_53178 4 none ∈ lw_g := List.mem_filter.mpr ⟨List.mem_of_getElem? (i := 117) (by decide +kernel), rfl⟩
theorem tw_fl_X3_19 : Cond.fieldLink RX3 19 "NearBook$Distances" "rows" "LNearBook$Rows;" ∈ lw_g := List.mem_filter.mpr ⟨List.mem_of_getElem? (i := 118) (by decide +kernel), rfl⟩
theorem tw_fl_X3_23 : Cond.fieldLink RX3 23 "NearBook$Distances" "table" "LNearBook$Table;" ∈ lw_g := List.mem_filter.mpr ⟨List.mem_of_getElem? (i := 119) (by decide +kernel), rfl⟩
theorem tw_fl_X3_9 : Cond.fieldLink RX3 9 "NearBook$Distances" "known" "[I" ∈ lw_g := List.mem_filter.mpr ⟨List.mem_of_getElem? (i := 120) (by decide +kernel), rfl⟩
theorem tw_fl_X3_15 : Cond.fieldLink RX3 15 "NearBook$Distances" "kind" "I" ∈ lw_g := List.mem_filter.mpr ⟨List.mem_of_getElem? (i := 121) (by decide +kernel), rfl⟩
theorem tw_cl_X10_32 : Cond.classLink RX10 32 RX5 ∈ lw_g := List.mem_filter.mpr ⟨List.mem_of_getElem? (i := 131) (by decide +kernel), rfl⟩
theorem tw_ib_X5 : Cond.instantiable RX5 2 ∈ lw_g := List.mem_filter.mpr ⟨List.mem_of_getElem? (i := 132) (by decide +kernel), rfl⟩
theorem tw_im_X5_init : Cond.instanceMethod yX5_init ∈ lw_g := List.mem_filter.mpr ⟨List.mem_of_getElem? (i := 134) (by decide +kernel), rfl⟩
theorem tw_co_X5_init : Cond.code yX5_init cX5_init 1 none ∈ lw_g := List.mem_filter.mpr ⟨List.mem_of_getElem? (i := 135) (by decide +kernel), rfl⟩
theorem tw_ml_X5_3 : Cond.methodLink RX5 3 objectInit ∈ lw_g := List.mem_filter.mpr ⟨List.mem_of_getElem? (i := 136) (by decide +kernel), rfl⟩
theorem tw_fl_X5_9 : Cond.fieldLink RX5 9 "NearBook$Members" "numbers" "[I" ∈ lw_g := List.mem_filter.mpr ⟨List.mem_of_getElem? (i := 137) (by decide +kernel), rfl⟩
theorem tw_fl_X5_15 : Cond.fieldLink RX5 15 "NearBook$Members" "size" "I" ∈ lw_g := List.mem_filter.mpr ⟨List.mem_of_getElem? (i := 138) (by decide +kernel), rfl⟩
theorem tw_cl_X10_39 : Cond.classLink RX10 39 RX7 ∈ lw_g := List.mem_filter.mpr ⟨List.mem_of_getElem? (i := 144) (by decide +kernel), rfl⟩
theorem tw_ib_X7 : Cond.instantiable RX7 3 ∈ lw_g := List.mem_filter.mpr ⟨List.mem_of_getElem? (i := 145) (by decide +kernel), rfl⟩
theorem tw_im_X7_init : Cond.instanceMethod yX7_init ∈ lw_g := List.mem_filter.mpr ⟨List.mem_of_getElem? (i := 147) (by decide +kernel), rfl⟩
theorem tw_co_X7_init : Cond.code yX7_init cX7_init 1 none ∈ lw_g := List.mem_filter.mpr ⟨List.mem_of_getElem? (i := 148) (by decide +kernel), rfl⟩
theorem tw_ml_X7_3 : Cond.methodLink RX7 3 objectInit ∈ lw_g := List.mem_filter.mpr ⟨List.mem_of_getElem? (i := 149) (by decide +kernel), rfl⟩
theorem tw_fl_X7_9 : Cond.fieldLink RX7 9 "NearBook$Results" "things" "[I" ∈ lw_g := List.mem_filter.mpr ⟨List.mem_of_getElem? (i := 150) (by decide +kernel), rfl⟩
theorem tw_fl_X7_15 : Cond.fieldLink RX7 15 "NearBook$Results" "apart" "[I" ∈ lw_g := List.mem_filter.mpr ⟨List.mem_of_getElem? (i := 151) (by decide +kernel), rfl⟩
theorem tw_fl_X7_18 : Cond.fieldLink RX7 18 "NearBook$Results" "size" "I" ∈ lw_g := List.mem_filter.mpr ⟨List.mem_of_getElem? (i := 152) (by decide +kernel), rfl⟩
theorem tw_cl_X10_46 : Cond.classLink RX10 46 RX4 ∈ lw_g := List.mem_filter.mpr ⟨List.mem_of_getElem? (i := 160) (by decide +kernel), rfl⟩
theorem tw_ib_X4 : Cond.instantiable RX4 2 ∈ lw_g := List.mem_filter.mpr ⟨List.mem_of_getElem? (i := 161) (by decide +kernel), rfl⟩
theorem tw_im_X4_init : Cond.instanceMethod yX4_init ∈ lw_g := List.mem_filter.mpr ⟨List.mem_of_getElem? (i := 163) (by decide +kernel), rfl⟩
theorem tw_co_X4_init : Cond.code yX4_init cX4_init 1 none ∈ lw_g := List.mem_filter.mpr ⟨List.mem_of_getElem? (i := 164) (by decide +kernel), rfl⟩
theorem tw_ml_X4_3 : Cond.methodLink RX4 3 objectInit ∈ lw_g := List.mem_filter.mpr ⟨List.mem_of_getElem? (i := 165) (by decide +kernel), rfl⟩
theorem tw_fl_X4_9 : Cond.fieldLink RX4 9 "NearBook$Keys" "keys" "[I" ∈ lw_g := List.mem_filter.mpr ⟨List.mem_of_getElem? (i := 166) (by decide +kernel), rfl⟩
theorem tw_fl_X4_15 : Cond.fieldLink RX4 15 "NearBook$Keys" "size" "I" ∈ lw_g := List.mem_filter.mpr ⟨List.mem_of_getElem? (i := 167) (by decide +kernel), rfl⟩
theorem tw_cl_X10_53 : Cond.classLink RX10 53 RX2 ∈ lw_g := List.mem_filter.mpr ⟨List.mem_of_getElem? (i := 173) (by decide +kernel), rfl⟩
theorem tw_ib_X2 : Cond.instantiable RX2 4 ∈ lw_g := List.mem_filter.mpr ⟨List.mem_of_getElem? (i := 174) (by decide +kernel), rfl⟩
theorem tw_ml_X10_55 : Cond.methodLink RX10 55 yX2_init ∈ lw_g := List.mem_filter.mpr ⟨List.mem_of_getElem? (i := 175) (by decide +kernel), rfl⟩
theorem tw_im_X2_init : Cond.instanceMethod yX2_init ∈ lw_g := List.mem_filter.mpr ⟨List.mem_of_getElem? (i := 176) (by decide +kernel), rfl⟩
theorem tw_co_X2_init : Cond.code yX2_init cX2_init 3 none ∈ lw_g := List.mem_filter.mpr ⟨List.mem_of_getElem? (i := 177) (by decide +kernel), rfl⟩
theorem tw_ml_X2_5 : Cond.methodLink RX2 5 objectInit ∈ lw_g := List.mem_filter.mpr ⟨List.mem_of_getElem? (i := 178) (by decide +kernel), rfl⟩
theorem tw_cl_X2_11 : Cond.classLink RX2 11 RX4 ∈ lw_g := List.mem_filter.mpr ⟨List.mem_of_getElem? (i := 179) (by decide +kernel), rfl⟩
theorem tw_fl_X2_24 : Cond.fieldLink RX2 24 "NearBook$Chain" "members" "LNearBook$Members;" ∈ lw_g := List.mem_filter.mpr ⟨List.mem_of_getElem? (i := 181) (by decide +kernel), rfl⟩
theorem tw_fl_X2_28 : Cond.fieldLink RX2 28 "NearBook$Chain" "distances" "LNearBook$Distances;" ∈ lw_g := List.mem_filter.mpr ⟨List.mem_of_getElem? (i := 182) (by decide +kernel), rfl⟩
theorem tw_fl_X2_14 : Cond.fieldLink RX2 14 "NearBook$Chain" "taken" "LNearBook$Keys;" ∈ lw_g := List.mem_filter.mpr ⟨List.mem_of_getElem? (i := 183) (by decide +kernel), rfl⟩
theorem tw_fl_X2_20 : Cond.fieldLink RX2 20 "NearBook$Chain" "nearestLink" "[I" ∈ lw_g := List.mem_filter.mpr ⟨List.mem_of_getElem? (i := 184) (by decide +kernel), rfl⟩
theorem tw_cl_X10_62 : Cond.classLink RX10 62 RX6 ∈ lw_g := List.mem_filter.mpr ⟨List.mem_of_getElem? (i := 194) (by decide +kernel), rfl⟩
theorem tw_ib_X6 : Cond.instantiable RX6 3 ∈ lw_g := List.mem_filter.mpr ⟨List.mem_of_getElem? (i := 195) (by decide +kernel), rfl⟩
theorem tw_ml_X10_64 : Cond.methodLink RX10 64 yX6_init ∈ lw_g := List.mem_filter.mpr ⟨List.mem_of_getElem? (i := 196) (by decide +kernel), rfl⟩
theorem tw_im_X6_init : Cond.instanceMethod yX6_init ∈ lw_g := List.mem_filter.mpr ⟨List.mem_of_getElem? (i := 197) (by decide +kernel), rfl⟩
theorem tw_co_X6_init : Cond.code yX6_init cX6_init 3 none ∈ lw_g := List.mem_filter.mpr ⟨List.mem_of_getElem? (i := 198) (by decide +kernel), rfl⟩
theorem tw_ml_X6_3 : Cond.methodLink RX6 3 objectInit ∈ lw_g := List.mem_filter.mpr ⟨List.mem_of_getElem? (i := 199) (by decide +kernel), rfl⟩
theorem tw_fl_X6_15 : Cond.fieldLink RX6 15 "NearBook$Pieces" "members" "LNearBook$Members;" ∈ lw_g := List.mem_filter.mpr ⟨List.mem_of_getElem? (i := 200) (by decide +kernel), rfl⟩
theorem tw_fl_X6_19 : Cond.fieldLink RX6 19 "NearBook$Pieces" "distances" "LNearBook$Distances;" ∈ lw_g := List.mem_filter.mpr ⟨List.mem_of_getElem? (i := 201) (by decide +kernel), rfl⟩
theorem tw_fl_X6_9 : Cond.fieldLink RX6 9 "NearBook$Pieces" "lowest" "[I" ∈ lw_g := List.mem_filter.mpr ⟨List.mem_of_getElem? (i := 202) (by decide +kernel), rfl⟩
theorem tw_cl_X10_69 : Cond.classLink RX10 69 RX1 ∈ lw_g := List.mem_filter.mpr ⟨List.mem_of_getElem? (i := 210) (by decide +kernel), rfl⟩
theorem tw_ib_X1 : Cond.instantiable RX1 3 ∈ lw_g := List.mem_filter.mpr ⟨List.mem_of_getElem? (i := 211) (by decide +kernel), rfl⟩
theorem tw_ml_X10_71 : Cond.methodLink RX10 71 yX1_init ∈ lw_g := List.mem_filter.mpr ⟨List.mem_of_getElem? (i := 212) (by decide +kernel), rfl⟩
theorem tw_im_X1_init : Cond.instanceMethod yX1_init ∈ lw_g := List.mem_filter.mpr ⟨List.mem_of_getElem? (i := 213) (by decide +kernel), rfl⟩
theorem tw_co_X1_init : Cond.code yX1_init cX1_init 3 none ∈ lw_g := List.mem_filter.mpr ⟨List.mem_of_getElem? (i := 214) (by decide +kernel), rfl⟩
theorem tw_ml_X1_3 : Cond.methodLink RX1 3 objectInit ∈ lw_g := List.mem_filter.mpr ⟨List.mem_of_getElem? (i := 215) (by decide +kernel), rfl⟩
theorem tw_fl_X1_15 : Cond.fieldLink RX1 15 "NearBook$Centres" "members" "LNearBook$Members;" ∈ lw_g := List.mem_filter.mpr ⟨List.mem_of_getElem? (i := 216) (by decide +kernel), rfl⟩
theorem tw_fl_X1_19 : Cond.fieldLink RX1 19 "NearBook$Centres" "distances" "LNearBook$Distances;" ∈ lw_g := List.mem_filter.mpr ⟨List.mem_of_getElem? (i := 217) (by decide +kernel), rfl⟩
theorem tw_fl_X1_9 : Cond.fieldLink RX1 9 "NearBook$Centres" "gaps" "[I" ∈ lw_g := List.mem_filter.mpr ⟨List.mem_of_getElem? (i := 218) (by decide +kernel), rfl⟩
theorem tw_cl_X10_76 : Cond.classLink RX10 76 RX0 ∈ lw_g := List.mem_filter.mpr ⟨List.mem_of_getElem? (i := 226) (by decide +kernel), rfl⟩
theorem tw_ib_X0 : Cond.instantiable RX0 7 ∈ lw_g := List.mem_filter.mpr ⟨List.mem_of_getElem? (i := 227) (by decide +kernel), rfl⟩
theorem tw_ml_X10_78 : Cond.methodLink RX10 78 yX0_init ∈ lw_g := List.mem_filter.mpr ⟨List.mem_of_getElem? (i := 228) (by decide +kernel), rfl⟩
theorem tw_im_X0_init : Cond.instanceMethod yX0_init ∈ lw_g := List.mem_filter.mpr ⟨List.mem_of_getElem? (i := 229) (by decide +kernel), rfl⟩
theorem tw_co_X0_init : Cond.code yX0_init cX0_init 3 none ∈ lw_g := List.mem_filter.mpr ⟨List.mem_of_getElem? (i := 230) (by decide +kernel), rfl⟩
theorem tw_ml_X0_3 : Cond.methodLink RX0 3 objectInit ∈ lw_g := List.mem_filter.mpr ⟨List.mem_of_getElem? (i := 231) (by decide +kernel), rfl⟩
theorem tw_fl_X0_28 : Cond.fieldLink RX0 28 "NearBook$BestCentres" "members" "LNearBook$Members;" ∈ lw_g := List.mem_filter.mpr ⟨List.mem_of_getElem? (i := 232) (by decide +kernel), rfl⟩
theorem tw_fl_X0_32 : Cond.fieldLink RX0 32 "NearBook$BestCentres" "distances" "LNearBook$Distances;" ∈ lw_g := List.mem_filter.mpr ⟨List.mem_of_getElem? (i := 233) (by decide +kernel), rfl⟩
theorem tw_fl_X0_9 : Cond.fieldLink RX0 9 "NearBook$BestCentres" "gaps" "[I" ∈ lw_g := List.mem_filter.mpr ⟨List.mem_of_getElem? (i := 234) (by decide +kernel), rfl⟩
theorem tw_fl_X0_15 : Cond.fieldLink RX0 15 "NearBook$BestCentres" "picked" "[I" ∈ lw_g := List.mem_filter.mpr ⟨List.mem_of_getElem? (i := 235) (by decide +kernel), rfl⟩
theorem tw_fl_X0_18 : Cond.fieldLink RX0 18 "NearBook$BestCentres" "best" "[I" ∈ lw_g := List.mem_filter.mpr ⟨List.mem_of_getElem? (i := 236) (by decide +kernel), rfl⟩
theorem tw_fl_X0_21 : Cond.fieldLink RX0 21 "NearBook$BestCentres" "radius" "I" ∈ lw_g := List.mem_filter.mpr ⟨List.mem_of_getElem? (i := 237) (by decide +kernel), rfl⟩
theorem tw_fl_X0_25 : Cond.fieldLink RX0 25 "NearBook$BestCentres" "suspect" "I" ∈ lw_g := List.mem_filter.mpr ⟨List.mem_of_getElem? (i := 238) (by decide +kernel), rfl⟩
theorem tw_fl_X10_10 : Cond.fieldLink RX10 10 "NearBook" "rows" "LNearBook$Rows;" ∈ lw_g := List.mem_filter.mpr ⟨List.mem_of_getElem? (i := 254) (by decide +kernel), rfl⟩
theorem tw_fl_X10_19 : Cond.fieldLink RX10 19 "NearBook" "table" "LNearBook$Table;" ∈ lw_g := List.mem_filter.mpr ⟨List.mem_of_getElem? (i := 255) (by decide +kernel), rfl⟩
theorem tw_fl_X10_28 : Cond.fieldLink RX10 28 "NearBook" "distances" "LNearBook$Distances;" ∈ lw_g := List.mem_filter.mpr ⟨List.mem_of_getElem? (i := 256) (by decide +kernel), rfl⟩
theorem tw_fl_X10_35 : Cond.fieldLink RX10 35 "NearBook" "members" "LNearBook$Members;" ∈ lw_g := List.mem_filter.mpr ⟨List.mem_of_getElem? (i := 257) (by decide +kernel), rfl⟩
theorem tw_fl_X10_42 : Cond.fieldLink RX10 42 "NearBook" "results" "LNearBook$Results;" ∈ lw_g := List.mem_filter.mpr ⟨List.mem_of_getElem? (i := 258) (by decide +kernel), rfl⟩
theorem tw_fl_X10_49 : Cond.fieldLink RX10 49 "NearBook" "ranked" "LNearBook$Keys;" ∈ lw_g := List.mem_filter.mpr ⟨List.mem_of_getElem? (i := 259) (by decide +kernel), rfl⟩
theorem tw_fl_X10_58 : Cond.fieldLink RX10 58 "NearBook" "links" "LNearBook$Chain;" ∈ lw_g := List.mem_filter.mpr ⟨List.mem_of_getElem? (i := 260) (by decide +kernel), rfl⟩
theorem tw_fl_X10_65 : Cond.fieldLink RX10 65 "NearBook" "pieces" "LNearBook$Pieces;" ∈ lw_g := List.mem_filter.mpr ⟨List.mem_of_getElem? (i := 261) (by decide +kernel), rfl⟩
theorem tw_fl_X10_72 : Cond.fieldLink RX10 72 "NearBook" "spread" "LNearBook$Centres;" ∈ lw_g := List.mem_filter.mpr ⟨List.mem_of_getElem? (i := 262) (by decide +kernel), rfl⟩
theorem tw_fl_X10_79 : Cond.fieldLink RX10 79 "NearBook" "search" "LNearBook$BestCentres;" ∈ lw_g := List.mem_filter.mpr ⟨List.mem_of_getElem? (i := 263) (by decide +kernel), rfl⟩
theorem tw_ml_L_13 : Cond.methodLink RL 13 yX10_thing ∈ lw_g := List.mem_filter.mpr ⟨List.mem_of_getElem? (i := 285) (by decide +kernel), rfl⟩
theorem tw_im_X10_thing : Cond.instanceMethod yX10_thing ∈ lw_g := List.mem_filter.mpr ⟨List.mem_of_getElem? (i := 286) (by decide +kernel), rfl⟩
theorem tw_se_X10_thing : Cond.selects RX10 yX10_thing yX10_thing ∈ lw_g := List.mem_filter.mpr ⟨List.mem_of_getElem? (i := 287) (by decide +kernel), rfl⟩
theorem tw_co_X10_thing : Cond.code yX10_thing cX10_thing 2 (some .int) ∈ lw_g := List.mem_filter.mpr ⟨List.mem_of_getElem? (i := 288) (by decide +kernel), rfl⟩
theorem tw_ml_X10_83 : Cond.methodLink RX10 83 yX8_size ∈ lw_g := List.mem_filter.mpr ⟨List.mem_of_getElem? (i := 289) (by decide +kernel), rfl⟩
theorem tw_im_X8_size : Cond.instanceMethod yX8_size ∈ lw_g := List.mem_filter.mpr ⟨List.mem_of_getElem? (i := 290) (by decide +kernel), rfl⟩
theorem tw_se_X8_size : Cond.selects RX8 yX8_size yX8_size ∈ lw_g := List.mem_filter.mpr ⟨List.mem_of_getElem? (i := 291) (by decide +kernel), rfl⟩
theorem tw_co_X8_size : Cond.code yX8_size cX8_size 1 (some .int) ∈ lw_g := List.mem_filter.mpr ⟨List.mem_of_getElem? (i := 292) (by decide +kernel), rfl⟩
theorem tw_ml_X10_87 : Cond.methodLink RX10 87 yX8_append ∈ lw_g := List.mem_filter.mpr ⟨List.mem_of_getElem? (i := 293) (by decide +kernel), rfl⟩
theorem tw_im_X8_append : Cond.instanceMethod yX8_append ∈ lw_g := List.mem_filter.mpr ⟨List.mem_of_getElem? (i := 294) (by decide +kernel), rfl⟩
theorem tw_se_X8_append : Cond.selects RX8 yX8_append yX8_append ∈ lw_g := List.mem_filter.mpr ⟨List.mem_of_getElem? (i := 295) (by decide +kernel), rfl⟩
theorem tw_co_X8_append : Cond.code yX8_append cX8_append 2 (some .int) ∈ lw_g := List.mem_filter.mpr ⟨List.mem_of_getElem? (i := 296) (by decide +kernel), rfl⟩
theorem tw_ml_L_18 : Cond.methodLink RL 18 yX10_value ∈ lw_g := List.mem_filter.mpr ⟨List.mem_of_getElem? (i := 297) (by decide +kernel), rfl⟩
theorem tw_im_X10_value : Cond.instanceMethod yX10_value ∈ lw_g := List.mem_filter.mpr ⟨List.mem_of_getElem? (i := 298) (by decide +kernel), rfl⟩
theorem tw_se_X10_value : Cond.selects RX10 yX10_value yX10_value ∈ lw_g := List.mem_filter.mpr ⟨List.mem_of_getElem? (i := 299) (by decide +kernel), rfl⟩
theorem tw_co_X10_value : Cond.code yX10_value cX10_value 4 (some .boolean) ∈ lw_g := List.mem_filter.mpr ⟨List.mem_of_getElem? (i := 300) (by decide +kernel), rfl⟩
theorem tw_ml_X10_91 : Cond.methodLink RX10 91 yX8_holds ∈ lw_g := List.mem_filter.mpr ⟨List.mem_of_getElem? (i := 301) (by decide +kernel), rfl⟩
theorem tw_im_X8_holds : Cond.instanceMethod yX8_holds ∈ lw_g := List.mem_filter.mpr ⟨List.mem_of_getElem? (i := 302) (by decide +kernel), rfl⟩
theorem tw_se_X8_holds : Cond.selects RX8 yX8_holds yX8_holds ∈ lw_g := List.mem_filter.mpr ⟨List.mem_of_getElem? (i := 303) (by decide +kernel), rfl⟩
theorem tw_co_X8_holds : Cond.code yX8_holds cX8_holds 2 (some .boolean) ∈ lw_g := List.mem_filter.mpr ⟨List.mem_of_getElem? (i := 304) (by decide +kernel), rfl⟩
theorem tw_ml_X10_95 : Cond.methodLink RX10 95 yX8_lengthOf ∈ lw_g := List.mem_filter.mpr ⟨List.mem_of_getElem? (i := 305) (by decide +kernel), rfl⟩
theorem tw_im_X8_lengthOf : Cond.instanceMethod yX8_lengthOf ∈ lw_g := List.mem_filter.mpr ⟨List.mem_of_getElem? (i := 306) (by decide +kernel), rfl⟩
theorem tw_se_X8_lengthOf : Cond.selects RX8 yX8_lengthOf yX8_lengthOf ∈ lw_g := List.mem_filter.mpr ⟨List.mem_of_getElem? (i := 307) (by decide +kernel), rfl⟩
theorem tw_co_X8_lengthOf : Cond.code yX8_lengthOf cX8_lengthOf 2 (some .int) ∈ lw_g := List.mem_filter.mpr ⟨List.mem_of_getElem? (i := 308) (by decide +kernel), rfl⟩
theorem tw_ml_X10_98 : Cond.methodLink RX10 98 yX8_change ∈ lw_g := List.mem_filter.mpr ⟨List.mem_of_getElem? (i := 309) (by decide +kernel), rfl⟩
theorem tw_im_X8_change : Cond.instanceMethod yX8_change ∈ lw_g := List.mem_filter.mpr ⟨List.mem_of_getElem? (i := 310) (by decide +kernel), rfl⟩
theorem tw_se_X8_change : Cond.selects RX8 yX8_change yX8_change ∈ lw_g := List.mem_filter.mpr ⟨List.mem_of_getElem? (i := 311) (by decide +kernel), rfl⟩
theorem tw_co_X8_change : Cond.code yX8_change cX8_change 4 none ∈ lw_g := List.mem_filter.mpr ⟨List.mem_of_getElem? (i := 312) (by decide +kernel), rfl⟩
theorem tw_ml_X10_102 : Cond.methodLink RX10 102 yX3_forgetAllOf ∈ lw_g := List.mem_filter.mpr ⟨List.mem_of_getElem? (i := 313) (by decide +kernel), rfl⟩
theorem tw_im_X3_forgetAllOf : Cond.instanceMethod yX3_forgetAllOf ∈ lw_g := List.mem_filter.mpr ⟨List.mem_of_getElem? (i := 314) (by decide +kernel), rfl⟩
theorem tw_se_X3_forgetAllOf : Cond.selects RX3 yX3_forgetAllOf yX3_forgetAllOf ∈ lw_g := List.mem_filter.mpr ⟨List.mem_of_getElem? (i := 315) (by decide +kernel), rfl⟩
theorem tw_co_X3_forgetAllOf : Cond.code yX3_forgetAllOf cX3_forgetAllOf 3 none ∈ lw_g := List.mem_filter.mpr ⟨List.mem_of_getElem? (i := 316) (by decide +kernel), rfl⟩
theorem tw_ml_X3_33 : Cond.methodLink RX3 33 yX3_remember ∈ lw_g := List.mem_filter.mpr ⟨List.mem_of_getElem? (i := 317) (by decide +kernel), rfl⟩
theorem tw_im_X3_remember : Cond.instanceMethod yX3_remember ∈ lw_g := List.mem_filter.mpr ⟨List.mem_of_getElem? (i := 319) (by decide +kernel), rfl⟩
theorem tw_co_X3_remember : Cond.code yX3_remember cX3_remember 4 none ∈ lw_g := List.mem_filter.mpr ⟨List.mem_of_getElem? (i := 320) (by decide +kernel), rfl⟩
theorem tw_ml_L_23 : Cond.methodLink RL 23 yX10_tell ∈ lw_g := List.mem_filter.mpr ⟨List.mem_of_getElem? (i := 321) (by decide +kernel), rfl⟩
theorem tw_im_X10_tell : Cond.instanceMethod yX10_tell ∈ lw_g := List.mem_filter.mpr ⟨List.mem_of_getElem? (i := 322) (by decide +kernel), rfl⟩
theorem tw_se_X10_tell : Cond.selects RX10 yX10_tell yX10_tell ∈ lw_g := List.mem_filter.mpr ⟨List.mem_of_getElem? (i := 323) (by decide +kernel), rfl⟩
theorem tw_co_X10_tell : Cond.code yX10_tell cX10_tell 4 (some .boolean) ∈ lw_g := List.mem_filter.mpr ⟨List.mem_of_getElem? (i := 324) (by decide +kernel), rfl⟩
theorem tw_cn_X10_106 : Cond.constant RX10 106 (100000) ∈ lw_g := List.mem_filter.mpr ⟨List.mem_of_getElem? (i := 325) (by decide +kernel), rfl⟩
theorem tw_ml_X10_107 : Cond.methodLink RX10 107 yX9_write ∈ lw_g := List.mem_filter.mpr ⟨List.mem_of_getElem? (i := 326) (by decide +kernel), rfl⟩
theorem tw_im_X9_write : Cond.instanceMethod yX9_write ∈ lw_g := List.mem_filter.mpr ⟨List.mem_of_getElem? (i := 327) (by decide +kernel), rfl⟩
theorem tw_se_X9_write : Cond.selects RX9 yX9_write yX9_write ∈ lw_g := List.mem_filter.mpr ⟨List.mem_of_getElem? (i := 328) (by decide +kernel), rfl⟩
theorem tw_co_X9_write : Cond.code yX9_write cX9_write 4 none ∈ lw_g := List.mem_filter.mpr ⟨List.mem_of_getElem? (i := 329) (by decide +kernel), rfl⟩
theorem tw_ml_X10_110 : Cond.methodLink RX10 110 yX3_forgetPair ∈ lw_g := List.mem_filter.mpr ⟨List.mem_of_getElem? (i := 330) (by decide +kernel), rfl⟩
theorem tw_im_X3_forgetPair : Cond.instanceMethod yX3_forgetPair ∈ lw_g := List.mem_filter.mpr ⟨List.mem_of_getElem? (i := 331) (by decide +kernel), rfl⟩
theorem tw_se_X3_forgetPair : Cond.selects RX3 yX3_forgetPair yX3_forgetPair ∈ lw_g := List.mem_filter.mpr ⟨List.mem_of_getElem? (i := 332) (by decide +kernel), rfl⟩
theorem tw_co_X3_forgetPair : Cond.code yX3_forgetPair cX3_forgetPair 3 none ∈ lw_g := List.mem_filter.mpr ⟨List.mem_of_getElem? (i := 333) (by decide +kernel), rfl⟩
theorem tw_ml_L_27 : Cond.methodLink RL 27 yX10_kind ∈ lw_g := List.mem_filter.mpr ⟨List.mem_of_getElem? (i := 334) (by decide +kernel), rfl⟩
theorem tw_im_X10_kind : Cond.instanceMethod yX10_kind ∈ lw_g := List.mem_filter.mpr ⟨List.mem_of_getElem? (i := 335) (by decide +kernel), rfl⟩
theorem tw_se_X10_kind : Cond.selects RX10 yX10_kind yX10_kind ∈ lw_g := List.mem_filter.mpr ⟨List.mem_of_getElem? (i := 336) (by decide +kernel), rfl⟩
theorem tw_co_X10_kind : Cond.code yX10_kind cX10_kind 2 (some .boolean) ∈ lw_g := List.mem_filter.mpr ⟨List.mem_of_getElem? (i := 337) (by decide +kernel), rfl⟩
theorem tw_ml_X10_114 : Cond.methodLink RX10 114 yX3_useKind ∈ lw_g := List.mem_filter.mpr ⟨List.mem_of_getElem? (i := 338) (by decide +kernel), rfl⟩
theorem tw_im_X3_useKind : Cond.instanceMethod yX3_useKind ∈ lw_g := List.mem_filter.mpr ⟨List.mem_of_getElem? (i := 339) (by decide +kernel), rfl⟩
theorem tw_se_X3_useKind : Cond.selects RX3 yX3_useKind yX3_useKind ∈ lw_g := List.mem_filter.mpr ⟨List.mem_of_getElem? (i := 340) (by decide +kernel), rfl⟩
theorem tw_co_X3_useKind : Cond.code yX3_useKind cX3_useKind 2 none ∈ lw_g := List.mem_filter.mpr ⟨List.mem_of_getElem? (i := 341) (by decide +kernel), rfl⟩
theorem tw_ml_L_32 : Cond.methodLink RL 32 yX10_distance ∈ lw_g := List.mem_filter.mpr ⟨List.mem_of_getElem? (i := 342) (by decide +kernel), rfl⟩
theorem tw_im_X10_distance : Cond.instanceMethod yX10_distance ∈ lw_g := List.mem_filter.mpr ⟨List.mem_of_getElem? (i := 343) (by decide +kernel), rfl⟩
theorem tw_se_X10_distance : Cond.selects RX10 yX10_distance yX10_distance ∈ lw_g := List.mem_filter.mpr ⟨List.mem_of_getElem? (i := 344) (by decide +kernel), rfl⟩
theorem tw_co_X10_distance : Cond.code yX10_distance cX10_distance 3 (some .int) ∈ lw_g := List.mem_filter.mpr ⟨List.mem_of_getElem? (i := 345) (by decide +kernel), rfl⟩
theorem tw_ml_X10_117 : Cond.methodLink RX10 117 yX3_between ∈ lw_g := List.mem_filter.mpr ⟨List.mem_of_getElem? (i := 346) (by decide +kernel), rfl⟩
theorem tw_im_X3_between : Cond.instanceMethod yX3_between ∈ lw_g := List.mem_filter.mpr ⟨List.mem_of_getElem? (i := 347) (by decide +kernel), rfl⟩
theorem tw_se_X3_between : Cond.selects RX3 yX3_between yX3_between ∈ lw_g := List.mem_filter.mpr ⟨List.mem_of_getElem? (i := 348) (by decide +kernel), rfl⟩
theorem tw_co_X3_between : Cond.code yX3_between cX3_between 4 (some .int) ∈ lw_g := List.mem_filter.mpr ⟨List.mem_of_getElem? (i := 349) (by decide +kernel), rfl⟩
theorem tw_ml_X3_49 : Cond.methodLink RX3 49 yX3_measure ∈ lw_g := List.mem_filter.mpr ⟨List.mem_of_getElem? (i := 350) (by decide +kernel), rfl⟩
theorem tw_im_X3_measure : Cond.instanceMethod yX3_measure ∈ lw_g := List.mem_filter.mpr ⟨List.mem_of_getElem? (i := 352) (by decide +kernel), rfl⟩
theorem tw_co_X3_measure : Cond.code yX3_measure cX3_measure 3 (some .int) ∈ lw_g := List.mem_filter.mpr ⟨List.mem_of_getElem? (i := 353) (by decide +kernel), rfl⟩
theorem tw_ml_X3_64 : Cond.methodLink RX3 64 yX8_fewestEdits ∈ lw_g := List.mem_filter.mpr ⟨List.mem_of_getElem? (i := 354) (by decide +kernel), rfl⟩
theorem tw_im_X8_fewestEdits : Cond.instanceMethod yX8_fewestEdits ∈ lw_g := List.mem_filter.mpr ⟨List.mem_of_getElem? (i := 355) (by decide +kernel), rfl⟩
theorem tw_se_X8_fewestEdits : Cond.selects RX8 yX8_fewestEdits yX8_fewestEdits ∈ lw_g := List.mem_filter.mpr ⟨List.mem_of_getElem? (i := 356) (by decide +kernel), rfl⟩
theorem tw_co_X8_fewestEdits : Cond.code yX8_fewestEdits cX8_fewestEdits 9 (some .int) ∈ lw_g := List.mem_filter.mpr ⟨List.mem_of_getElem? (i := 357) (by decide +kernel), rfl⟩
theorem tw_ml_X8_35 : Cond.methodLink RX8 35 Lib.Math.min.name ∈ lw_g := List.mem_filter.mpr ⟨List.mem_of_getElem? (i := 358) (by decide +kernel), rfl⟩
theorem tw_sm_Lib_Math_min_name : Cond.static Lib.Math.min.name ∈ lw_g := List.mem_filter.mpr ⟨List.mem_of_getElem? (i := 359) (by decide +kernel), rfl⟩
theorem tw_co_Lib_Math_min_name : Cond.code Lib.Math.min.name Lib.Math.min.code 2 (some .int) ∈ lw_g := List.mem_filter.mpr ⟨List.mem_of_getElem? (i := 360) (by decide +kernel), rfl⟩
theorem tw_ml_X3_67 : Cond.methodLink RX3 67 yX8_sumOfDifferences ∈ lw_g := List.mem_filter.mpr ⟨List.mem_of_getElem? (i := 361) (by decide +kernel), rfl⟩
theorem tw_im_X8_sumOfDifferences : Cond.instanceMethod yX8_sumOfDifferences ∈ lw_g := List.mem_filter.mpr ⟨List.mem_of_getElem? (i := 362) (by decide +kernel), rfl⟩
theorem tw_se_X8_sumOfDifferences : Cond.selects RX8 yX8_sumOfDifferences yX8_sumOfDifferences ∈ lw_g := List.mem_filter.mpr ⟨List.mem_of_getElem? (i := 363) (by decide +kernel), rfl⟩
theorem tw_co_X8_sumOfDifferences : Cond.code yX8_sumOfDifferences cX8_sumOfDifferences 5 (some .int) ∈ lw_g := List.mem_filter.mpr ⟨List.mem_of_getElem? (i := 364) (by decide +kernel), rfl⟩
theorem tw_ml_X8_25 : Cond.methodLink RX8 25 yX8_difference ∈ lw_g := List.mem_filter.mpr ⟨List.mem_of_getElem? (i := 365) (by decide +kernel), rfl⟩
theorem tw_im_X8_difference : Cond.instanceMethod yX8_difference ∈ lw_g := List.mem_filter.mpr ⟨List.mem_of_getElem? (i := 367) (by decide +kernel), rfl⟩
theorem tw_co_X8_difference : Cond.code yX8_difference cX8_difference 4 (some .int) ∈ lw_g := List.mem_filter.mpr ⟨List.mem_of_getElem? (i := 368) (by decide +kernel), rfl⟩
theorem tw_ml_X8_42 : Cond.methodLink RX8 42 Lib.Math.abs.name ∈ lw_g := List.mem_filter.mpr ⟨List.mem_of_getElem? (i := 369) (by decide +kernel), rfl⟩
theorem tw_sm_Lib_Math_abs_name : Cond.static Lib.Math.abs.name ∈ lw_g := List.mem_filter.mpr ⟨List.mem_of_getElem? (i := 370) (by decide +kernel), rfl⟩
theorem tw_co_Lib_Math_abs_name : Cond.code Lib.Math.abs.name Lib.Math.abs.code 1 (some .int) ∈ lw_g := List.mem_filter.mpr ⟨List.mem_of_getElem? (i := 371) (by decide +kernel), rfl⟩
theorem tw_ml_X3_70 : Cond.methodLink RX3 70 yX8_greatestDifference ∈ lw_g := List.mem_filter.mpr ⟨List.mem_of_getElem? (i := 372) (by decide +kernel), rfl⟩
theorem tw_im_X8_greatestDifference : Cond.instanceMethod yX8_greatestDifference ∈ lw_g := List.mem_filter.mpr ⟨List.mem_of_getElem? (i := 373) (by decide +kernel), rfl⟩
theorem tw_se_X8_greatestDifference : Cond.selects RX8 yX8_greatestDifference yX8_greatestDifference ∈ lw_g := List.mem_filter.mpr ⟨List.mem_of_getElem? (i := 374) (by decide +kernel), rfl⟩
theorem tw_co_X8_greatestDifference : Cond.code yX8_greatestDifference cX8_greatestDifference 5 (some .int) ∈ lw_g := List.mem_filter.mpr ⟨List.mem_of_getElem? (i := 375) (by decide +kernel), rfl⟩
theorem tw_ml_X8_29 : Cond.methodLink RX8 29 Lib.Math.max.name ∈ lw_g := List.mem_filter.mpr ⟨List.mem_of_getElem? (i := 376) (by decide +kernel), rfl⟩
theorem tw_sm_Lib_Math_max_name : Cond.static Lib.Math.max.name ∈ lw_g := List.mem_filter.mpr ⟨List.mem_of_getElem? (i := 377) (by decide +kernel), rfl⟩
theorem tw_co_Lib_Math_max_name : Cond.code Lib.Math.max.name Lib.Math.max.code 2 (some .int) ∈ lw_g := List.mem_filter.mpr ⟨List.mem_of_getElem? (i := 378) (by decide +kernel), rfl⟩
theorem tw_ml_X3_73 : Cond.methodLink RX3 73 yX8_valuesMissing ∈ lw_g := List.mem_filter.mpr ⟨List.mem_of_getElem? (i := 379) (by decide +kernel), rfl⟩
theorem tw_im_X8_valuesMissing : Cond.instanceMethod yX8_valuesMissing ∈ lw_g := List.mem_filter.mpr ⟨List.mem_of_getElem? (i := 380) (by decide +kernel), rfl⟩
theorem tw_se_X8_valuesMissing : Cond.selects RX8 yX8_valuesMissing yX8_valuesMissing ∈ lw_g := List.mem_filter.mpr ⟨List.mem_of_getElem? (i := 381) (by decide +kernel), rfl⟩
theorem tw_co_X8_valuesMissing : Cond.code yX8_valuesMissing cX8_valuesMissing 6 (some .int) ∈ lw_g := List.mem_filter.mpr ⟨List.mem_of_getElem? (i := 382) (by decide +kernel), rfl⟩
theorem tw_ml_X8_38 : Cond.methodLink RX8 38 yX8_hasBefore ∈ lw_g := List.mem_filter.mpr ⟨List.mem_of_getElem? (i := 383) (by decide +kernel), rfl⟩
theorem tw_im_X8_hasBefore : Cond.instanceMethod yX8_hasBefore ∈ lw_g := List.mem_filter.mpr ⟨List.mem_of_getElem? (i := 385) (by decide +kernel), rfl⟩
theorem tw_co_X8_hasBefore : Cond.code yX8_hasBefore cX8_hasBefore 5 (some .boolean) ∈ lw_g := List.mem_filter.mpr ⟨List.mem_of_getElem? (i := 386) (by decide +kernel), rfl⟩
theorem tw_ml_X3_76 : Cond.methodLink RX3 76 yX9_read ∈ lw_g := List.mem_filter.mpr ⟨List.mem_of_getElem? (i := 387) (by decide +kernel), rfl⟩
theorem tw_im_X9_read : Cond.instanceMethod yX9_read ∈ lw_g := List.mem_filter.mpr ⟨List.mem_of_getElem? (i := 388) (by decide +kernel), rfl⟩
theorem tw_se_X9_read : Cond.selects RX9 yX9_read yX9_read ∈ lw_g := List.mem_filter.mpr ⟨List.mem_of_getElem? (i := 389) (by decide +kernel), rfl⟩
theorem tw_co_X9_read : Cond.code yX9_read cX9_read 3 (some .int) ∈ lw_g := List.mem_filter.mpr ⟨List.mem_of_getElem? (i := 390) (by decide +kernel), rfl⟩
theorem tw_ml_X3_79 : Cond.methodLink RX3 79 yX8_unlikePlaces ∈ lw_g := List.mem_filter.mpr ⟨List.mem_of_getElem? (i := 391) (by decide +kernel), rfl⟩
theorem tw_im_X8_unlikePlaces : Cond.instanceMethod yX8_unlikePlaces ∈ lw_g := List.mem_filter.mpr ⟨List.mem_of_getElem? (i := 392) (by decide +kernel), rfl⟩
theorem tw_se_X8_unlikePlaces : Cond.selects RX8 yX8_unlikePlaces yX8_unlikePlaces ∈ lw_g := List.mem_filter.mpr ⟨List.mem_of_getElem? (i := 393) (by decide +kernel), rfl⟩
theorem tw_co_X8_unlikePlaces : Cond.code yX8_unlikePlaces cX8_unlikePlaces 5 (some .int) ∈ lw_g := List.mem_filter.mpr ⟨List.mem_of_getElem? (i := 394) (by decide +kernel), rfl⟩
theorem tw_ml_L_37 : Cond.methodLink RL 37 yX10_law ∈ lw_g := List.mem_filter.mpr ⟨List.mem_of_getElem? (i := 395) (by decide +kernel), rfl⟩
theorem tw_im_X10_law : Cond.instanceMethod yX10_law ∈ lw_g := List.mem_filter.mpr ⟨List.mem_of_getElem? (i := 396) (by decide +kernel), rfl⟩
theorem tw_se_X10_law : Cond.selects RX10 yX10_law yX10_law ∈ lw_g := List.mem_filter.mpr ⟨List.mem_of_getElem? (i := 397) (by decide +kernel), rfl⟩
theorem tw_co_X10_law : Cond.code yX10_law cX10_law 1 (some .int) ∈ lw_g := List.mem_filter.mpr ⟨List.mem_of_getElem? (i := 398) (by decide +kernel), rfl⟩
theorem tw_ml_X10_121 : Cond.methodLink RX10 121 yX3_lawHolds ∈ lw_g := List.mem_filter.mpr ⟨List.mem_of_getElem? (i := 399) (by decide +kernel), rfl⟩
theorem tw_im_X3_lawHolds : Cond.instanceMethod yX3_lawHolds ∈ lw_g := List.mem_filter.mpr ⟨List.mem_of_getElem? (i := 400) (by decide +kernel), rfl⟩
theorem tw_se_X3_lawHolds : Cond.selects RX3 yX3_lawHolds yX3_lawHolds ∈ lw_g := List.mem_filter.mpr ⟨List.mem_of_getElem? (i := 401) (by decide +kernel), rfl⟩
theorem tw_co_X3_lawHolds : Cond.code yX3_lawHolds cX3_lawHolds 1 (some .boolean) ∈ lw_g := List.mem_filter.mpr ⟨List.mem_of_getElem? (i := 402) (by decide +kernel), rfl⟩
theorem tw_ml_X3_37 : Cond.methodLink RX3 37 yX8_size ∈ lw_g := List.mem_filter.mpr ⟨List.mem_of_getElem? (i := 403) (by decide +kernel), rfl⟩
theorem tw_ml_X3_43 : Cond.methodLink RX3 43 yX9_lawHolds ∈ lw_g := List.mem_filter.mpr ⟨List.mem_of_getElem? (i := 404) (by decide +kernel), rfl⟩
theorem tw_im_X9_lawHolds : Cond.instanceMethod yX9_lawHolds ∈ lw_g := List.mem_filter.mpr ⟨List.mem_of_getElem? (i := 405) (by decide +kernel), rfl⟩
theorem tw_se_X9_lawHolds : Cond.selects RX9 yX9_lawHolds yX9_lawHolds ∈ lw_g := List.mem_filter.mpr ⟨List.mem_of_getElem? (i := 406) (by decide +kernel), rfl⟩
theorem tw_co_X9_lawHolds : Cond.code yX9_lawHolds cX9_lawHolds 2 (some .boolean) ∈ lw_g := List.mem_filter.mpr ⟨List.mem_of_getElem? (i := 407) (by decide +kernel), rfl⟩
theorem tw_ml_X9_26 : Cond.methodLink RX9 26 yX9_findBreakers ∈ lw_g := List.mem_filter.mpr ⟨List.mem_of_getElem? (i := 408) (by decide +kernel), rfl⟩
theorem tw_im_X9_findBreakers : Cond.instanceMethod yX9_findBreakers ∈ lw_g := List.mem_filter.mpr ⟨List.mem_of_getElem? (i := 410) (by decide +kernel), rfl⟩
theorem tw_co_X9_findBreakers : Cond.code yX9_findBreakers cX9_findBreakers 5 (some .boolean) ∈ lw_g := List.mem_filter.mpr ⟨List.mem_of_getElem? (i := 411) (by decide +kernel), rfl⟩
theorem tw_ml_X9_30 : Cond.methodLink RX9 30 yX9_endBeyond ∈ lw_g := List.mem_filter.mpr ⟨List.mem_of_getElem? (i := 412) (by decide +kernel), rfl⟩
theorem tw_im_X9_endBeyond : Cond.instanceMethod yX9_endBeyond ∈ lw_g := List.mem_filter.mpr ⟨List.mem_of_getElem? (i := 414) (by decide +kernel), rfl⟩
theorem tw_co_X9_endBeyond : Cond.code yX9_endBeyond cX9_endBeyond 8 (some .int) ∈ lw_g := List.mem_filter.mpr ⟨List.mem_of_getElem? (i := 415) (by decide +kernel), rfl⟩
theorem tw_ml_L_42 : Cond.methodLink RL 42 yX10_three ∈ lw_g := List.mem_filter.mpr ⟨List.mem_of_getElem? (i := 416) (by decide +kernel), rfl⟩
theorem tw_im_X10_three : Cond.instanceMethod yX10_three ∈ lw_g := List.mem_filter.mpr ⟨List.mem_of_getElem? (i := 417) (by decide +kernel), rfl⟩
theorem tw_se_X10_three : Cond.selects RX10 yX10_three yX10_three ∈ lw_g := List.mem_filter.mpr ⟨List.mem_of_getElem? (i := 418) (by decide +kernel), rfl⟩
theorem tw_co_X10_three : Cond.code yX10_three cX10_three 2 (some .int) ∈ lw_g := List.mem_filter.mpr ⟨List.mem_of_getElem? (i := 419) (by decide +kernel), rfl⟩
theorem tw_ml_X10_125 : Cond.methodLink RX10 125 yX9_breaker ∈ lw_g := List.mem_filter.mpr ⟨List.mem_of_getElem? (i := 420) (by decide +kernel), rfl⟩
theorem tw_im_X9_breaker : Cond.instanceMethod yX9_breaker ∈ lw_g := List.mem_filter.mpr ⟨List.mem_of_getElem? (i := 421) (by decide +kernel), rfl⟩
theorem tw_se_X9_breaker : Cond.selects RX9 yX9_breaker yX9_breaker ∈ lw_g := List.mem_filter.mpr ⟨List.mem_of_getElem? (i := 422) (by decide +kernel), rfl⟩
theorem tw_co_X9_breaker : Cond.code yX9_breaker cX9_breaker 2 (some .int) ∈ lw_g := List.mem_filter.mpr ⟨List.mem_of_getElem? (i := 423) (by decide +kernel), rfl⟩
theorem tw_ml_L_46 : Cond.methodLink RL 46 yX10_put ∈ lw_g := List.mem_filter.mpr ⟨List.mem_of_getElem? (i := 424) (by decide +kernel), rfl⟩
theorem tw_im_X10_put : Cond.instanceMethod yX10_put ∈ lw_g := List.mem_filter.mpr ⟨List.mem_of_getElem? (i := 425) (by decide +kernel), rfl⟩
theorem tw_se_X10_put : Cond.selects RX10 yX10_put yX10_put ∈ lw_g := List.mem_filter.mpr ⟨List.mem_of_getElem? (i := 426) (by decide +kernel), rfl⟩
theorem tw_co_X10_put : Cond.code yX10_put cX10_put 2 (some .boolean) ∈ lw_g := List.mem_filter.mpr ⟨List.mem_of_getElem? (i := 427) (by decide +kernel), rfl⟩
theorem tw_ml_X10_128 : Cond.methodLink RX10 128 yX5_holds ∈ lw_g := List.mem_filter.mpr ⟨List.mem_of_getElem? (i := 428) (by decide +kernel), rfl⟩
theorem tw_im_X5_holds : Cond.instanceMethod yX5_holds ∈ lw_g := List.mem_filter.mpr ⟨List.mem_of_getElem? (i := 429) (by decide +kernel), rfl⟩
theorem tw_se_X5_holds : Cond.selects RX5 yX5_holds yX5_holds ∈ lw_g := List.mem_filter.mpr ⟨List.mem_of_getElem? (i := 430) (by decide +kernel), rfl⟩
theorem tw_co_X5_holds : Cond.code yX5_holds cX5_holds 3 (some .boolean) ∈ lw_g := List.mem_filter.mpr ⟨List.mem_of_getElem? (i := 431) (by decide +kernel), rfl⟩
theorem tw_ml_X5_19 : Cond.methodLink RX5 19 yX5_spotOf ∈ lw_g := List.mem_filter.mpr ⟨List.mem_of_getElem? (i := 432) (by decide +kernel), rfl⟩
theorem tw_im_X5_spotOf : Cond.instanceMethod yX5_spotOf ∈ lw_g := List.mem_filter.mpr ⟨List.mem_of_getElem? (i := 434) (by decide +kernel), rfl⟩
theorem tw_co_X5_spotOf : Cond.code yX5_spotOf cX5_spotOf 3 (some .int) ∈ lw_g := List.mem_filter.mpr ⟨List.mem_of_getElem? (i := 435) (by decide +kernel), rfl⟩
theorem tw_ml_X10_129 : Cond.methodLink RX10 129 yX5_insert ∈ lw_g := List.mem_filter.mpr ⟨List.mem_of_getElem? (i := 436) (by decide +kernel), rfl⟩
theorem tw_im_X5_insert : Cond.instanceMethod yX5_insert ∈ lw_g := List.mem_filter.mpr ⟨List.mem_of_getElem? (i := 437) (by decide +kernel), rfl⟩
theorem tw_se_X5_insert : Cond.selects RX5 yX5_insert yX5_insert ∈ lw_g := List.mem_filter.mpr ⟨List.mem_of_getElem? (i := 438) (by decide +kernel), rfl⟩
theorem tw_co_X5_insert : Cond.code yX5_insert cX5_insert 4 none ∈ lw_g := List.mem_filter.mpr ⟨List.mem_of_getElem? (i := 439) (by decide +kernel), rfl⟩
theorem tw_ml_L_50 : Cond.methodLink RL 50 yX10_drop ∈ lw_g := List.mem_filter.mpr ⟨List.mem_of_getElem? (i := 440) (by decide +kernel), rfl⟩
theorem tw_im_X10_drop : Cond.instanceMethod yX10_drop ∈ lw_g := List.mem_filter.mpr ⟨List.mem_of_getElem? (i := 441) (by decide +kernel), rfl⟩
theorem tw_se_X10_drop : Cond.selects RX10 yX10_drop yX10_drop ∈ lw_g := List.mem_filter.mpr ⟨List.mem_of_getElem? (i := 442) (by decide +kernel), rfl⟩
theorem tw_co_X10_drop : Cond.code yX10_drop cX10_drop 2 (some .boolean) ∈ lw_g := List.mem_filter.mpr ⟨List.mem_of_getElem? (i := 443) (by decide +kernel), rfl⟩
theorem tw_ml_X10_132 : Cond.methodLink RX10 132 yX5_remove ∈ lw_g := List.mem_filter.mpr ⟨List.mem_of_getElem? (i := 444) (by decide +kernel), rfl⟩
theorem tw_im_X5_remove : Cond.instanceMethod yX5_remove ∈ lw_g := List.mem_filter.mpr ⟨List.mem_of_getElem? (i := 445) (by decide +kernel), rfl⟩
theorem tw_se_X5_remove : Cond.selects RX5 yX5_remove yX5_remove ∈ lw_g := List.mem_filter.mpr ⟨List.mem_of_getElem? (i := 446) (by decide +kernel), rfl⟩
theorem tw_co_X5_remove : Cond.code yX5_remove cX5_remove 3 none ∈ lw_g := List.mem_filter.mpr ⟨List.mem_of_getElem? (i := 447) (by decide +kernel), rfl⟩
theorem tw_ml_L_54 : Cond.methodLink RL 54 yX10_has ∈ lw_g := List.mem_filter.mpr ⟨List.mem_of_getElem? (i := 448) (by decide +kernel), rfl⟩
theorem tw_im_X10_has : Cond.instanceMethod yX10_has ∈ lw_g := List.mem_filter.mpr ⟨List.mem_of_getElem? (i := 449) (by decide +kernel), rfl⟩
theorem tw_se_X10_has : Cond.selects RX10 yX10_has yX10_has ∈ lw_g := List.mem_filter.mpr ⟨List.mem_of_getElem? (i := 450) (by decide +kernel), rfl⟩
theorem tw_co_X10_has : Cond.code yX10_has cX10_has 2 (some .int) ∈ lw_g := List.mem_filter.mpr ⟨List.mem_of_getElem? (i := 451) (by decide +kernel), rfl⟩
theorem tw_ml_L_58 : Cond.methodLink RL 58 yX10_nearest ∈ lw_g := List.mem_filter.mpr ⟨List.mem_of_getElem? (i := 452) (by decide +kernel), rfl⟩
theorem tw_im_X10_nearest : Cond.instanceMethod yX10_nearest ∈ lw_g := List.mem_filter.mpr ⟨List.mem_of_getElem? (i := 453) (by decide +kernel), rfl⟩
theorem tw_se_X10_nearest : Cond.selects RX10 yX10_nearest yX10_nearest ∈ lw_g := List.mem_filter.mpr ⟨List.mem_of_getElem? (i := 454) (by decide +kernel), rfl⟩
theorem tw_co_X10_nearest : Cond.code yX10_nearest cX10_nearest 3 (some .int) ∈ lw_g := List.mem_filter.mpr ⟨List.mem_of_getElem? (i := 455) (by decide +kernel), rfl⟩
theorem tw_ml_X10_135 : Cond.methodLink RX10 135 yX10_isHowMany ∈ lw_g := List.mem_filter.mpr ⟨List.mem_of_getElem? (i := 456) (by decide +kernel), rfl⟩
theorem tw_sm_X10_isHowMany : Cond.static yX10_isHowMany ∈ lw_g := List.mem_filter.mpr ⟨List.mem_of_getElem? (i := 457) (by decide +kernel), rfl⟩
theorem tw_co_X10_isHowMany : Cond.code yX10_isHowMany cX10_isHowMany 1 (some .boolean) ∈ lw_g := List.mem_filter.mpr ⟨List.mem_of_getElem? (i := 458) (by decide +kernel), rfl⟩
theorem tw_ml_X10_138 : Cond.methodLink RX10 138 yX10_rankNearFirst ∈ lw_g := List.mem_filter.mpr ⟨List.mem_of_getElem? (i := 459) (by decide +kernel), rfl⟩
theorem tw_im_X10_rankNearFirst : Cond.instanceMethod yX10_rankNearFirst ∈ lw_g := List.mem_filter.mpr ⟨List.mem_of_getElem? (i := 461) (by decide +kernel), rfl⟩
theorem tw_co_X10_rankNearFirst : Cond.code yX10_rankNearFirst cX10_rankNearFirst 6 none ∈ lw_g := List.mem_filter.mpr ⟨List.mem_of_getElem? (i := 462) (by decide +kernel), rfl⟩
theorem tw_ml_X10_230 : Cond.methodLink RX10 230 yX4_clear ∈ lw_g := List.mem_filter.mpr ⟨List.mem_of_getElem? (i := 463) (by decide +kernel), rfl⟩
theorem tw_im_X4_clear : Cond.instanceMethod yX4_clear ∈ lw_g := List.mem_filter.mpr ⟨List.mem_of_getElem? (i := 464) (by decide +kernel), rfl⟩
theorem tw_se_X4_clear : Cond.selects RX4 yX4_clear yX4_clear ∈ lw_g := List.mem_filter.mpr ⟨List.mem_of_getElem? (i := 465) (by decide +kernel), rfl⟩
theorem tw_co_X4_clear : Cond.code yX4_clear cX4_clear 1 none ∈ lw_g := List.mem_filter.mpr ⟨List.mem_of_getElem? (i := 466) (by decide +kernel), rfl⟩
theorem tw_ml_X10_154 : Cond.methodLink RX10 154 yX5_size ∈ lw_g := List.mem_filter.mpr ⟨List.mem_of_getElem? (i := 467) (by decide +kernel), rfl⟩
theorem tw_im_X5_size : Cond.instanceMethod yX5_size ∈ lw_g := List.mem_filter.mpr ⟨List.mem_of_getElem? (i := 468) (by decide +kernel), rfl⟩
theorem tw_se_X5_size : Cond.selects RX5 yX5_size yX5_size ∈ lw_g := List.mem_filter.mpr ⟨List.mem_of_getElem? (i := 469) (by decide +kernel), rfl⟩
theorem tw_co_X5_size : Cond.code yX5_size cX5_size 1 (some .int) ∈ lw_g := List.mem_filter.mpr ⟨List.mem_of_getElem? (i := 470) (by decide +kernel), rfl⟩
theorem tw_ml_X10_200 : Cond.methodLink RX10 200 yX5_at ∈ lw_g := List.mem_filter.mpr ⟨List.mem_of_getElem? (i := 471) (by decide +kernel), rfl⟩
theorem tw_im_X5_at : Cond.instanceMethod yX5_at ∈ lw_g := List.mem_filter.mpr ⟨List.mem_of_getElem? (i := 472) (by decide +kernel), rfl⟩
theorem tw_se_X5_at : Cond.selects RX5 yX5_at yX5_at ∈ lw_g := List.mem_filter.mpr ⟨List.mem_of_getElem? (i := 473) (by decide +kernel), rfl⟩
theorem tw_co_X5_at : Cond.code yX5_at cX5_at 2 (some .int) ∈ lw_g := List.mem_filter.mpr ⟨List.mem_of_getElem? (i := 474) (by decide +kernel), rfl⟩
theorem tw_ml_X10_231 : Cond.methodLink RX10 231 yX4_insert ∈ lw_g := List.mem_filter.mpr ⟨List.mem_of_getElem? (i := 475) (by decide +kernel), rfl⟩
theorem tw_im_X4_insert : Cond.instanceMethod yX4_insert ∈ lw_g := List.mem_filter.mpr ⟨List.mem_of_getElem? (i := 476) (by decide +kernel), rfl⟩
theorem tw_se_X4_insert : Cond.selects RX4 yX4_insert yX4_insert ∈ lw_g := List.mem_filter.mpr ⟨List.mem_of_getElem? (i := 477) (by decide +kernel), rfl⟩
theorem tw_co_X4_insert : Cond.code yX4_insert cX4_insert 3 none ∈ lw_g := List.mem_filter.mpr ⟨List.mem_of_getElem? (i := 478) (by decide +kernel), rfl⟩
theorem tw_ml_X10_141 : Cond.methodLink RX10 141 yX10_takeRanked ∈ lw_g := List.mem_filter.mpr ⟨List.mem_of_getElem? (i := 479) (by decide +kernel), rfl⟩
theorem tw_im_X10_takeRanked : Cond.instanceMethod yX10_takeRanked ∈ lw_g := List.mem_filter.mpr ⟨List.mem_of_getElem? (i := 481) (by decide +kernel), rfl⟩
theorem tw_co_X10_takeRanked : Cond.code yX10_takeRanked cX10_takeRanked 6 (some .int) ∈ lw_g := List.mem_filter.mpr ⟨List.mem_of_getElem? (i := 482) (by decide +kernel), rfl⟩
theorem tw_ml_X10_180 : Cond.methodLink RX10 180 yX4_size ∈ lw_g := List.mem_filter.mpr ⟨List.mem_of_getElem? (i := 483) (by decide +kernel), rfl⟩
theorem tw_im_X4_size : Cond.instanceMethod yX4_size ∈ lw_g := List.mem_filter.mpr ⟨List.mem_of_getElem? (i := 484) (by decide +kernel), rfl⟩
theorem tw_se_X4_size : Cond.selects RX4 yX4_size yX4_size ∈ lw_g := List.mem_filter.mpr ⟨List.mem_of_getElem? (i := 485) (by decide +kernel), rfl⟩
theorem tw_co_X4_size : Cond.code yX4_size cX4_size 1 (some .int) ∈ lw_g := List.mem_filter.mpr ⟨List.mem_of_getElem? (i := 486) (by decide +kernel), rfl⟩
theorem tw_ml_X10_164 : Cond.methodLink RX10 164 Lib.Math.min.name ∈ lw_g := List.mem_filter.mpr ⟨List.mem_of_getElem? (i := 487) (by decide +kernel), rfl⟩
theorem tw_ml_X10_197 : Cond.methodLink RX10 197 yX7_clear ∈ lw_g := List.mem_filter.mpr ⟨List.mem_of_getElem? (i := 488) (by decide +kernel), rfl⟩
theorem tw_im_X7_clear : Cond.instanceMethod yX7_clear ∈ lw_g := List.mem_filter.mpr ⟨List.mem_of_getElem? (i := 489) (by decide +kernel), rfl⟩
theorem tw_se_X7_clear : Cond.selects RX7 yX7_clear yX7_clear ∈ lw_g := List.mem_filter.mpr ⟨List.mem_of_getElem? (i := 490) (by decide +kernel), rfl⟩
theorem tw_co_X7_clear : Cond.code yX7_clear cX7_clear 1 none ∈ lw_g := List.mem_filter.mpr ⟨List.mem_of_getElem? (i := 491) (by decide +kernel), rfl⟩
theorem tw_ml_X10_185 : Cond.methodLink RX10 185 yX4_at ∈ lw_g := List.mem_filter.mpr ⟨List.mem_of_getElem? (i := 492) (by decide +kernel), rfl⟩
theorem tw_im_X4_at : Cond.instanceMethod yX4_at ∈ lw_g := List.mem_filter.mpr ⟨List.mem_of_getElem? (i := 493) (by decide +kernel), rfl⟩
theorem tw_se_X4_at : Cond.selects RX4 yX4_at yX4_at ∈ lw_g := List.mem_filter.mpr ⟨List.mem_of_getElem? (i := 494) (by decide +kernel), rfl⟩
theorem tw_co_X4_at : Cond.code yX4_at cX4_at 2 (some .int) ∈ lw_g := List.mem_filter.mpr ⟨List.mem_of_getElem? (i := 495) (by decide +kernel), rfl⟩
theorem tw_ml_X10_205 : Cond.methodLink RX10 205 yX7_append ∈ lw_g := List.mem_filter.mpr ⟨List.mem_of_getElem? (i := 496) (by decide +kernel), rfl⟩
theorem tw_im_X7_append : Cond.instanceMethod yX7_append ∈ lw_g := List.mem_filter.mpr ⟨List.mem_of_getElem? (i := 497) (by decide +kernel), rfl⟩
theorem tw_se_X7_append : Cond.selects RX7 yX7_append yX7_append ∈ lw_g := List.mem_filter.mpr ⟨List.mem_of_getElem? (i := 498) (by decide +kernel), rfl⟩
theorem tw_co_X7_append : Cond.code yX7_append cX7_append 3 none ∈ lw_g := List.mem_filter.mpr ⟨List.mem_of_getElem? (i := 499) (by decide +kernel), rfl⟩
theorem tw_ml_L_62 : Cond.methodLink RL 62 yX10_within ∈ lw_g := List.mem_filter.mpr ⟨List.mem_of_getElem? (i := 500) (by decide +kernel), rfl⟩
theorem tw_im_X10_within : Cond.instanceMethod yX10_within ∈ lw_g := List.mem_filter.mpr ⟨List.mem_of_getElem? (i := 501) (by decide +kernel), rfl⟩
theorem tw_se_X10_within : Cond.selects RX10 yX10_within yX10_within ∈ lw_g := List.mem_filter.mpr ⟨List.mem_of_getElem? (i := 502) (by decide +kernel), rfl⟩
theorem tw_co_X10_within : Cond.code yX10_within cX10_within 3 (some .int) ∈ lw_g := List.mem_filter.mpr ⟨List.mem_of_getElem? (i := 503) (by decide +kernel), rfl⟩
theorem tw_ml_L_66 : Cond.methodLink RL 66 yX10_farthest ∈ lw_g := List.mem_filter.mpr ⟨List.mem_of_getElem? (i := 504) (by decide +kernel), rfl⟩
theorem tw_im_X10_farthest : Cond.instanceMethod yX10_farthest ∈ lw_g := List.mem_filter.mpr ⟨List.mem_of_getElem? (i := 505) (by decide +kernel), rfl⟩
theorem tw_se_X10_farthest : Cond.selects RX10 yX10_farthest yX10_farthest ∈ lw_g := List.mem_filter.mpr ⟨List.mem_of_getElem? (i := 506) (by decide +kernel), rfl⟩
theorem tw_co_X10_farthest : Cond.code yX10_farthest cX10_farthest 3 (some .int) ∈ lw_g := List.mem_filter.mpr ⟨List.mem_of_getElem? (i := 507) (by decide +kernel), rfl⟩
theorem tw_ml_X10_144 : Cond.methodLink RX10 144 yX10_rankFarFirst ∈ lw_g := List.mem_filter.mpr ⟨List.mem_of_getElem? (i := 508) (by decide +kernel), rfl⟩
theorem tw_im_X10_rankFarFirst : Cond.instanceMethod yX10_rankFarFirst ∈ lw_g := List.mem_filter.mpr ⟨List.mem_of_getElem? (i := 510) (by decide +kernel), rfl⟩
theorem tw_co_X10_rankFarFirst : Cond.code yX10_rankFarFirst cX10_rankFarFirst 5 none ∈ lw_g := List.mem_filter.mpr ⟨List.mem_of_getElem? (i := 511) (by decide +kernel), rfl⟩
theorem tw_ml_L_70 : Cond.methodLink RL 70 yX10_result ∈ lw_g := List.mem_filter.mpr ⟨List.mem_of_getElem? (i := 512) (by decide +kernel), rfl⟩
theorem tw_im_X10_result : Cond.instanceMethod yX10_result ∈ lw_g := List.mem_filter.mpr ⟨List.mem_of_getElem? (i := 513) (by decide +kernel), rfl⟩
theorem tw_se_X10_result : Cond.selects RX10 yX10_result yX10_result ∈ lw_g := List.mem_filter.mpr ⟨List.mem_of_getElem? (i := 514) (by decide +kernel), rfl⟩
theorem tw_co_X10_result : Cond.code yX10_result cX10_result 3 (some .int) ∈ lw_g := List.mem_filter.mpr ⟨List.mem_of_getElem? (i := 515) (by decide +kernel), rfl⟩
theorem tw_ml_X10_147 : Cond.methodLink RX10 147 yX7_size ∈ lw_g := List.mem_filter.mpr ⟨List.mem_of_getElem? (i := 516) (by decide +kernel), rfl⟩
theorem tw_im_X7_size : Cond.instanceMethod yX7_size ∈ lw_g := List.mem_filter.mpr ⟨List.mem_of_getElem? (i := 517) (by decide +kernel), rfl⟩
theorem tw_se_X7_size : Cond.selects RX7 yX7_size yX7_size ∈ lw_g := List.mem_filter.mpr ⟨List.mem_of_getElem? (i := 518) (by decide +kernel), rfl⟩
theorem tw_co_X7_size : Cond.code yX7_size cX7_size 1 (some .int) ∈ lw_g := List.mem_filter.mpr ⟨List.mem_of_getElem? (i := 519) (by decide +kernel), rfl⟩
theorem tw_ml_X10_148 : Cond.methodLink RX10 148 yX7_thingAt ∈ lw_g := List.mem_filter.mpr ⟨List.mem_of_getElem? (i := 520) (by decide +kernel), rfl⟩
theorem tw_im_X7_thingAt : Cond.instanceMethod yX7_thingAt ∈ lw_g := List.mem_filter.mpr ⟨List.mem_of_getElem? (i := 521) (by decide +kernel), rfl⟩
theorem tw_se_X7_thingAt : Cond.selects RX7 yX7_thingAt yX7_thingAt ∈ lw_g := List.mem_filter.mpr ⟨List.mem_of_getElem? (i := 522) (by decide +kernel), rfl⟩
theorem tw_co_X7_thingAt : Cond.code yX7_thingAt cX7_thingAt 2 (some .int) ∈ lw_g := List.mem_filter.mpr ⟨List.mem_of_getElem? (i := 523) (by decide +kernel), rfl⟩
theorem tw_ml_X10_151 : Cond.methodLink RX10 151 yX7_distanceAt ∈ lw_g := List.mem_filter.mpr ⟨List.mem_of_getElem? (i := 524) (by decide +kernel), rfl⟩
theorem tw_im_X7_distanceAt : Cond.instanceMethod yX7_distanceAt ∈ lw_g := List.mem_filter.mpr ⟨List.mem_of_getElem? (i := 525) (by decide +kernel), rfl⟩
theorem tw_se_X7_distanceAt : Cond.selects RX7 yX7_distanceAt yX7_distanceAt ∈ lw_g := List.mem_filter.mpr ⟨List.mem_of_getElem? (i := 526) (by decide +kernel), rfl⟩
theorem tw_co_X7_distanceAt : Cond.code yX7_distanceAt cX7_distanceAt 2 (some .int) ∈ lw_g := List.mem_filter.mpr ⟨List.mem_of_getElem? (i := 527) (by decide +kernel), rfl⟩
theorem tw_ml_L_74 : Cond.methodLink RL 74 yX10_closest ∈ lw_g := List.mem_filter.mpr ⟨List.mem_of_getElem? (i := 528) (by decide +kernel), rfl⟩
theorem tw_im_X10_closest : Cond.instanceMethod yX10_closest ∈ lw_g := List.mem_filter.mpr ⟨List.mem_of_getElem? (i := 529) (by decide +kernel), rfl⟩
theorem tw_se_X10_closest : Cond.selects RX10 yX10_closest yX10_closest ∈ lw_g := List.mem_filter.mpr ⟨List.mem_of_getElem? (i := 530) (by decide +kernel), rfl⟩
theorem tw_co_X10_closest : Cond.code yX10_closest cX10_closest 2 (some .int) ∈ lw_g := List.mem_filter.mpr ⟨List.mem_of_getElem? (i := 531) (by decide +kernel), rfl⟩
theorem tw_ml_X10_155 : Cond.methodLink RX10 155 yX10_openBook ∈ lw_g := List.mem_filter.mpr ⟨List.mem_of_getElem? (i := 532) (by decide +kernel), rfl⟩
theorem tw_im_X10_openBook : Cond.instanceMethod yX10_openBook ∈ lw_g := List.mem_filter.mpr ⟨List.mem_of_getElem? (i := 534) (by decide +kernel), rfl⟩
theorem tw_co_X10_openBook : Cond.code yX10_openBook cX10_openBook 3 (some .boolean) ∈ lw_g := List.mem_filter.mpr ⟨List.mem_of_getElem? (i := 535) (by decide +kernel), rfl⟩
theorem tw_ml_X10_158 : Cond.methodLink RX10 158 yX10_closestKey ∈ lw_g := List.mem_filter.mpr ⟨List.mem_of_getElem? (i := 536) (by decide +kernel), rfl⟩
theorem tw_im_X10_closestKey : Cond.instanceMethod yX10_closestKey ∈ lw_g := List.mem_filter.mpr ⟨List.mem_of_getElem? (i := 538) (by decide +kernel), rfl⟩
theorem tw_co_X10_closestKey : Cond.code yX10_closestKey cX10_closestKey 4 (some .int) ∈ lw_g := List.mem_filter.mpr ⟨List.mem_of_getElem? (i := 539) (by decide +kernel), rfl⟩
theorem tw_cn_X10_226 : Cond.constant RX10 226 (2147483647) ∈ lw_g := List.mem_filter.mpr ⟨List.mem_of_getElem? (i := 540) (by decide +kernel), rfl⟩
theorem tw_ml_X10_227 : Cond.methodLink RX10 227 yX3_pairKey ∈ lw_g := List.mem_filter.mpr ⟨List.mem_of_getElem? (i := 541) (by decide +kernel), rfl⟩
theorem tw_im_X3_pairKey : Cond.instanceMethod yX3_pairKey ∈ lw_g := List.mem_filter.mpr ⟨List.mem_of_getElem? (i := 542) (by decide +kernel), rfl⟩
theorem tw_se_X3_pairKey : Cond.selects RX3 yX3_pairKey yX3_pairKey ∈ lw_g := List.mem_filter.mpr ⟨List.mem_of_getElem? (i := 543) (by decide +kernel), rfl⟩
theorem tw_co_X3_pairKey : Cond.code yX3_pairKey cX3_pairKey 4 (some .int) ∈ lw_g := List.mem_filter.mpr ⟨List.mem_of_getElem? (i := 544) (by decide +kernel), rfl⟩
theorem tw_ml_X3_53 : Cond.methodLink RX3 53 Lib.Math.min.name ∈ lw_g := List.mem_filter.mpr ⟨List.mem_of_getElem? (i := 545) (by decide +kernel), rfl⟩
theorem tw_ml_X3_58 : Cond.methodLink RX3 58 Lib.Math.max.name ∈ lw_g := List.mem_filter.mpr ⟨List.mem_of_getElem? (i := 546) (by decide +kernel), rfl⟩
theorem tw_ml_X3_61 : Cond.methodLink RX3 61 yX3_at ∈ lw_g := List.mem_filter.mpr ⟨List.mem_of_getElem? (i := 547) (by decide +kernel), rfl⟩
theorem tw_im_X3_at : Cond.instanceMethod yX3_at ∈ lw_g := List.mem_filter.mpr ⟨List.mem_of_getElem? (i := 548) (by decide +kernel), rfl⟩
theorem tw_se_X3_at : Cond.selects RX3 yX3_at yX3_at ∈ lw_g := List.mem_filter.mpr ⟨List.mem_of_getElem? (i := 549) (by decide +kernel), rfl⟩
theorem tw_co_X3_at : Cond.code yX3_at cX3_at 3 (some .int) ∈ lw_g := List.mem_filter.mpr ⟨List.mem_of_getElem? (i := 550) (by decide +kernel), rfl⟩
theorem tw_ml_X10_161 : Cond.methodLink RX10 161 yX10_partOfPair ∈ lw_g := List.mem_filter.mpr ⟨List.mem_of_getElem? (i := 551) (by decide +kernel), rfl⟩
theorem tw_sm_X10_partOfPair : Cond.static yX10_partOfPair ∈ lw_g := List.mem_filter.mpr ⟨List.mem_of_getElem? (i := 552) (by decide +kernel), rfl⟩
theorem tw_co_X10_partOfPair : Cond.code yX10_partOfPair cX10_partOfPair 2 (some .int) ∈ lw_g := List.mem_filter.mpr ⟨List.mem_of_getElem? (i := 553) (by decide +kernel), rfl⟩
theorem tw_ml_L_78 : Cond.methodLink RL 78 yX10_centres ∈ lw_g := List.mem_filter.mpr ⟨List.mem_of_getElem? (i := 554) (by decide +kernel), rfl⟩
theorem tw_im_X10_centres : Cond.instanceMethod yX10_centres ∈ lw_g := List.mem_filter.mpr ⟨List.mem_of_getElem? (i := 555) (by decide +kernel), rfl⟩
theorem tw_se_X10_centres : Cond.selects RX10 yX10_centres yX10_centres ∈ lw_g := List.mem_filter.mpr ⟨List.mem_of_getElem? (i := 556) (by decide +kernel), rfl⟩
theorem tw_co_X10_centres : Cond.code yX10_centres cX10_centres 2 (some .int) ∈ lw_g := List.mem_filter.mpr ⟨List.mem_of_getElem? (i := 557) (by decide +kernel), rfl⟩
theorem tw_ml_X10_169 : Cond.methodLink RX10 169 yX1_take ∈ lw_g := List.mem_filter.mpr ⟨List.mem_of_getElem? (i := 558) (by decide +kernel), rfl⟩
theorem tw_im_X1_take : Cond.instanceMethod yX1_take ∈ lw_g := List.mem_filter.mpr ⟨List.mem_of_getElem? (i := 559) (by decide +kernel), rfl⟩
theorem tw_se_X1_take : Cond.selects RX1 yX1_take yX1_take ∈ lw_g := List.mem_filter.mpr ⟨List.mem_of_getElem? (i := 560) (by decide +kernel), rfl⟩
theorem tw_co_X1_take : Cond.code yX1_take cX1_take 6 (some .int) ∈ lw_g := List.mem_filter.mpr ⟨List.mem_of_getElem? (i := 561) (by decide +kernel), rfl⟩
theorem tw_ml_X1_23 : Cond.methodLink RX1 23 yX7_clear ∈ lw_g := List.mem_filter.mpr ⟨List.mem_of_getElem? (i := 562) (by decide +kernel), rfl⟩
theorem tw_cn_X1_28 : Cond.constant RX1 28 (100000) ∈ lw_g := List.mem_filter.mpr ⟨List.mem_of_getElem? (i := 563) (by decide +kernel), rfl⟩
theorem tw_ml_X1_29 : Cond.methodLink RX1 29 yJ7_fill_53178 ∈ lw_g := List.mem_filter.mpr ⟨List.mem_of_getElem? (i := 564) (by decide +kernel), rfl⟩
theorem tw_ml_X1_35 : Cond.methodLink RX1 35 yX5_at ∈ lw_g := List.mem_filter.mpr ⟨List.mem_of_getElem? (i := 565) (by decide +kernel), rfl⟩
theorem tw_ml_X1_41 : Cond.methodLink RX1 41 yX7_append ∈ lw_g := List.mem_filter.mpr ⟨List.mem_of_getElem? (i := 566) (by decide +kernel), rfl⟩
theorem tw_ml_X1_45 : Cond.methodLink RX1 45 yX1_closeGaps ∈ lw_g := List.mem_filter.mpr ⟨List.mem_of_getElem? (i := 567) (by decide +kernel), rfl⟩
theorem tw_im_X1_closeGaps : Cond.instanceMethod yX1_closeGaps ∈ lw_g := List.mem_filter.mpr ⟨List.mem_of_getElem? (i := 569) (by decide +kernel), rfl⟩
theorem tw_co_X1_closeGaps : Cond.code yX1_closeGaps cX1_closeGaps 3 none ∈ lw_g := List.mem_filter.mpr ⟨List.mem_of_getElem? (i := 570) (by decide +kernel), rfl⟩
theorem tw_ml_X1_59 : Cond.methodLink RX1 59 yX5_size ∈ lw_g := List.mem_filter.mpr ⟨List.mem_of_getElem? (i := 571) (by decide +kernel), rfl⟩
theorem tw_ml_X1_62 : Cond.methodLink RX1 62 yX3_at ∈ lw_g := List.mem_filter.mpr ⟨List.mem_of_getElem? (i := 572) (by decide +kernel), rfl⟩
theorem tw_ml_X1_66 : Cond.methodLink RX1 66 Lib.Math.min.name ∈ lw_g := List.mem_filter.mpr ⟨List.mem_of_getElem? (i := 573) (by decide +kernel), rfl⟩
theorem tw_ml_X1_49 : Cond.methodLink RX1 49 yX1_farthestLoose ∈ lw_g := List.mem_filter.mpr ⟨List.mem_of_getElem? (i := 574) (by decide +kernel), rfl⟩
theorem tw_im_X1_farthestLoose : Cond.instanceMethod yX1_farthestLoose ∈ lw_g := List.mem_filter.mpr ⟨List.mem_of_getElem? (i := 576) (by decide +kernel), rfl⟩
theorem tw_co_X1_farthestLoose : Cond.code yX1_farthestLoose cX1_farthestLoose 3 (some .int) ∈ lw_g := List.mem_filter.mpr ⟨List.mem_of_getElem? (i := 577) (by decide +kernel), rfl⟩
theorem tw_ml_X1_53 : Cond.methodLink RX1 53 Lib.Math.max.name ∈ lw_g := List.mem_filter.mpr ⟨List.mem_of_getElem? (i := 578) (by decide +kernel), rfl⟩
theorem tw_ml_L_82 : Cond.methodLink RL 82 yX10_best ∈ lw_g := List.mem_filter.mpr ⟨List.mem_of_getElem? (i := 579) (by decide +kernel), rfl⟩
theorem tw_im_X10_best : Cond.instanceMethod yX10_best ∈ lw_g := List.mem_filter.mpr ⟨List.mem_of_getElem? (i := 580) (by decide +kernel), rfl⟩
theorem tw_se_X10_best : Cond.selects RX10 yX10_best yX10_best ∈ lw_g := List.mem_filter.mpr ⟨List.mem_of_getElem? (i := 581) (by decide +kernel), rfl⟩
theorem tw_co_X10_best : Cond.code yX10_best cX10_best 2 (some .int) ∈ lw_g := List.mem_filter.mpr ⟨List.mem_of_getElem? (i := 582) (by decide +kernel), rfl⟩
theorem tw_ml_X10_173 : Cond.methodLink RX10 173 yX0_take ∈ lw_g := List.mem_filter.mpr ⟨List.mem_of_getElem? (i := 583) (by decide +kernel), rfl⟩
theorem tw_im_X0_take : Cond.instanceMethod yX0_take ∈ lw_g := List.mem_filter.mpr ⟨List.mem_of_getElem? (i := 584) (by decide +kernel), rfl⟩
theorem tw_se_X0_take : Cond.selects RX0 yX0_take yX0_take ∈ lw_g := List.mem_filter.mpr ⟨List.mem_of_getElem? (i := 585) (by decide +kernel), rfl⟩
theorem tw_co_X0_take : Cond.code yX0_take cX0_take 4 (some .int) ∈ lw_g := List.mem_filter.mpr ⟨List.mem_of_getElem? (i := 586) (by decide +kernel), rfl⟩
theorem tw_cn_X0_36 : Cond.constant RX0 36 (100000) ∈ lw_g := List.mem_filter.mpr ⟨List.mem_of_getElem? (i := 587) (by decide +kernel), rfl⟩
theorem tw_ml_X0_37 : Cond.methodLink RX0 37 yJ7_fill_53178 ∈ lw_g := List.mem_filter.mpr ⟨List.mem_of_getElem? (i := 588) (by decide +kernel), rfl⟩
theorem tw_cn_X0_43 : Cond.constant RX0 43 (100001) ∈ lw_g := List.mem_filter.mpr ⟨List.mem_of_getElem? (i := 589) (by decide +kernel), rfl⟩
theorem tw_ml_X0_44 : Cond.methodLink RX0 44 yX0_tryLast ∈ lw_g := List.mem_filter.mpr ⟨List.mem_of_getElem? (i := 590) (by decide +kernel), rfl⟩
theorem tw_im_X0_tryLast : Cond.instanceMethod yX0_tryLast ∈ lw_g := List.mem_filter.mpr ⟨List.mem_of_getElem? (i := 592) (by decide +kernel), rfl⟩
theorem tw_co_X0_tryLast : Cond.code yX0_tryLast cX0_tryLast 5 none ∈ lw_g := List.mem_filter.mpr ⟨List.mem_of_getElem? (i := 593) (by decide +kernel), rfl⟩
theorem tw_ml_X0_62 : Cond.methodLink RX0 62 yX5_size ∈ lw_g := List.mem_filter.mpr ⟨List.mem_of_getElem? (i := 594) (by decide +kernel), rfl⟩
theorem tw_ml_X0_71 : Cond.methodLink RX0 71 yX5_at ∈ lw_g := List.mem_filter.mpr ⟨List.mem_of_getElem? (i := 595) (by decide +kernel), rfl⟩
theorem tw_ml_X0_75 : Cond.methodLink RX0 75 yX0_reachOf ∈ lw_g := List.mem_filter.mpr ⟨List.mem_of_getElem? (i := 596) (by decide +kernel), rfl⟩
theorem tw_im_X0_reachOf : Cond.instanceMethod yX0_reachOf ∈ lw_g := List.mem_filter.mpr ⟨List.mem_of_getElem? (i := 598) (by decide +kernel), rfl⟩
theorem tw_co_X0_reachOf : Cond.code yX0_reachOf cX0_reachOf 5 (some .int) ∈ lw_g := List.mem_filter.mpr ⟨List.mem_of_getElem? (i := 599) (by decide +kernel), rfl⟩
theorem tw_ml_X0_84 : Cond.methodLink RX0 84 yX0_gapWith ∈ lw_g := List.mem_filter.mpr ⟨List.mem_of_getElem? (i := 600) (by decide +kernel), rfl⟩
theorem tw_im_X0_gapWith : Cond.instanceMethod yX0_gapWith ∈ lw_g := List.mem_filter.mpr ⟨List.mem_of_getElem? (i := 602) (by decide +kernel), rfl⟩
theorem tw_co_X0_gapWith : Cond.code yX0_gapWith cX0_gapWith 5 (some .int) ∈ lw_g := List.mem_filter.mpr ⟨List.mem_of_getElem? (i := 603) (by decide +kernel), rfl⟩
theorem tw_ml_X0_88 : Cond.methodLink RX0 88 yX3_at ∈ lw_g := List.mem_filter.mpr ⟨List.mem_of_getElem? (i := 604) (by decide +kernel), rfl⟩
theorem tw_ml_X0_78 : Cond.methodLink RX0 78 arraycopyName ∈ lw_g := List.mem_filter.mpr ⟨List.mem_of_getElem? (i := 605) (by decide +kernel), rfl⟩
theorem tw_sm_arraycopyName : Cond.static arraycopyName ∈ lw_g := List.mem_filter.mpr ⟨List.mem_of_getElem? (i := 606) (by decide +kernel), rfl⟩
theorem tw_na_arraycopyName : Cond.native arraycopyName ∈ lw_g := List.mem_filter.mpr ⟨List.mem_of_getElem? (i := 607) (by decide +kernel), rfl⟩
theorem tw_ml_X0_48 : Cond.methodLink RX0 48 yX0_tryTwos ∈ lw_g := List.mem_filter.mpr ⟨List.mem_of_getElem? (i := 608) (by decide +kernel), rfl⟩
theorem tw_im_X0_tryTwos : Cond.instanceMethod yX0_tryTwos ∈ lw_g := List.mem_filter.mpr ⟨List.mem_of_getElem? (i := 610) (by decide +kernel), rfl⟩
theorem tw_co_X0_tryTwos : Cond.code yX0_tryTwos cX0_tryTwos 2 none ∈ lw_g := List.mem_filter.mpr ⟨List.mem_of_getElem? (i := 611) (by decide +kernel), rfl⟩
theorem tw_ml_X0_68 : Cond.methodLink RX0 68 yX0_pick ∈ lw_g := List.mem_filter.mpr ⟨List.mem_of_getElem? (i := 612) (by decide +kernel), rfl⟩
theorem tw_im_X0_pick : Cond.instanceMethod yX0_pick ∈ lw_g := List.mem_filter.mpr ⟨List.mem_of_getElem? (i := 614) (by decide +kernel), rfl⟩
theorem tw_co_X0_pick : Cond.code yX0_pick cX0_pick 5 none ∈ lw_g := List.mem_filter.mpr ⟨List.mem_of_getElem? (i := 615) (by decide +kernel), rfl⟩
theorem tw_ml_X0_51 : Cond.methodLink RX0 51 yX0_tryThrees ∈ lw_g := List.mem_filter.mpr ⟨List.mem_of_getElem? (i := 616) (by decide +kernel), rfl⟩
theorem tw_im_X0_tryThrees : Cond.instanceMethod yX0_tryThrees ∈ lw_g := List.mem_filter.mpr ⟨List.mem_of_getElem? (i := 618) (by decide +kernel), rfl⟩
theorem tw_co_X0_tryThrees : Cond.code yX0_tryThrees cX0_tryThrees 3 none ∈ lw_g := List.mem_filter.mpr ⟨List.mem_of_getElem? (i := 619) (by decide +kernel), rfl⟩
theorem tw_ml_X0_54 : Cond.methodLink RX0 54 yX7_clear ∈ lw_g := List.mem_filter.mpr ⟨List.mem_of_getElem? (i := 620) (by decide +kernel), rfl⟩
theorem tw_ml_X0_59 : Cond.methodLink RX0 59 yX7_append ∈ lw_g := List.mem_filter.mpr ⟨List.mem_of_getElem? (i := 621) (by decide +kernel), rfl⟩
theorem tw_ml_L_86 : Cond.methodLink RL 86 yX10_chain ∈ lw_g := List.mem_filter.mpr ⟨List.mem_of_getElem? (i := 622) (by decide +kernel), rfl⟩
theorem tw_im_X10_chain : Cond.instanceMethod yX10_chain ∈ lw_g := List.mem_filter.mpr ⟨List.mem_of_getElem? (i := 623) (by decide +kernel), rfl⟩
theorem tw_se_X10_chain : Cond.selects RX10 yX10_chain yX10_chain ∈ lw_g := List.mem_filter.mpr ⟨List.mem_of_getElem? (i := 624) (by decide +kernel), rfl⟩
theorem tw_co_X10_chain : Cond.code yX10_chain cX10_chain 3 (some .long) ∈ lw_g := List.mem_filter.mpr ⟨List.mem_of_getElem? (i := 625) (by decide +kernel), rfl⟩
theorem tw_ml_X10_176 : Cond.methodLink RX10 176 yX2_hangTogether ∈ lw_g := List.mem_filter.mpr ⟨List.mem_of_getElem? (i := 627) (by decide +kernel), rfl⟩
theorem tw_im_X2_hangTogether : Cond.instanceMethod yX2_hangTogether ∈ lw_g := List.mem_filter.mpr ⟨List.mem_of_getElem? (i := 628) (by decide +kernel), rfl⟩
theorem tw_se_X2_hangTogether : Cond.selects RX2 yX2_hangTogether yX2_hangTogether ∈ lw_g := List.mem_filter.mpr ⟨List.mem_of_getElem? (i := 629) (by decide +kernel), rfl⟩
theorem tw_co_X2_hangTogether : Cond.code yX2_hangTogether cX2_hangTogether 3 (some (.object "NearBook$Keys")) ∈ lw_g := List.mem_filter.mpr ⟨List.mem_of_getElem? (i := 630) (by decide +kernel), rfl⟩
theorem tw_ml_X2_32 : Cond.methodLink RX2 32 yX4_clear ∈ lw_g := List.mem_filter.mpr ⟨List.mem_of_getElem? (i := 631) (by decide +kernel), rfl⟩
theorem tw_cn_X2_35 : Cond.constant RX2 35 (2147483646) ∈ lw_g := List.mem_filter.mpr ⟨List.mem_of_getElem? (i := 632) (by decide +kernel), rfl⟩
theorem tw_ml_X2_36 : Cond.methodLink RX2 36 yJ7_fill_53178 ∈ lw_g := List.mem_filter.mpr ⟨List.mem_of_getElem? (i := 633) (by decide +kernel), rfl⟩
theorem tw_ml_X2_42 : Cond.methodLink RX2 42 yX5_size ∈ lw_g := List.mem_filter.mpr ⟨List.mem_of_getElem? (i := 634) (by decide +kernel), rfl⟩
theorem tw_cn_X2_48 : Cond.constant RX2 48 (2147483647) ∈ lw_g := List.mem_filter.mpr ⟨List.mem_of_getElem? (i := 635) (by decide +kernel), rfl⟩
theorem tw_ml_X2_49 : Cond.methodLink RX2 49 yX2_reachFrom ∈ lw_g := List.mem_filter.mpr ⟨List.mem_of_getElem? (i := 636) (by decide +kernel), rfl⟩
theorem tw_im_X2_reachFrom : Cond.instanceMethod yX2_reachFrom ∈ lw_g := List.mem_filter.mpr ⟨List.mem_of_getElem? (i := 638) (by decide +kernel), rfl⟩
theorem tw_co_X2_reachFrom : Cond.code yX2_reachFrom cX2_reachFrom 4 none ∈ lw_g := List.mem_filter.mpr ⟨List.mem_of_getElem? (i := 639) (by decide +kernel), rfl⟩
theorem tw_ml_X2_59 : Cond.methodLink RX2 59 yX5_at ∈ lw_g := List.mem_filter.mpr ⟨List.mem_of_getElem? (i := 640) (by decide +kernel), rfl⟩
theorem tw_ml_X2_63 : Cond.methodLink RX2 63 yX3_pairKey ∈ lw_g := List.mem_filter.mpr ⟨List.mem_of_getElem? (i := 641) (by decide +kernel), rfl⟩
theorem tw_ml_X2_69 : Cond.methodLink RX2 69 Lib.Math.min.name ∈ lw_g := List.mem_filter.mpr ⟨List.mem_of_getElem? (i := 642) (by decide +kernel), rfl⟩
theorem tw_ml_X2_53 : Cond.methodLink RX2 53 yX2_leastLoose ∈ lw_g := List.mem_filter.mpr ⟨List.mem_of_getElem? (i := 643) (by decide +kernel), rfl⟩
theorem tw_im_X2_leastLoose : Cond.instanceMethod yX2_leastLoose ∈ lw_g := List.mem_filter.mpr ⟨List.mem_of_getElem? (i := 645) (by decide +kernel), rfl⟩
theorem tw_co_X2_leastLoose : Cond.code yX2_leastLoose cX2_leastLoose 3 (some .int) ∈ lw_g := List.mem_filter.mpr ⟨List.mem_of_getElem? (i := 646) (by decide +kernel), rfl⟩
theorem tw_ml_X2_56 : Cond.methodLink RX2 56 yX4_insert ∈ lw_g := List.mem_filter.mpr ⟨List.mem_of_getElem? (i := 647) (by decide +kernel), rfl⟩
theorem tw_ml_X10_181 : Cond.methodLink RX10 181 yX10_sumOfPairs ∈ lw_g := List.mem_filter.mpr ⟨List.mem_of_getElem? (i := 648) (by decide +kernel), rfl⟩
theorem tw_sm_X10_sumOfPairs : Cond.static yX10_sumOfPairs ∈ lw_g := List.mem_filter.mpr ⟨List.mem_of_getElem? (i := 649) (by decide +kernel), rfl⟩
theorem tw_co_X10_sumOfPairs : Cond.code yX10_sumOfPairs cX10_sumOfPairs 4 (some .long) ∈ lw_g := List.mem_filter.mpr ⟨List.mem_of_getElem? (i := 650) (by decide +kernel), rfl⟩
theorem tw_ml_L_91 : Cond.methodLink RL 91 yX10_pair ∈ lw_g := List.mem_filter.mpr ⟨List.mem_of_getElem? (i := 651) (by decide +kernel), rfl⟩
theorem tw_im_X10_pair : Cond.instanceMethod yX10_pair ∈ lw_g := List.mem_filter.mpr ⟨List.mem_of_getElem? (i := 652) (by decide +kernel), rfl⟩
theorem tw_se_X10_pair : Cond.selects RX10 yX10_pair yX10_pair ∈ lw_g := List.mem_filter.mpr ⟨List.mem_of_getElem? (i := 653) (by decide +kernel), rfl⟩
theorem tw_co_X10_pair : Cond.code yX10_pair cX10_pair 4 (some .int) ∈ lw_g := List.mem_filter.mpr ⟨List.mem_of_getElem? (i := 654) (by decide +kernel), rfl⟩
theorem tw_ml_L_95 : Cond.methodLink RL 95 yX10_clusters ∈ lw_g := List.mem_filter.mpr ⟨List.mem_of_getElem? (i := 655) (by decide +kernel), rfl⟩
theorem tw_im_X10_clusters : Cond.instanceMethod yX10_clusters ∈ lw_g := List.mem_filter.mpr ⟨List.mem_of_getElem? (i := 656) (by decide +kernel), rfl⟩
theorem tw_se_X10_clusters : Cond.selects RX10 yX10_clusters yX10_clusters ∈ lw_g := List.mem_filter.mpr ⟨List.mem_of_getElem? (i := 657) (by decide +kernel), rfl⟩
theorem tw_co_X10_clusters : Cond.code yX10_clusters cX10_clusters 2 (some .int) ∈ lw_g := List.mem_filter.mpr ⟨List.mem_of_getElem? (i := 658) (by decide +kernel), rfl⟩
theorem tw_ml_X10_188 : Cond.methodLink RX10 188 yX6_gather ∈ lw_g := List.mem_filter.mpr ⟨List.mem_of_getElem? (i := 659) (by decide +kernel), rfl⟩
theorem tw_im_X6_gather : Cond.instanceMethod yX6_gather ∈ lw_g := List.mem_filter.mpr ⟨List.mem_of_getElem? (i := 660) (by decide +kernel), rfl⟩
theorem tw_se_X6_gather : Cond.selects RX6 yX6_gather yX6_gather ∈ lw_g := List.mem_filter.mpr ⟨List.mem_of_getElem? (i := 661) (by decide +kernel), rfl⟩
theorem tw_co_X6_gather : Cond.code yX6_gather cX6_gather 4 none ∈ lw_g := List.mem_filter.mpr ⟨List.mem_of_getElem? (i := 662) (by decide +kernel), rfl⟩
theorem tw_ml_X6_23 : Cond.methodLink RX6 23 yX5_size ∈ lw_g := List.mem_filter.mpr ⟨List.mem_of_getElem? (i := 663) (by decide +kernel), rfl⟩
theorem tw_ml_X6_29 : Cond.methodLink RX6 29 yX5_at ∈ lw_g := List.mem_filter.mpr ⟨List.mem_of_getElem? (i := 664) (by decide +kernel), rfl⟩
theorem tw_ml_X6_33 : Cond.methodLink RX6 33 yX3_at ∈ lw_g := List.mem_filter.mpr ⟨List.mem_of_getElem? (i := 665) (by decide +kernel), rfl⟩
theorem tw_ml_X6_38 : Cond.methodLink RX6 38 yX6_join ∈ lw_g := List.mem_filter.mpr ⟨List.mem_of_getElem? (i := 666) (by decide +kernel), rfl⟩
theorem tw_im_X6_join : Cond.instanceMethod yX6_join ∈ lw_g := List.mem_filter.mpr ⟨List.mem_of_getElem? (i := 668) (by decide +kernel), rfl⟩
theorem tw_co_X6_join : Cond.code yX6_join cX6_join 6 none ∈ lw_g := List.mem_filter.mpr ⟨List.mem_of_getElem? (i := 669) (by decide +kernel), rfl⟩
theorem tw_ml_X6_42 : Cond.methodLink RX6 42 Lib.Math.min.name ∈ lw_g := List.mem_filter.mpr ⟨List.mem_of_getElem? (i := 670) (by decide +kernel), rfl⟩
theorem tw_ml_X6_47 : Cond.methodLink RX6 47 Lib.Math.max.name ∈ lw_g := List.mem_filter.mpr ⟨List.mem_of_getElem? (i := 671) (by decide +kernel), rfl⟩
theorem tw_ml_X10_191 : Cond.methodLink RX10 191 yX6_howMany ∈ lw_g := List.mem_filter.mpr ⟨List.mem_of_getElem? (i := 672) (by decide +kernel), rfl⟩
theorem tw_im_X6_howMany : Cond.instanceMethod yX6_howMany ∈ lw_g := List.mem_filter.mpr ⟨List.mem_of_getElem? (i := 673) (by decide +kernel), rfl⟩
theorem tw_se_X6_howMany : Cond.selects RX6 yX6_howMany yX6_howMany ∈ lw_g := List.mem_filter.mpr ⟨List.mem_of_getElem? (i := 674) (by decide +kernel), rfl⟩
theorem tw_co_X6_howMany : Cond.code yX6_howMany cX6_howMany 3 (some .int) ∈ lw_g := List.mem_filter.mpr ⟨List.mem_of_getElem? (i := 675) (by decide +kernel), rfl⟩
theorem tw_ml_L_99 : Cond.methodLink RL 99 yX10_cluster ∈ lw_g := List.mem_filter.mpr ⟨List.mem_of_getElem? (i := 676) (by decide +kernel), rfl⟩
theorem tw_im_X10_cluster : Cond.instanceMethod yX10_cluster ∈ lw_g := List.mem_filter.mpr ⟨List.mem_of_getElem? (i := 677) (by decide +kernel), rfl⟩
theorem tw_se_X10_cluster : Cond.selects RX10 yX10_cluster yX10_cluster ∈ lw_g := List.mem_filter.mpr ⟨List.mem_of_getElem? (i := 678) (by decide +kernel), rfl⟩
theorem tw_co_X10_cluster : Cond.code yX10_cluster cX10_cluster 3 (some .int) ∈ lw_g := List.mem_filter.mpr ⟨List.mem_of_getElem? (i := 679) (by decide +kernel), rfl⟩
theorem tw_ml_X10_194 : Cond.methodLink RX10 194 yX6_lowestWith ∈ lw_g := List.mem_filter.mpr ⟨List.mem_of_getElem? (i := 680) (by decide +kernel), rfl⟩
theorem tw_im_X6_lowestWith : Cond.instanceMethod yX6_lowestWith ∈ lw_g := List.mem_filter.mpr ⟨List.mem_of_getElem? (i := 681) (by decide +kernel), rfl⟩
theorem tw_se_X6_lowestWith : Cond.selects RX6 yX6_lowestWith yX6_lowestWith ∈ lw_g := List.mem_filter.mpr ⟨List.mem_of_getElem? (i := 682) (by decide +kernel), rfl⟩
theorem tw_co_X6_lowestWith : Cond.code yX6_lowestWith cX6_lowestWith 2 (some .int) ∈ lw_g := List.mem_filter.mpr ⟨List.mem_of_getElem? (i := 683) (by decide +kernel), rfl⟩
theorem tw_ml_L_103 : Cond.methodLink RL 103 yX10_net ∈ lw_g := List.mem_filter.mpr ⟨List.mem_of_getElem? (i := 684) (by decide +kernel), rfl⟩
theorem tw_im_X10_net : Cond.instanceMethod yX10_net ∈ lw_g := List.mem_filter.mpr ⟨List.mem_of_getElem? (i := 685) (by decide +kernel), rfl⟩
theorem tw_se_X10_net : Cond.selects RX10 yX10_net yX10_net ∈ lw_g := List.mem_filter.mpr ⟨List.mem_of_getElem? (i := 686) (by decide +kernel), rfl⟩
theorem tw_co_X10_net : Cond.code yX10_net cX10_net 4 (some .int) ∈ lw_g := List.mem_filter.mpr ⟨List.mem_of_getElem? (i := 687) (by decide +kernel), rfl⟩
theorem tw_ml_X10_201 : Cond.methodLink RX10 201 yX10_isBeyondResults ∈ lw_g := List.mem_filter.mpr ⟨List.mem_of_getElem? (i := 688) (by decide +kernel), rfl⟩
theorem tw_im_X10_isBeyondResults : Cond.instanceMethod yX10_isBeyondResults ∈ lw_g := List.mem_filter.mpr ⟨List.mem_of_getElem? (i := 690) (by decide +kernel), rfl⟩
theorem tw_co_X10_isBeyondResults : Cond.code yX10_isBeyondResults cX10_isBeyondResults 4 (some .boolean) ∈ lw_g := List.mem_filter.mpr ⟨List.mem_of_getElem? (i := 691) (by decide +kernel), rfl⟩
theorem tw_ml_X10_219 : Cond.methodLink RX10 219 yX3_at ∈ lw_g := List.mem_filter.mpr ⟨List.mem_of_getElem? (i := 692) (by decide +kernel), rfl⟩
theorem tw_ml_L_107 : Cond.methodLink RL 107 yX10_middle ∈ lw_g := List.mem_filter.mpr ⟨List.mem_of_getElem? (i := 693) (by decide +kernel), rfl⟩
theorem tw_im_X10_middle : Cond.instanceMethod yX10_middle ∈ lw_g := List.mem_filter.mpr ⟨List.mem_of_getElem? (i := 694) (by decide +kernel), rfl⟩
theorem tw_se_X10_middle : Cond.selects RX10 yX10_middle yX10_middle ∈ lw_g := List.mem_filter.mpr ⟨List.mem_of_getElem? (i := 695) (by decide +kernel), rfl⟩
theorem tw_co_X10_middle : Cond.code yX10_middle cX10_middle 6 (some .long) ∈ lw_g := List.mem_filter.mpr ⟨List.mem_of_getElem? (i := 696) (by decide +kernel), rfl⟩
theorem tw_ml_X10_207 : Cond.methodLink RX10 207 yX10_sumFrom ∈ lw_g := List.mem_filter.mpr ⟨List.mem_of_getElem? (i := 697) (by decide +kernel), rfl⟩
theorem tw_im_X10_sumFrom : Cond.instanceMethod yX10_sumFrom ∈ lw_g := List.mem_filter.mpr ⟨List.mem_of_getElem? (i := 699) (by decide +kernel), rfl⟩
theorem tw_co_X10_sumFrom : Cond.code yX10_sumFrom cX10_sumFrom 4 (some .int) ∈ lw_g := List.mem_filter.mpr ⟨List.mem_of_getElem? (i := 700) (by decide +kernel), rfl⟩
theorem tw_ml_L_111 : Cond.methodLink RL 111 yX10_count ∈ lw_g := List.mem_filter.mpr ⟨List.mem_of_getElem? (i := 701) (by decide +kernel), rfl⟩
theorem tw_im_X10_count : Cond.instanceMethod yX10_count ∈ lw_g := List.mem_filter.mpr ⟨List.mem_of_getElem? (i := 702) (by decide +kernel), rfl⟩
theorem tw_se_X10_count : Cond.selects RX10 yX10_count yX10_count ∈ lw_g := List.mem_filter.mpr ⟨List.mem_of_getElem? (i := 703) (by decide +kernel), rfl⟩
theorem tw_co_X10_count : Cond.code yX10_count cX10_count 2 (some .int) ∈ lw_g := List.mem_filter.mpr ⟨List.mem_of_getElem? (i := 704) (by decide +kernel), rfl⟩
theorem tw_ml_X10_210 : Cond.methodLink RX10 210 yX3_kindAtHand ∈ lw_g := List.mem_filter.mpr ⟨List.mem_of_getElem? (i := 705) (by decide +kernel), rfl⟩
theorem tw_im_X3_kindAtHand : Cond.instanceMethod yX3_kindAtHand ∈ lw_g := List.mem_filter.mpr ⟨List.mem_of_getElem? (i := 706) (by decide +kernel), rfl⟩
theorem tw_se_X3_kindAtHand : Cond.selects RX3 yX3_kindAtHand yX3_kindAtHand ∈ lw_g := List.mem_filter.mpr ⟨List.mem_of_getElem? (i := 707) (by decide +kernel), rfl⟩
theorem tw_co_X3_kindAtHand : Cond.code yX3_kindAtHand cX3_kindAtHand 1 (some .int) ∈ lw_g := List.mem_filter.mpr ⟨List.mem_of_getElem? (i := 708) (by decide +kernel), rfl⟩
theorem tw_ml_X10_213 : Cond.methodLink RX10 213 yX10_greatestInBook ∈ lw_g := List.mem_filter.mpr ⟨List.mem_of_getElem? (i := 709) (by decide +kernel), rfl⟩
theorem tw_im_X10_greatestInBook : Cond.instanceMethod yX10_greatestInBook ∈ lw_g := List.mem_filter.mpr ⟨List.mem_of_getElem? (i := 711) (by decide +kernel), rfl⟩
theorem tw_co_X10_greatestInBook : Cond.code yX10_greatestInBook cX10_greatestInBook 4 (some .int) ∈ lw_g := List.mem_filter.mpr ⟨List.mem_of_getElem? (i := 712) (by decide +kernel), rfl⟩
theorem tw_ml_X10_221 : Cond.methodLink RX10 221 Lib.Math.max.name ∈ lw_g := List.mem_filter.mpr ⟨List.mem_of_getElem? (i := 713) (by decide +kernel), rfl⟩
theorem tw_ml_X10_216 : Cond.methodLink RX10 216 yX10_lengthAsked ∈ lw_g := List.mem_filter.mpr ⟨List.mem_of_getElem? (i := 714) (by decide +kernel), rfl⟩
theorem tw_im_X10_lengthAsked : Cond.instanceMethod yX10_lengthAsked ∈ lw_g := List.mem_filter.mpr ⟨List.mem_of_getElem? (i := 716) (by decide +kernel), rfl⟩
theorem tw_co_X10_lengthAsked : Cond.code yX10_lengthAsked cX10_lengthAsked 2 (some .int) ∈ lw_g := List.mem_filter.mpr ⟨List.mem_of_getElem? (i := 717) (by decide +kernel), rfl⟩
theorem tw_cl_L_10 : Cond.classLink RL 10 RX11 ∈ lw_g := List.mem_filter.mpr ⟨List.mem_of_getElem? (i := 718) (by decide +kernel), rfl⟩
theorem tw_ib_X11 : Cond.instantiable RX11 17 ∈ lw_g := List.mem_filter.mpr ⟨List.mem_of_getElem? (i := 719) (by decide +kernel), rfl⟩
theorem tw_ml_L_12 : Cond.methodLink RL 12 yX11_init ∈ lw_g := List.mem_filter.mpr ⟨List.mem_of_getElem? (i := 720) (by decide +kernel), rfl⟩
theorem tw_im_X11_init : Cond.instanceMethod yX11_init ∈ lw_g := List.mem_filter.mpr ⟨List.mem_of_getElem? (i := 721) (by decide +kernel), rfl⟩
theorem tw_co_X11_init : Cond.code yX11_init cX11_init 1 none ∈ lw_g := List.mem_filter.mpr ⟨List.mem_of_getElem? (i := 722) (by decide +kernel), rfl⟩
theorem tw_ml_X11_1 : Cond.methodLink RX11 1 objectInit ∈ lw_g := List.mem_filter.mpr ⟨List.mem_of_getElem? (i := 723) (by decide +kernel), rfl⟩
theorem tw_fl_X11_50 : Cond.fieldLink RX11 50 "NearBookModel" "things" "I" ∈ lw_g := List.mem_filter.mpr ⟨List.mem_of_getElem? (i := 724) (by decide +kernel), rfl⟩
theorem tw_fl_X11_63 : Cond.fieldLink RX11 63 "NearBookModel" "kind" "I" ∈ lw_g := List.mem_filter.mpr ⟨List.mem_of_getElem? (i := 725) (by decide +kernel), rfl⟩
theorem tw_fl_X11_7 : Cond.fieldLink RX11 7 "NearBookModel" "long8" "[I" ∈ lw_g := List.mem_filter.mpr ⟨List.mem_of_getElem? (i := 726) (by decide +kernel), rfl⟩
theorem tw_fl_X11_13 : Cond.fieldLink RX11 13 "NearBookModel" "value" "[I" ∈ lw_g := List.mem_filter.mpr ⟨List.mem_of_getElem? (i := 727) (by decide +kernel), rfl⟩
theorem tw_fl_X11_16 : Cond.fieldLink RX11 16 "NearBookModel" "told" "[I" ∈ lw_g := List.mem_filter.mpr ⟨List.mem_of_getElem? (i := 728) (by decide +kernel), rfl⟩
theorem tw_fl_X11_19 : Cond.fieldLink RX11 19 "NearBookModel" "isIn" "[Z" ∈ lw_g := List.mem_filter.mpr ⟨List.mem_of_getElem? (i := 729) (by decide +kernel), rfl⟩
theorem tw_fl_X11_93 : Cond.fieldLink RX11 93 "NearBookModel" "results" "I" ∈ lw_g := List.mem_filter.mpr ⟨List.mem_of_getElem? (i := 730) (by decide +kernel), rfl⟩
theorem tw_fl_X11_23 : Cond.fieldLink RX11 23 "NearBookModel" "result" "[I" ∈ lw_g := List.mem_filter.mpr ⟨List.mem_of_getElem? (i := 731) (by decide +kernel), rfl⟩
theorem tw_fl_X11_26 : Cond.fieldLink RX11 26 "NearBookModel" "away" "[I" ∈ lw_g := List.mem_filter.mpr ⟨List.mem_of_getElem? (i := 732) (by decide +kernel), rfl⟩
theorem tw_fl_X11_29 : Cond.fieldLink RX11 29 "NearBookModel" "cost" "[I" ∈ lw_g := List.mem_filter.mpr ⟨List.mem_of_getElem? (i := 733) (by decide +kernel), rfl⟩
theorem tw_fl_X11_32 : Cond.fieldLink RX11 32 "NearBookModel" "breaks" "[I" ∈ lw_g := List.mem_filter.mpr ⟨List.mem_of_getElem? (i := 734) (by decide +kernel), rfl⟩
theorem tw_fl_X11_35 : Cond.fieldLink RX11 35 "NearBookModel" "isTaken" "[Z" ∈ lw_g := List.mem_filter.mpr ⟨List.mem_of_getElem? (i := 735) (by decide +kernel), rfl⟩
theorem tw_fl_X11_38 : Cond.fieldLink RX11 38 "NearBookModel" "all" "[I" ∈ lw_g := List.mem_filter.mpr ⟨List.mem_of_getElem? (i := 736) (by decide +kernel), rfl⟩
theorem tw_fl_X11_41 : Cond.fieldLink RX11 41 "NearBookModel" "piece" "[I" ∈ lw_g := List.mem_filter.mpr ⟨List.mem_of_getElem? (i := 737) (by decide +kernel), rfl⟩
theorem tw_fl_X11_129 : Cond.fieldLink RX11 129 "NearBookModel" "pairs" "I" ∈ lw_g := List.mem_filter.mpr ⟨List.mem_of_getElem? (i := 738) (by decide +kernel), rfl⟩
theorem tw_fl_X11_44 : Cond.fieldLink RX11 44 "NearBookModel" "pairLow" "[I" ∈ lw_g := List.mem_filter.mpr ⟨List.mem_of_getElem? (i := 739) (by decide +kernel), rfl⟩
theorem tw_fl_X11_47 : Cond.fieldLink RX11 47 "NearBookModel" "pairHigh" "[I" ∈ lw_g := List.mem_filter.mpr ⟨List.mem_of_getElem? (i := 740) (by decide +kernel), rfl⟩
theorem tw_ac_boolean : Cond.arrayClass .boolean ∈ lw_g := List.mem_filter.mpr ⟨List.mem_of_getElem? (i := 776) (by decide +kernel), rfl⟩
theorem tw_ml_L_17 : Cond.methodLink RL 17 yX11_thing ∈ lw_g := List.mem_filter.mpr ⟨List.mem_of_getElem? (i := 777) (by decide +kernel), rfl⟩
theorem tw_im_X11_thing : Cond.instanceMethod yX11_thing ∈ lw_g := List.mem_filter.mpr ⟨List.mem_of_getElem? (i := 778) (by decide +kernel), rfl⟩
theorem tw_se_X11_thing : Cond.selects RX11 yX11_thing yX11_thing ∈ lw_g := List.mem_filter.mpr ⟨List.mem_of_getElem? (i := 779) (by decide +kernel), rfl⟩
theorem tw_co_X11_thing : Cond.code yX11_thing cX11_thing 2 (some .int) ∈ lw_g := List.mem_filter.mpr ⟨List.mem_of_getElem? (i := 780) (by decide +kernel), rfl⟩
theorem tw_ml_X11_54 : Cond.methodLink RX11 54 yX11_lies ∈ lw_g := List.mem_filter.mpr ⟨List.mem_of_getElem? (i := 781) (by decide +kernel), rfl⟩
theorem tw_sm_X11_lies : Cond.static yX11_lies ∈ lw_g := List.mem_filter.mpr ⟨List.mem_of_getElem? (i := 782) (by decide +kernel), rfl⟩
theorem tw_co_X11_lies : Cond.code yX11_lies cX11_lies 3 (some .boolean) ∈ lw_g := List.mem_filter.mpr ⟨List.mem_of_getElem? (i := 783) (by decide +kernel), rfl⟩
theorem tw_ml_L_22 : Cond.methodLink RL 22 yX11_value ∈ lw_g := List.mem_filter.mpr ⟨List.mem_of_getElem? (i := 784) (by decide +kernel), rfl⟩
theorem tw_im_X11_value : Cond.instanceMethod yX11_value ∈ lw_g := List.mem_filter.mpr ⟨List.mem_of_getElem? (i := 785) (by decide +kernel), rfl⟩
theorem tw_se_X11_value : Cond.selects RX11 yX11_value yX11_value ∈ lw_g := List.mem_filter.mpr ⟨List.mem_of_getElem? (i := 786) (by decide +kernel), rfl⟩
theorem tw_co_X11_value : Cond.code yX11_value cX11_value 4 (some .boolean) ∈ lw_g := List.mem_filter.mpr ⟨List.mem_of_getElem? (i := 787) (by decide +kernel), rfl⟩
theorem tw_ml_X11_58 : Cond.methodLink RX11 58 yX11_isThing ∈ lw_g := List.mem_filter.mpr ⟨List.mem_of_getElem? (i := 788) (by decide +kernel), rfl⟩
theorem tw_im_X11_isThing : Cond.instanceMethod yX11_isThing ∈ lw_g := List.mem_filter.mpr ⟨List.mem_of_getElem? (i := 790) (by decide +kernel), rfl⟩
theorem tw_co_X11_isThing : Cond.code yX11_isThing cX11_isThing 2 (some .boolean) ∈ lw_g := List.mem_filter.mpr ⟨List.mem_of_getElem? (i := 791) (by decide +kernel), rfl⟩
theorem tw_ml_L_26 : Cond.methodLink RL 26 yX11_tell ∈ lw_g := List.mem_filter.mpr ⟨List.mem_of_getElem? (i := 792) (by decide +kernel), rfl⟩
theorem tw_im_X11_tell : Cond.instanceMethod yX11_tell ∈ lw_g := List.mem_filter.mpr ⟨List.mem_of_getElem? (i := 793) (by decide +kernel), rfl⟩
theorem tw_se_X11_tell : Cond.selects RX11 yX11_tell yX11_tell ∈ lw_g := List.mem_filter.mpr ⟨List.mem_of_getElem? (i := 794) (by decide +kernel), rfl⟩
theorem tw_co_X11_tell : Cond.code yX11_tell cX11_tell 4 (some .boolean) ∈ lw_g := List.mem_filter.mpr ⟨List.mem_of_getElem? (i := 795) (by decide +kernel), rfl⟩
theorem tw_cn_X11_62 : Cond.constant RX11 62 (100000) ∈ lw_g := List.mem_filter.mpr ⟨List.mem_of_getElem? (i := 796) (by decide +kernel), rfl⟩
theorem tw_ml_L_31 : Cond.methodLink RL 31 yX11_kind ∈ lw_g := List.mem_filter.mpr ⟨List.mem_of_getElem? (i := 797) (by decide +kernel), rfl⟩
theorem tw_im_X11_kind : Cond.instanceMethod yX11_kind ∈ lw_g := List.mem_filter.mpr ⟨List.mem_of_getElem? (i := 798) (by decide +kernel), rfl⟩
theorem tw_se_X11_kind : Cond.selects RX11 yX11_kind yX11_kind ∈ lw_g := List.mem_filter.mpr ⟨List.mem_of_getElem? (i := 799) (by decide +kernel), rfl⟩
theorem tw_co_X11_kind : Cond.code yX11_kind cX11_kind 2 (some .boolean) ∈ lw_g := List.mem_filter.mpr ⟨List.mem_of_getElem? (i := 800) (by decide +kernel), rfl⟩
theorem tw_ml_L_36 : Cond.methodLink RL 36 yX11_distance ∈ lw_g := List.mem_filter.mpr ⟨List.mem_of_getElem? (i := 801) (by decide +kernel), rfl⟩
theorem tw_im_X11_distance : Cond.instanceMethod yX11_distance ∈ lw_g := List.mem_filter.mpr ⟨List.mem_of_getElem? (i := 802) (by decide +kernel), rfl⟩
theorem tw_se_X11_distance : Cond.selects RX11 yX11_distance yX11_distance ∈ lw_g := List.mem_filter.mpr ⟨List.mem_of_getElem? (i := 803) (by decide +kernel), rfl⟩
theorem tw_co_X11_distance : Cond.code yX11_distance cX11_distance 3 (some .int) ∈ lw_g := List.mem_filter.mpr ⟨List.mem_of_getElem? (i := 804) (by decide +kernel), rfl⟩
theorem tw_ml_X11_86 : Cond.methodLink RX11 86 yX11_far ∈ lw_g := List.mem_filter.mpr ⟨List.mem_of_getElem? (i := 805) (by decide +kernel), rfl⟩
theorem tw_im_X11_far : Cond.instanceMethod yX11_far ∈ lw_g := List.mem_filter.mpr ⟨List.mem_of_getElem? (i := 807) (by decide +kernel), rfl⟩
theorem tw_co_X11_far : Cond.code yX11_far cX11_far 7 (some .int) ∈ lw_g := List.mem_filter.mpr ⟨List.mem_of_getElem? (i := 808) (by decide +kernel), rfl⟩
theorem tw_ml_X11_73 : Cond.methodLink RX11 73 yX11_size ∈ lw_g := List.mem_filter.mpr ⟨List.mem_of_getElem? (i := 809) (by decide +kernel), rfl⟩
theorem tw_sm_X11_size : Cond.static yX11_size ∈ lw_g := List.mem_filter.mpr ⟨List.mem_of_getElem? (i := 810) (by decide +kernel), rfl⟩
theorem tw_co_X11_size : Cond.code yX11_size cX11_size 1 (some .int) ∈ lw_g := List.mem_filter.mpr ⟨List.mem_of_getElem? (i := 811) (by decide +kernel), rfl⟩
theorem tw_ml_X11_77 : Cond.methodLink RX11 77 yX11_unlike ∈ lw_g := List.mem_filter.mpr ⟨List.mem_of_getElem? (i := 812) (by decide +kernel), rfl⟩
theorem tw_im_X11_unlike : Cond.instanceMethod yX11_unlike ∈ lw_g := List.mem_filter.mpr ⟨List.mem_of_getElem? (i := 814) (by decide +kernel), rfl⟩
theorem tw_co_X11_unlike : Cond.code yX11_unlike cX11_unlike 5 (some .int) ∈ lw_g := List.mem_filter.mpr ⟨List.mem_of_getElem? (i := 815) (by decide +kernel), rfl⟩
theorem tw_ml_X11_80 : Cond.methodLink RX11 80 yX11_edits ∈ lw_g := List.mem_filter.mpr ⟨List.mem_of_getElem? (i := 816) (by decide +kernel), rfl⟩
theorem tw_im_X11_edits : Cond.instanceMethod yX11_edits ∈ lw_g := List.mem_filter.mpr ⟨List.mem_of_getElem? (i := 818) (by decide +kernel), rfl⟩
theorem tw_co_X11_edits : Cond.code yX11_edits cX11_edits 6 (some .int) ∈ lw_g := List.mem_filter.mpr ⟨List.mem_of_getElem? (i := 819) (by decide +kernel), rfl⟩
theorem tw_ml_X11_66 : Cond.methodLink RX11 66 yX11_least ∈ lw_g := List.mem_filter.mpr ⟨List.mem_of_getElem? (i := 820) (by decide +kernel), rfl⟩
theorem tw_sm_X11_least : Cond.static yX11_least ∈ lw_g := List.mem_filter.mpr ⟨List.mem_of_getElem? (i := 821) (by decide +kernel), rfl⟩
theorem tw_co_X11_least : Cond.code yX11_least cX11_least 2 (some .int) ∈ lw_g := List.mem_filter.mpr ⟨List.mem_of_getElem? (i := 822) (by decide +kernel), rfl⟩
theorem tw_ml_X11_83 : Cond.methodLink RX11 83 yX11_alone ∈ lw_g := List.mem_filter.mpr ⟨List.mem_of_getElem? (i := 823) (by decide +kernel), rfl⟩
theorem tw_im_X11_alone : Cond.instanceMethod yX11_alone ∈ lw_g := List.mem_filter.mpr ⟨List.mem_of_getElem? (i := 825) (by decide +kernel), rfl⟩
theorem tw_co_X11_alone : Cond.code yX11_alone cX11_alone 6 (some .int) ∈ lw_g := List.mem_filter.mpr ⟨List.mem_of_getElem? (i := 826) (by decide +kernel), rfl⟩
theorem tw_ml_X11_70 : Cond.methodLink RX11 70 yX11_has ∈ lw_g := List.mem_filter.mpr ⟨List.mem_of_getElem? (i := 827) (by decide +kernel), rfl⟩
theorem tw_im_X11_has : Cond.instanceMethod yX11_has ∈ lw_g := List.mem_filter.mpr ⟨List.mem_of_getElem? (i := 829) (by decide +kernel), rfl⟩
theorem tw_co_X11_has : Cond.code yX11_has cX11_has 5 (some .boolean) ∈ lw_g := List.mem_filter.mpr ⟨List.mem_of_getElem? (i := 830) (by decide +kernel), rfl⟩
theorem tw_ml_L_41 : Cond.methodLink RL 41 yX11_law ∈ lw_g := List.mem_filter.mpr ⟨List.mem_of_getElem? (i := 831) (by decide +kernel), rfl⟩
theorem tw_im_X11_law : Cond.instanceMethod yX11_law ∈ lw_g := List.mem_filter.mpr ⟨List.mem_of_getElem? (i := 832) (by decide +kernel), rfl⟩
theorem tw_se_X11_law : Cond.selects RX11 yX11_law yX11_law ∈ lw_g := List.mem_filter.mpr ⟨List.mem_of_getElem? (i := 833) (by decide +kernel), rfl⟩
theorem tw_co_X11_law : Cond.code yX11_law cX11_law 1 (some .int) ∈ lw_g := List.mem_filter.mpr ⟨List.mem_of_getElem? (i := 834) (by decide +kernel), rfl⟩
theorem tw_ml_X11_89 : Cond.methodLink RX11 89 yX11_holds ∈ lw_g := List.mem_filter.mpr ⟨List.mem_of_getElem? (i := 835) (by decide +kernel), rfl⟩
theorem tw_im_X11_holds : Cond.instanceMethod yX11_holds ∈ lw_g := List.mem_filter.mpr ⟨List.mem_of_getElem? (i := 837) (by decide +kernel), rfl⟩
theorem tw_co_X11_holds : Cond.code yX11_holds cX11_holds 4 (some .boolean) ∈ lw_g := List.mem_filter.mpr ⟨List.mem_of_getElem? (i := 838) (by decide +kernel), rfl⟩
theorem tw_ml_L_45 : Cond.methodLink RL 45 yX11_three ∈ lw_g := List.mem_filter.mpr ⟨List.mem_of_getElem? (i := 839) (by decide +kernel), rfl⟩
theorem tw_im_X11_three : Cond.instanceMethod yX11_three ∈ lw_g := List.mem_filter.mpr ⟨List.mem_of_getElem? (i := 840) (by decide +kernel), rfl⟩
theorem tw_se_X11_three : Cond.selects RX11 yX11_three yX11_three ∈ lw_g := List.mem_filter.mpr ⟨List.mem_of_getElem? (i := 841) (by decide +kernel), rfl⟩
theorem tw_co_X11_three : Cond.code yX11_three cX11_three 2 (some .int) ∈ lw_g := List.mem_filter.mpr ⟨List.mem_of_getElem? (i := 842) (by decide +kernel), rfl⟩
theorem tw_ml_L_49 : Cond.methodLink RL 49 yX11_put ∈ lw_g := List.mem_filter.mpr ⟨List.mem_of_getElem? (i := 843) (by decide +kernel), rfl⟩
theorem tw_im_X11_put : Cond.instanceMethod yX11_put ∈ lw_g := List.mem_filter.mpr ⟨List.mem_of_getElem? (i := 844) (by decide +kernel), rfl⟩
theorem tw_se_X11_put : Cond.selects RX11 yX11_put yX11_put ∈ lw_g := List.mem_filter.mpr ⟨List.mem_of_getElem? (i := 845) (by decide +kernel), rfl⟩
theorem tw_co_X11_put : Cond.code yX11_put cX11_put 2 (some .boolean) ∈ lw_g := List.mem_filter.mpr ⟨List.mem_of_getElem? (i := 846) (by decide +kernel), rfl⟩
theorem tw_ml_L_53 : Cond.methodLink RL 53 yX11_drop ∈ lw_g := List.mem_filter.mpr ⟨List.mem_of_getElem? (i := 847) (by decide +kernel), rfl⟩
theorem tw_im_X11_drop : Cond.instanceMethod yX11_drop ∈ lw_g := List.mem_filter.mpr ⟨List.mem_of_getElem? (i := 848) (by decide +kernel), rfl⟩
theorem tw_se_X11_drop : Cond.selects RX11 yX11_drop yX11_drop ∈ lw_g := List.mem_filter.mpr ⟨List.mem_of_getElem? (i := 849) (by decide +kernel), rfl⟩
theorem tw_co_X11_drop : Cond.code yX11_drop cX11_drop 2 (some .boolean) ∈ lw_g := List.mem_filter.mpr ⟨List.mem_of_getElem? (i := 850) (by decide +kernel), rfl⟩
theorem tw_ml_L_57 : Cond.methodLink RL 57 yX11_has_ ∈ lw_g := List.mem_filter.mpr ⟨List.mem_of_getElem? (i := 851) (by decide +kernel), rfl⟩
theorem tw_im_X11_has_ : Cond.instanceMethod yX11_has_ ∈ lw_g := List.mem_filter.mpr ⟨List.mem_of_getElem? (i := 852) (by decide +kernel), rfl⟩
theorem tw_se_X11_has_ : Cond.selects RX11 yX11_has_ yX11_has_ ∈ lw_g := List.mem_filter.mpr ⟨List.mem_of_getElem? (i := 853) (by decide +kernel), rfl⟩
theorem tw_co_X11_has_ : Cond.code yX11_has_ cX11_has_ 2 (some .int) ∈ lw_g := List.mem_filter.mpr ⟨List.mem_of_getElem? (i := 854) (by decide +kernel), rfl⟩
theorem tw_ml_L_61 : Cond.methodLink RL 61 yX11_nearest ∈ lw_g := List.mem_filter.mpr ⟨List.mem_of_getElem? (i := 855) (by decide +kernel), rfl⟩
theorem tw_im_X11_nearest : Cond.instanceMethod yX11_nearest ∈ lw_g := List.mem_filter.mpr ⟨List.mem_of_getElem? (i := 856) (by decide +kernel), rfl⟩
theorem tw_se_X11_nearest : Cond.selects RX11 yX11_nearest yX11_nearest ∈ lw_g := List.mem_filter.mpr ⟨List.mem_of_getElem? (i := 857) (by decide +kernel), rfl⟩
theorem tw_co_X11_nearest : Cond.code yX11_nearest cX11_nearest 3 (some .int) ∈ lw_g := List.mem_filter.mpr ⟨List.mem_of_getElem? (i := 858) (by decide +kernel), rfl⟩
theorem tw_cn_X11_107 : Cond.constant RX11 107 (2147483647) ∈ lw_g := List.mem_filter.mpr ⟨List.mem_of_getElem? (i := 859) (by decide +kernel), rfl⟩
theorem tw_ml_X11_108 : Cond.methodLink RX11 108 yX11_those ∈ lw_g := List.mem_filter.mpr ⟨List.mem_of_getElem? (i := 860) (by decide +kernel), rfl⟩
theorem tw_im_X11_those : Cond.instanceMethod yX11_those ∈ lw_g := List.mem_filter.mpr ⟨List.mem_of_getElem? (i := 862) (by decide +kernel), rfl⟩
theorem tw_co_X11_those : Cond.code yX11_those cX11_those 6 (some .int) ∈ lw_g := List.mem_filter.mpr ⟨List.mem_of_getElem? (i := 863) (by decide +kernel), rfl⟩
theorem tw_ml_X11_96 : Cond.methodLink RX11 96 yX11_takesNone ∈ lw_g := List.mem_filter.mpr ⟨List.mem_of_getElem? (i := 864) (by decide +kernel), rfl⟩
theorem tw_im_X11_takesNone : Cond.instanceMethod yX11_takesNone ∈ lw_g := List.mem_filter.mpr ⟨List.mem_of_getElem? (i := 866) (by decide +kernel), rfl⟩
theorem tw_co_X11_takesNone : Cond.code yX11_takesNone cX11_takesNone 2 none ∈ lw_g := List.mem_filter.mpr ⟨List.mem_of_getElem? (i := 867) (by decide +kernel), rfl⟩
theorem tw_ml_X11_99 : Cond.methodLink RX11 99 yX11_next ∈ lw_g := List.mem_filter.mpr ⟨List.mem_of_getElem? (i := 868) (by decide +kernel), rfl⟩
theorem tw_im_X11_next : Cond.instanceMethod yX11_next ∈ lw_g := List.mem_filter.mpr ⟨List.mem_of_getElem? (i := 870) (by decide +kernel), rfl⟩
theorem tw_co_X11_next : Cond.code yX11_next cX11_next 5 (some .int) ∈ lw_g := List.mem_filter.mpr ⟨List.mem_of_getElem? (i := 871) (by decide +kernel), rfl⟩
theorem tw_ml_X11_103 : Cond.methodLink RX11 103 yX11_gives ∈ lw_g := List.mem_filter.mpr ⟨List.mem_of_getElem? (i := 872) (by decide +kernel), rfl⟩
theorem tw_im_X11_gives : Cond.instanceMethod yX11_gives ∈ lw_g := List.mem_filter.mpr ⟨List.mem_of_getElem? (i := 874) (by decide +kernel), rfl⟩
theorem tw_co_X11_gives : Cond.code yX11_gives cX11_gives 3 none ∈ lw_g := List.mem_filter.mpr ⟨List.mem_of_getElem? (i := 875) (by decide +kernel), rfl⟩
theorem tw_ml_L_65 : Cond.methodLink RL 65 yX11_within ∈ lw_g := List.mem_filter.mpr ⟨List.mem_of_getElem? (i := 876) (by decide +kernel), rfl⟩
theorem tw_im_X11_within : Cond.instanceMethod yX11_within ∈ lw_g := List.mem_filter.mpr ⟨List.mem_of_getElem? (i := 877) (by decide +kernel), rfl⟩
theorem tw_se_X11_within : Cond.selects RX11 yX11_within yX11_within ∈ lw_g := List.mem_filter.mpr ⟨List.mem_of_getElem? (i := 878) (by decide +kernel), rfl⟩
theorem tw_co_X11_within : Cond.code yX11_within cX11_within 3 (some .int) ∈ lw_g := List.mem_filter.mpr ⟨List.mem_of_getElem? (i := 879) (by decide +kernel), rfl⟩
theorem tw_ml_L_69 : Cond.methodLink RL 69 yX11_farthest ∈ lw_g := List.mem_filter.mpr ⟨List.mem_of_getElem? (i := 880) (by decide +kernel), rfl⟩
theorem tw_im_X11_farthest : Cond.instanceMethod yX11_farthest ∈ lw_g := List.mem_filter.mpr ⟨List.mem_of_getElem? (i := 881) (by decide +kernel), rfl⟩
theorem tw_se_X11_farthest : Cond.selects RX11 yX11_farthest yX11_farthest ∈ lw_g := List.mem_filter.mpr ⟨List.mem_of_getElem? (i := 882) (by decide +kernel), rfl⟩
theorem tw_co_X11_farthest : Cond.code yX11_farthest cX11_farthest 3 (some .int) ∈ lw_g := List.mem_filter.mpr ⟨List.mem_of_getElem? (i := 883) (by decide +kernel), rfl⟩
theorem tw_ml_L_73 : Cond.methodLink RL 73 yX11_result ∈ lw_g := List.mem_filter.mpr ⟨List.mem_of_getElem? (i := 884) (by decide +kernel), rfl⟩
theorem tw_im_X11_result : Cond.instanceMethod yX11_result ∈ lw_g := List.mem_filter.mpr ⟨List.mem_of_getElem? (i := 885) (by decide +kernel), rfl⟩
theorem tw_se_X11_result : Cond.selects RX11 yX11_result yX11_result ∈ lw_g := List.mem_filter.mpr ⟨List.mem_of_getElem? (i := 886) (by decide +kernel), rfl⟩
theorem tw_co_X11_result : Cond.code yX11_result cX11_result 3 (some .int) ∈ lw_g := List.mem_filter.mpr ⟨List.mem_of_getElem? (i := 887) (by decide +kernel), rfl⟩
theorem tw_ml_L_77 : Cond.methodLink RL 77 yX11_closest ∈ lw_g := List.mem_filter.mpr ⟨List.mem_of_getElem? (i := 888) (by decide +kernel), rfl⟩
theorem tw_im_X11_closest : Cond.instanceMethod yX11_closest ∈ lw_g := List.mem_filter.mpr ⟨List.mem_of_getElem? (i := 889) (by decide +kernel), rfl⟩
theorem tw_se_X11_closest : Cond.selects RX11 yX11_closest yX11_closest ∈ lw_g := List.mem_filter.mpr ⟨List.mem_of_getElem? (i := 890) (by decide +kernel), rfl⟩
theorem tw_co_X11_closest : Cond.code yX11_closest cX11_closest 6 (some .int) ∈ lw_g := List.mem_filter.mpr ⟨List.mem_of_getElem? (i := 891) (by decide +kernel), rfl⟩
theorem tw_ml_X11_112 : Cond.methodLink RX11 112 yX11_inBook ∈ lw_g := List.mem_filter.mpr ⟨List.mem_of_getElem? (i := 892) (by decide +kernel), rfl⟩
theorem tw_im_X11_inBook : Cond.instanceMethod yX11_inBook ∈ lw_g := List.mem_filter.mpr ⟨List.mem_of_getElem? (i := 894) (by decide +kernel), rfl⟩
theorem tw_co_X11_inBook : Cond.code yX11_inBook cX11_inBook 3 (some .int) ∈ lw_g := List.mem_filter.mpr ⟨List.mem_of_getElem? (i := 895) (by decide +kernel), rfl⟩
theorem tw_ml_L_81 : Cond.methodLink RL 81 yX11_centres ∈ lw_g := List.mem_filter.mpr ⟨List.mem_of_getElem? (i := 896) (by decide +kernel), rfl⟩
theorem tw_im_X11_centres : Cond.instanceMethod yX11_centres ∈ lw_g := List.mem_filter.mpr ⟨List.mem_of_getElem? (i := 897) (by decide +kernel), rfl⟩
theorem tw_se_X11_centres : Cond.selects RX11 yX11_centres yX11_centres ∈ lw_g := List.mem_filter.mpr ⟨List.mem_of_getElem? (i := 898) (by decide +kernel), rfl⟩
theorem tw_co_X11_centres : Cond.code yX11_centres cX11_centres 5 (some .int) ∈ lw_g := List.mem_filter.mpr ⟨List.mem_of_getElem? (i := 899) (by decide +kernel), rfl⟩
theorem tw_ml_X11_116 : Cond.methodLink RX11 116 yX11_fromResults ∈ lw_g := List.mem_filter.mpr ⟨List.mem_of_getElem? (i := 900) (by decide +kernel), rfl⟩
theorem tw_im_X11_fromResults : Cond.instanceMethod yX11_fromResults ∈ lw_g := List.mem_filter.mpr ⟨List.mem_of_getElem? (i := 902) (by decide +kernel), rfl⟩
theorem tw_co_X11_fromResults : Cond.code yX11_fromResults cX11_fromResults 4 (some .int) ∈ lw_g := List.mem_filter.mpr ⟨List.mem_of_getElem? (i := 903) (by decide +kernel), rfl⟩
theorem tw_ml_X11_119 : Cond.methodLink RX11 119 yX11_radius ∈ lw_g := List.mem_filter.mpr ⟨List.mem_of_getElem? (i := 904) (by decide +kernel), rfl⟩
theorem tw_im_X11_radius : Cond.instanceMethod yX11_radius ∈ lw_g := List.mem_filter.mpr ⟨List.mem_of_getElem? (i := 906) (by decide +kernel), rfl⟩
theorem tw_co_X11_radius : Cond.code yX11_radius cX11_radius 4 (some .int) ∈ lw_g := List.mem_filter.mpr ⟨List.mem_of_getElem? (i := 907) (by decide +kernel), rfl⟩
theorem tw_ml_L_85 : Cond.methodLink RL 85 yX11_best ∈ lw_g := List.mem_filter.mpr ⟨List.mem_of_getElem? (i := 908) (by decide +kernel), rfl⟩
theorem tw_im_X11_best : Cond.instanceMethod yX11_best ∈ lw_g := List.mem_filter.mpr ⟨List.mem_of_getElem? (i := 909) (by decide +kernel), rfl⟩
theorem tw_se_X11_best : Cond.selects RX11 yX11_best yX11_best ∈ lw_g := List.mem_filter.mpr ⟨List.mem_of_getElem? (i := 910) (by decide +kernel), rfl⟩
theorem tw_co_X11_best : Cond.code yX11_best cX11_best 10 (some .int) ∈ lw_g := List.mem_filter.mpr ⟨List.mem_of_getElem? (i := 911) (by decide +kernel), rfl⟩
theorem tw_ml_X11_122 : Cond.methodLink RX11 122 yX11_radiusOf ∈ lw_g := List.mem_filter.mpr ⟨List.mem_of_getElem? (i := 912) (by decide +kernel), rfl⟩
theorem tw_im_X11_radiusOf : Cond.instanceMethod yX11_radiusOf ∈ lw_g := List.mem_filter.mpr ⟨List.mem_of_getElem? (i := 914) (by decide +kernel), rfl⟩
theorem tw_co_X11_radiusOf : Cond.code yX11_radiusOf cX11_radiusOf 7 (some .int) ∈ lw_g := List.mem_filter.mpr ⟨List.mem_of_getElem? (i := 915) (by decide +kernel), rfl⟩
theorem tw_ml_L_90 : Cond.methodLink RL 90 yX11_chain ∈ lw_g := List.mem_filter.mpr ⟨List.mem_of_getElem? (i := 916) (by decide +kernel), rfl⟩
theorem tw_im_X11_chain : Cond.instanceMethod yX11_chain ∈ lw_g := List.mem_filter.mpr ⟨List.mem_of_getElem? (i := 917) (by decide +kernel), rfl⟩
theorem tw_se_X11_chain : Cond.selects RX11 yX11_chain yX11_chain ∈ lw_g := List.mem_filter.mpr ⟨List.mem_of_getElem? (i := 918) (by decide +kernel), rfl⟩
theorem tw_co_X11_chain : Cond.code yX11_chain cX11_chain 5 (some .long) ∈ lw_g := List.mem_filter.mpr ⟨List.mem_of_getElem? (i := 919) (by decide +kernel), rfl⟩
theorem tw_ml_X11_137 : Cond.methodLink RX11 137 yX11_chains ∈ lw_g := List.mem_filter.mpr ⟨List.mem_of_getElem? (i := 921) (by decide +kernel), rfl⟩
theorem tw_im_X11_chains : Cond.instanceMethod yX11_chains ∈ lw_g := List.mem_filter.mpr ⟨List.mem_of_getElem? (i := 923) (by decide +kernel), rfl⟩
theorem tw_co_X11_chains : Cond.code yX11_chains cX11_chains 6 none ∈ lw_g := List.mem_filter.mpr ⟨List.mem_of_getElem? (i := 924) (by decide +kernel), rfl⟩
theorem tw_ml_X11_126 : Cond.methodLink RX11 126 yX11_alonePieces ∈ lw_g := List.mem_filter.mpr ⟨List.mem_of_getElem? (i := 925) (by decide +kernel), rfl⟩
theorem tw_im_X11_alonePieces : Cond.instanceMethod yX11_alonePieces ∈ lw_g := List.mem_filter.mpr ⟨List.mem_of_getElem? (i := 927) (by decide +kernel), rfl⟩
theorem tw_co_X11_alonePieces : Cond.code yX11_alonePieces cX11_alonePieces 2 none ∈ lw_g := List.mem_filter.mpr ⟨List.mem_of_getElem? (i := 928) (by decide +kernel), rfl⟩
theorem tw_ml_X11_132 : Cond.methodLink RX11 132 yX11_joins ∈ lw_g := List.mem_filter.mpr ⟨List.mem_of_getElem? (i := 929) (by decide +kernel), rfl⟩
theorem tw_im_X11_joins : Cond.instanceMethod yX11_joins ∈ lw_g := List.mem_filter.mpr ⟨List.mem_of_getElem? (i := 931) (by decide +kernel), rfl⟩
theorem tw_co_X11_joins : Cond.code yX11_joins cX11_joins 6 none ∈ lw_g := List.mem_filter.mpr ⟨List.mem_of_getElem? (i := 932) (by decide +kernel), rfl⟩
theorem tw_ml_L_94 : Cond.methodLink RL 94 yX11_pair ∈ lw_g := List.mem_filter.mpr ⟨List.mem_of_getElem? (i := 933) (by decide +kernel), rfl⟩
theorem tw_im_X11_pair : Cond.instanceMethod yX11_pair ∈ lw_g := List.mem_filter.mpr ⟨List.mem_of_getElem? (i := 934) (by decide +kernel), rfl⟩
theorem tw_se_X11_pair : Cond.selects RX11 yX11_pair yX11_pair ∈ lw_g := List.mem_filter.mpr ⟨List.mem_of_getElem? (i := 935) (by decide +kernel), rfl⟩
theorem tw_co_X11_pair : Cond.code yX11_pair cX11_pair 3 (some .int) ∈ lw_g := List.mem_filter.mpr ⟨List.mem_of_getElem? (i := 936) (by decide +kernel), rfl⟩
theorem tw_ml_L_98 : Cond.methodLink RL 98 yX11_clusters ∈ lw_g := List.mem_filter.mpr ⟨List.mem_of_getElem? (i := 937) (by decide +kernel), rfl⟩
theorem tw_im_X11_clusters : Cond.instanceMethod yX11_clusters ∈ lw_g := List.mem_filter.mpr ⟨List.mem_of_getElem? (i := 938) (by decide +kernel), rfl⟩
theorem tw_se_X11_clusters : Cond.selects RX11 yX11_clusters yX11_clusters ∈ lw_g := List.mem_filter.mpr ⟨List.mem_of_getElem? (i := 939) (by decide +kernel), rfl⟩
theorem tw_co_X11_clusters : Cond.code yX11_clusters cX11_clusters 4 (some .int) ∈ lw_g := List.mem_filter.mpr ⟨List.mem_of_getElem? (i := 940) (by decide +kernel), rfl⟩
theorem tw_ml_X11_140 : Cond.methodLink RX11 140 yX11_pieces ∈ lw_g := List.mem_filter.mpr ⟨List.mem_of_getElem? (i := 941) (by decide +kernel), rfl⟩
theorem tw_im_X11_pieces : Cond.instanceMethod yX11_pieces ∈ lw_g := List.mem_filter.mpr ⟨List.mem_of_getElem? (i := 943) (by decide +kernel), rfl⟩
theorem tw_co_X11_pieces : Cond.code yX11_pieces cX11_pieces 4 none ∈ lw_g := List.mem_filter.mpr ⟨List.mem_of_getElem? (i := 944) (by decide +kernel), rfl⟩
theorem tw_ml_L_102 : Cond.methodLink RL 102 yX11_cluster ∈ lw_g := List.mem_filter.mpr ⟨List.mem_of_getElem? (i := 945) (by decide +kernel), rfl⟩
theorem tw_im_X11_cluster : Cond.instanceMethod yX11_cluster ∈ lw_g := List.mem_filter.mpr ⟨List.mem_of_getElem? (i := 946) (by decide +kernel), rfl⟩
theorem tw_se_X11_cluster : Cond.selects RX11 yX11_cluster yX11_cluster ∈ lw_g := List.mem_filter.mpr ⟨List.mem_of_getElem? (i := 947) (by decide +kernel), rfl⟩
theorem tw_co_X11_cluster : Cond.code yX11_cluster cX11_cluster 3 (some .int) ∈ lw_g := List.mem_filter.mpr ⟨List.mem_of_getElem? (i := 948) (by decide +kernel), rfl⟩
theorem tw_ml_L_106 : Cond.methodLink RL 106 yX11_net ∈ lw_g := List.mem_filter.mpr ⟨List.mem_of_getElem? (i := 949) (by decide +kernel), rfl⟩
theorem tw_im_X11_net : Cond.instanceMethod yX11_net ∈ lw_g := List.mem_filter.mpr ⟨List.mem_of_getElem? (i := 950) (by decide +kernel), rfl⟩
theorem tw_se_X11_net : Cond.selects RX11 yX11_net yX11_net ∈ lw_g := List.mem_filter.mpr ⟨List.mem_of_getElem? (i := 951) (by decide +kernel), rfl⟩
theorem tw_co_X11_net : Cond.code yX11_net cX11_net 3 (some .int) ∈ lw_g := List.mem_filter.mpr ⟨List.mem_of_getElem? (i := 952) (by decide +kernel), rfl⟩
theorem tw_ml_L_110 : Cond.methodLink RL 110 yX11_middle ∈ lw_g := List.mem_filter.mpr ⟨List.mem_of_getElem? (i := 953) (by decide +kernel), rfl⟩
theorem tw_im_X11_middle : Cond.instanceMethod yX11_middle ∈ lw_g := List.mem_filter.mpr ⟨List.mem_of_getElem? (i := 954) (by decide +kernel), rfl⟩
theorem tw_se_X11_middle : Cond.selects RX11 yX11_middle yX11_middle ∈ lw_g := List.mem_filter.mpr ⟨List.mem_of_getElem? (i := 955) (by decide +kernel), rfl⟩
theorem tw_co_X11_middle : Cond.code yX11_middle cX11_middle 9 (some .long) ∈ lw_g := List.mem_filter.mpr ⟨List.mem_of_getElem? (i := 956) (by decide +kernel), rfl⟩
theorem tw_ml_L_114 : Cond.methodLink RL 114 yX11_count ∈ lw_g := List.mem_filter.mpr ⟨List.mem_of_getElem? (i := 957) (by decide +kernel), rfl⟩
theorem tw_im_X11_count : Cond.instanceMethod yX11_count ∈ lw_g := List.mem_filter.mpr ⟨List.mem_of_getElem? (i := 958) (by decide +kernel), rfl⟩
theorem tw_se_X11_count : Cond.selects RX11 yX11_count yX11_count ∈ lw_g := List.mem_filter.mpr ⟨List.mem_of_getElem? (i := 959) (by decide +kernel), rfl⟩
theorem tw_co_X11_count : Cond.code yX11_count cX11_count 5 (some .int) ∈ lw_g := List.mem_filter.mpr ⟨List.mem_of_getElem? (i := 960) (by decide +kernel), rfl⟩
theorem inX0 : ∀ w ∈ wsX00, w ∈ lw_g := by decide +kernel
theorem inX1 : ∀ w ∈ wsX10, w ∈ lw_g := by decide +kernel
theorem inX2 : ∀ w ∈ wsX20, w ∈ lw_g := by decide +kernel
theorem inX3 : ∀ w ∈ wsX30, w ∈ lw_g := by decide +kernel
theorem inX4 : ∀ w ∈ wsX40, w ∈ lw_g := by decide +kernel
theorem inX5 : ∀ w ∈ wsX50, w ∈ lw_g := by decide +kernel
theorem inX6 : ∀ w ∈ wsX60, w ∈ lw_g := by decide +kernel
theorem inX7 : ∀ w ∈ wsX70, w ∈ lw_g := by decide +kernel
theorem inX8 : ∀ w ∈ wsX80, w ∈ lw_g := by decide +kernel
theorem inX9 : ∀ w ∈ wsX90, w ∈ lw_g := by decide +kernel
theorem inX10 : ∀ w ∈ wsX100, w ∈ lw_g := by decide +kernel
theorem inX11 : ∀ w ∈ wsX110, w ∈ lw_g := by decide +kernel
theorem inJ9 : ∀ w ∈ wsJ90, w ∈ lw_g := by decide +kernel
theorem inJ10 : ∀ w ∈ wsJ100, w ∈ lw_g := by decide +kernel
theorem inJ7 : ∀ w ∈ wsJ70, w ∈ lw_g := by decide +kernel
