/-- the words that stay, of the tables and of the private methods: every method's contract here asks just these -/
def Tg : List Cond := lw_tbl.filter goodWord
theorem tg_in {w : Cond} (h : w ∈ tables_1) (hg : goodWord w = true) : w ∈ Tg := List.mem_filter.mpr ⟨List.mem_append_right _ h, hg⟩
theorem tg_good : GoodIn Tg Tg := fun w h => ⟨h, good_of_word (List.mem_filter.mp h).2⟩
theorem tg_sel {q : MethodName × Nat} (h : q ∈ lw_privs) : Cond.selects q.1.cls q.1 q.1 ∈ Tg := List.mem_filter.mpr ⟨List.mem_append_left _ (List.mem_map.mpr ⟨q, h, rfl⟩), rfl⟩
theorem tg_of {args : Array Value} {s : State} (h : ∀ w ∈ lw_tbl, w.before args s = true) : ∀ w ∈ Tg, w.before args s = true := fun w hw => h w (List.mem_filter.mp hw).1
theorem in_L : Cond.initialized RL ∈ Tg := tg_in (List.mem_append_left _ (List.mem_of_getElem? (i := 0) rfl)) rfl
theorem in_X10 : Cond.initialized RX10 ∈ Tg := tg_in (List.mem_append_left _ (List.mem_of_getElem? (i := 1) rfl)) rfl
theorem in_X4 : Cond.initialized RX4 ∈ Tg := tg_in (List.mem_append_left _ (List.mem_of_getElem? (i := 2) rfl)) rfl
theorem in_X2 : Cond.initialized RX2 ∈ Tg := tg_in (List.mem_append_left _ (List.mem_of_getElem? (i := 3) rfl)) rfl
theorem in_X8 : Cond.initialized RX8 ∈ Tg := tg_in (List.mem_append_left _ (List.mem_of_getElem? (i := 4) rfl)) rfl
theorem in_X5 : Cond.initialized RX5 ∈ Tg := tg_in (List.mem_append_left _ (List.mem_of_getElem? (i := 5) rfl)) rfl
theorem in_X9 : Cond.initialized RX9 ∈ Tg := tg_in (List.mem_append_left _ (List.mem_of_getElem? (i := 6) rfl)) rfl
theorem in_X1 : Cond.initialized RX1 ∈ Tg := tg_in (List.mem_append_left _ (List.mem_of_getElem? (i := 7) rfl)) rfl
theorem in_X0 : Cond.initialized RX0 ∈ Tg := tg_in (List.mem_append_left _ (List.mem_of_getElem? (i := 8) rfl)) rfl
theorem in_X6 : Cond.initialized RX6 ∈ Tg := tg_in (List.mem_append_left _ (List.mem_of_getElem? (i := 9) rfl)) rfl
theorem in_X7 : Cond.initialized RX7 ∈ Tg := tg_in (List.mem_append_left _ (List.mem_of_getElem? (i := 10) rfl)) rfl
theorem in_X11 : Cond.initialized RX11 ∈ Tg := tg_in (List.mem_append_left _ (List.mem_of_getElem? (i := 11) rfl)) rfl
theorem in_J10 : Cond.initialized RJ10 ∈ Tg := tg_in (List.mem_append_left _ (List.mem_of_getElem? (i := 12) rfl)) rfl
theorem in_X3 : Cond.initialized RX3 ∈ Tg := tg_in (List.mem_append_left _ (List.mem_of_getElem? (i := 13) rfl)) rfl
theorem in_J13 : Cond.initialized RJ13 ∈ Tg := tg_in (List.mem_append_left _ (List.mem_of_getElem? (i := 14) rfl)) rfl
theorem in_J6 : Cond.initialized RJ6 ∈ Tg := tg_in (List.mem_append_left _ (List.mem_of_getElem? (i := 15) rfl)) rfl
theorem kl_L_7 : Cond.classLink RL 7 RX10 ∈ Tg := tg_in (List.mem_append_left _ (List.mem_of_getElem? (i := 16) rfl)) rfl
theorem ib_X10 : Cond.instantiable RX10 12 ∈ Tg := tg_in (List.mem_append_left _ (List.mem_of_getElem? (i := 17) rfl)) rfl
theorem ml_L_9 : Cond.methodLink RL 9 yX10_init ∈ Tg := tg_in (List.mem_append_left _ (List.mem_of_getElem? (i := 18) rfl)) rfl
theorem im_X10_init : Cond.instanceMethod yX10_init ∈ Tg := tg_in (List.mem_append_left _ (List.mem_of_getElem? (i := 19) rfl)) rfl
theorem co_X10_init : Cond.code yX10_init cX10_init 2 none ∈ Tg := tg_in (List.mem_append_left _ (List.mem_of_getElem? (i := 20) rfl)) rfl
theorem ml_X10_1 : Cond.methodLink RX10 1 objectInit ∈ Tg := tg_in (List.mem_append_left _ (List.mem_of_getElem? (i := 21) rfl)) rfl
theorem im_objectInit : Cond.instanceMethod objectInit ∈ Tg := tg_in (List.mem_append_left _ (List.mem_of_getElem? (i := 22) rfl)) rfl
theorem co_objectInit : Cond.code objectInit ⟨#[0xb1]⟩ 1 none ∈ Tg := tg_in (List.mem_append_left _ (List.mem_of_getElem? (i := 23) rfl)) rfl
theorem kl_X10_9 : Cond.classLink RX10 9 RX7 ∈ Tg := tg_in (List.mem_append_left _ (List.mem_of_getElem? (i := 24) rfl)) rfl
theorem kl_X10_15 : Cond.classLink RX10 15 RX4 ∈ Tg := tg_in (List.mem_append_left _ (List.mem_of_getElem? (i := 26) rfl)) rfl
theorem ib_X4 : Cond.instantiable RX4 10 ∈ Tg := tg_in (List.mem_append_left _ (List.mem_of_getElem? (i := 27) rfl)) rfl
theorem ml_X10_17 : Cond.methodLink RX10 17 yX4_init ∈ Tg := tg_in (List.mem_append_left _ (List.mem_of_getElem? (i := 28) rfl)) rfl
theorem im_X4_init : Cond.instanceMethod yX4_init ∈ Tg := tg_in (List.mem_append_left _ (List.mem_of_getElem? (i := 29) rfl)) rfl
theorem co_X4_init : Cond.code yX4_init cX4_init 4 none ∈ Tg := tg_in (List.mem_append_left _ (List.mem_of_getElem? (i := 30) rfl)) rfl
theorem ml_X4_3 : Cond.methodLink RX4 3 objectInit ∈ Tg := tg_in (List.mem_append_left _ (List.mem_of_getElem? (i := 31) rfl)) rfl
theorem ml_X4_42 : Cond.methodLink RX4 42 yX4_fillWithCharts ∈ Tg := tg_in (List.mem_append_left _ (List.mem_of_getElem? (i := 32) rfl)) rfl
theorem st_X4_fillWithCharts : Cond.static yX4_fillWithCharts ∈ Tg := tg_in (List.mem_append_left _ (List.mem_of_getElem? (i := 33) rfl)) rfl
theorem co_X4_fillWithCharts : Cond.code yX4_fillWithCharts cX4_fillWithCharts 4 none ∈ Tg := tg_in (List.mem_append_left _ (List.mem_of_getElem? (i := 34) rfl)) rfl
theorem ml_X4_51 : Cond.methodLink RX4 51 yX2_ofCode ∈ Tg := tg_in (List.mem_append_left _ (List.mem_of_getElem? (i := 35) rfl)) rfl
theorem st_X2_ofCode : Cond.static yX2_ofCode ∈ Tg := tg_in (List.mem_append_left _ (List.mem_of_getElem? (i := 36) rfl)) rfl
theorem co_X2_ofCode : Cond.code yX2_ofCode cX2_ofCode 5 (some .long) ∈ Tg := tg_in (List.mem_append_left _ (List.mem_of_getElem? (i := 37) rfl)) rfl
theorem cn_X2_9 : Cond.constant RX2 9 (65535) ∈ Tg := tg_in (List.mem_append_left _ (List.mem_of_getElem? (i := 38) rfl)) rfl
theorem ml_X2_12 : Cond.methodLink RX2 12 yX2_daughterOf ∈ Tg := tg_in (List.mem_append_left _ (List.mem_of_getElem? (i := 39) rfl)) rfl
theorem st_X2_daughterOf : Cond.static yX2_daughterOf ∈ Tg := tg_in (List.mem_append_left _ (List.mem_of_getElem? (i := 40) rfl)) rfl
theorem co_X2_daughterOf : Cond.code yX2_daughterOf cX2_daughterOf 4 (some .int) ∈ Tg := tg_in (List.mem_append_left _ (List.mem_of_getElem? (i := 41) rfl)) rfl
theorem ml_X2_16 : Cond.methodLink RX2 16 yX2_withFigure ∈ Tg := tg_in (List.mem_append_left _ (List.mem_of_getElem? (i := 42) rfl)) rfl
theorem st_X2_withFigure : Cond.static yX2_withFigure ∈ Tg := tg_in (List.mem_append_left _ (List.mem_of_getElem? (i := 43) rfl)) rfl
theorem co_X2_withFigure : Cond.code yX2_withFigure cX2_withFigure 4 (some .long) ∈ Tg := tg_in (List.mem_append_left _ (List.mem_of_getElem? (i := 44) rfl)) rfl
theorem ml_X2_20 : Cond.methodLink RX2 20 yX2_firstAbove ∈ Tg := tg_in (List.mem_append_left _ (List.mem_of_getElem? (i := 45) rfl)) rfl
theorem st_X2_firstAbove : Cond.static yX2_firstAbove ∈ Tg := tg_in (List.mem_append_left _ (List.mem_of_getElem? (i := 46) rfl)) rfl
theorem co_X2_firstAbove : Cond.code yX2_firstAbove cX2_firstAbove 1 (some .int) ∈ Tg := tg_in (List.mem_append_left _ (List.mem_of_getElem? (i := 47) rfl)) rfl
theorem ml_X2_24 : Cond.methodLink RX2 24 yX2_figureAt ∈ Tg := tg_in (List.mem_append_left _ (List.mem_of_getElem? (i := 48) rfl)) rfl
theorem st_X2_figureAt : Cond.static yX2_figureAt ∈ Tg := tg_in (List.mem_append_left _ (List.mem_of_getElem? (i := 49) rfl)) rfl
theorem co_X2_figureAt : Cond.code yX2_figureAt cX2_figureAt 3 (some .int) ∈ Tg := tg_in (List.mem_append_left _ (List.mem_of_getElem? (i := 50) rfl)) rfl
theorem cn_X4_46 : Cond.constantLong RX4 46 (-1) ∈ Tg := tg_in (List.mem_append_left _ (List.mem_of_getElem? (i := 51) rfl)) rfl
theorem fl_X4_11 : Cond.fieldLink RX4 11 RX4 "lower" "[J" ∈ Tg := tg_in (List.mem_append_left _ (List.mem_of_getElem? (i := 52) rfl)) rfl
theorem fl_X4_15 : Cond.fieldLink RX4 15 RX4 "upper" "[J" ∈ Tg := tg_in (List.mem_append_left _ (List.mem_of_getElem? (i := 53) rfl)) rfl
theorem fl_X4_48 : Cond.fieldLink RX4 48 RX4 "upperAlone" "J" ∈ Tg := tg_in (List.mem_append_left _ (List.mem_of_getElem? (i := 54) rfl)) rfl
theorem fl_X4_18 : Cond.fieldLink RX4 18 RX4 "looked" "Z" ∈ Tg := tg_in (List.mem_append_left _ (List.mem_of_getElem? (i := 55) rfl)) rfl
theorem fl_X4_22 : Cond.fieldLink RX4 22 RX4 "drawn" "J" ∈ Tg := tg_in (List.mem_append_left _ (List.mem_of_getElem? (i := 56) rfl)) rfl
theorem fl_X4_26 : Cond.fieldLink RX4 26 RX4 "untorn" "J" ∈ Tg := tg_in (List.mem_append_left _ (List.mem_of_getElem? (i := 57) rfl)) rfl
theorem fl_X4_29 : Cond.fieldLink RX4 29 RX4 "fits" "I" ∈ Tg := tg_in (List.mem_append_left _ (List.mem_of_getElem? (i := 58) rfl)) rfl
theorem fl_X4_33 : Cond.fieldLink RX4 33 RX4 "strokes" "I" ∈ Tg := tg_in (List.mem_append_left _ (List.mem_of_getElem? (i := 59) rfl)) rfl
theorem fl_X4_36 : Cond.fieldLink RX4 36 RX4 "mended" "I" ∈ Tg := tg_in (List.mem_append_left _ (List.mem_of_getElem? (i := 60) rfl)) rfl
theorem fl_X4_39 : Cond.fieldLink RX4 39 RX4 "firstWrong" "I" ∈ Tg := tg_in (List.mem_append_left _ (List.mem_of_getElem? (i := 61) rfl)) rfl
theorem ac_long : Cond.arrayClass .long ∈ Tg := tg_in (List.mem_append_left _ (List.mem_of_getElem? (i := 83) rfl)) rfl
theorem kl_X10_22 : Cond.classLink RX10 22 RX8 ∈ Tg := tg_in (List.mem_append_left _ (List.mem_of_getElem? (i := 84) rfl)) rfl
theorem ib_X8 : Cond.instantiable RX8 2 ∈ Tg := tg_in (List.mem_append_left _ (List.mem_of_getElem? (i := 85) rfl)) rfl
theorem im_X8_init : Cond.instanceMethod yX8_init ∈ Tg := tg_in (List.mem_append_left _ (List.mem_of_getElem? (i := 87) rfl)) rfl
theorem co_X8_init : Cond.code yX8_init cX8_init 1 none ∈ Tg := tg_in (List.mem_append_left _ (List.mem_of_getElem? (i := 88) rfl)) rfl
theorem ml_X8_1 : Cond.methodLink RX8 1 objectInit ∈ Tg := tg_in (List.mem_append_left _ (List.mem_of_getElem? (i := 89) rfl)) rfl
theorem fl_X8_9 : Cond.fieldLink RX8 9 RX8 "bytes" "[I" ∈ Tg := tg_in (List.mem_append_left _ (List.mem_of_getElem? (i := 90) rfl)) rfl
theorem fl_X8_13 : Cond.fieldLink RX8 13 RX8 "used" "I" ∈ Tg := tg_in (List.mem_append_left _ (List.mem_of_getElem? (i := 91) rfl)) rfl
theorem fl_X9_34 : Cond.fieldLink RX9 34 RX8 "used" "I" ∈ Tg := tg_in (List.mem_append_left _ (List.mem_of_getElem? (i := 92) rfl)) rfl
theorem fl_X10_188 : Cond.fieldLink RX10 188 RX8 "used" "I" ∈ Tg := tg_in (List.mem_append_left _ (List.mem_of_getElem? (i := 93) rfl)) rfl
theorem ac_int : Cond.arrayClass .int ∈ Tg := tg_in (List.mem_append_left _ (List.mem_of_getElem? (i := 99) rfl)) rfl
theorem kl_X10_29 : Cond.classLink RX10 29 RX5 ∈ Tg := tg_in (List.mem_append_left _ (List.mem_of_getElem? (i := 100) rfl)) rfl
theorem ib_X5 : Cond.instantiable RX5 5 ∈ Tg := tg_in (List.mem_append_left _ (List.mem_of_getElem? (i := 101) rfl)) rfl
theorem im_X5_init : Cond.instanceMethod yX5_init ∈ Tg := tg_in (List.mem_append_left _ (List.mem_of_getElem? (i := 103) rfl)) rfl
theorem co_X5_init : Cond.code yX5_init cX5_init 1 none ∈ Tg := tg_in (List.mem_append_left _ (List.mem_of_getElem? (i := 104) rfl)) rfl
theorem ml_X5_3 : Cond.methodLink RX5 3 objectInit ∈ Tg := tg_in (List.mem_append_left _ (List.mem_of_getElem? (i := 105) rfl)) rfl
theorem kl_X5_9 : Cond.classLink RX5 9 RX9 ∈ Tg := tg_in (List.mem_append_left _ (List.mem_of_getElem? (i := 106) rfl)) rfl
theorem ib_X9 : Cond.instantiable RX9 7 ∈ Tg := tg_in (List.mem_append_left _ (List.mem_of_getElem? (i := 107) rfl)) rfl
theorem im_X9_init : Cond.instanceMethod yX9_init ∈ Tg := tg_in (List.mem_append_left _ (List.mem_of_getElem? (i := 109) rfl)) rfl
theorem co_X9_init : Cond.code yX9_init cX9_init 1 none ∈ Tg := tg_in (List.mem_append_left _ (List.mem_of_getElem? (i := 110) rfl)) rfl
theorem ml_X9_3 : Cond.methodLink RX9 3 objectInit ∈ Tg := tg_in (List.mem_append_left _ (List.mem_of_getElem? (i := 111) rfl)) rfl
theorem fl_X9_11 : Cond.fieldLink RX9 11 RX9 "starts" "[I" ∈ Tg := tg_in (List.mem_append_left _ (List.mem_of_getElem? (i := 112) rfl)) rfl
theorem fl_X9_15 : Cond.fieldLink RX9 15 RX9 "lengths" "[I" ∈ Tg := tg_in (List.mem_append_left _ (List.mem_of_getElem? (i := 113) rfl)) rfl
theorem fl_X9_18 : Cond.fieldLink RX9 18 RX9 "sorts" "[I" ∈ Tg := tg_in (List.mem_append_left _ (List.mem_of_getElem? (i := 114) rfl)) rfl
theorem fl_X9_21 : Cond.fieldLink RX9 21 RX9 "kinds" "[I" ∈ Tg := tg_in (List.mem_append_left _ (List.mem_of_getElem? (i := 115) rfl)) rfl
theorem fl_X9_24 : Cond.fieldLink RX9 24 RX9 "values" "[I" ∈ Tg := tg_in (List.mem_append_left _ (List.mem_of_getElem? (i := 116) rfl)) rfl
theorem fl_X9_27 : Cond.fieldLink RX9 27 RX9 "size" "I" ∈ Tg := tg_in (List.mem_append_left _ (List.mem_of_getElem? (i := 117) rfl)) rfl
theorem fl_X9_31 : Cond.fieldLink RX9 31 RX9 "end" "I" ∈ Tg := tg_in (List.mem_append_left _ (List.mem_of_getElem? (i := 118) rfl)) rfl
theorem fl_X5_12 : Cond.fieldLink RX5 12 RX5 "tokens" "LSandDots$Tokens;" ∈ Tg := tg_in (List.mem_append_left _ (List.mem_of_getElem? (i := 134) rfl)) rfl
theorem fl_X5_18 : Cond.fieldLink RX5 18 RX5 "next" "I" ∈ Tg := tg_in (List.mem_append_left _ (List.mem_of_getElem? (i := 135) rfl)) rfl
theorem fl_X5_22 : Cond.fieldLink RX5 22 RX5 "number" "I" ∈ Tg := tg_in (List.mem_append_left _ (List.mem_of_getElem? (i := 136) rfl)) rfl
theorem fl_X5_25 : Cond.fieldLink RX5 25 RX5 "faultNumber" "I" ∈ Tg := tg_in (List.mem_append_left _ (List.mem_of_getElem? (i := 137) rfl)) rfl
theorem fl_X10_195 : Cond.fieldLink RX10 195 RX5 "faultNumber" "I" ∈ Tg := tg_in (List.mem_append_left _ (List.mem_of_getElem? (i := 138) rfl)) rfl
theorem fl_X5_28 : Cond.fieldLink RX5 28 RX5 "faultPlace" "I" ∈ Tg := tg_in (List.mem_append_left _ (List.mem_of_getElem? (i := 139) rfl)) rfl
theorem fl_X10_199 : Cond.fieldLink RX10 199 RX5 "faultPlace" "I" ∈ Tg := tg_in (List.mem_append_left _ (List.mem_of_getElem? (i := 140) rfl)) rfl
theorem kl_X10_36 : Cond.classLink RX10 36 RX1 ∈ Tg := tg_in (List.mem_append_left _ (List.mem_of_getElem? (i := 152) rfl)) rfl
theorem ib_X1 : Cond.instantiable RX1 5 ∈ Tg := tg_in (List.mem_append_left _ (List.mem_of_getElem? (i := 153) rfl)) rfl
theorem im_X1_init : Cond.instanceMethod yX1_init ∈ Tg := tg_in (List.mem_append_left _ (List.mem_of_getElem? (i := 155) rfl)) rfl
theorem co_X1_init : Cond.code yX1_init cX1_init 1 none ∈ Tg := tg_in (List.mem_append_left _ (List.mem_of_getElem? (i := 156) rfl)) rfl
theorem ml_X1_3 : Cond.methodLink RX1 3 objectInit ∈ Tg := tg_in (List.mem_append_left _ (List.mem_of_getElem? (i := 157) rfl)) rfl
theorem fl_X1_11 : Cond.fieldLink RX1 11 RX1 "charts" "[J" ∈ Tg := tg_in (List.mem_append_left _ (List.mem_of_getElem? (i := 158) rfl)) rfl
theorem fl_X1_15 : Cond.fieldLink RX1 15 RX1 "ends" "[I" ∈ Tg := tg_in (List.mem_append_left _ (List.mem_of_getElem? (i := 159) rfl)) rfl
theorem fl_X1_19 : Cond.fieldLink RX1 19 RX1 "all" "[I" ∈ Tg := tg_in (List.mem_append_left _ (List.mem_of_getElem? (i := 160) rfl)) rfl
theorem fl_X1_22 : Cond.fieldLink RX1 22 RX1 "held" "[I" ∈ Tg := tg_in (List.mem_append_left _ (List.mem_of_getElem? (i := 161) rfl)) rfl
theorem fl_X1_25 : Cond.fieldLink RX1 25 RX1 "size" "I" ∈ Tg := tg_in (List.mem_append_left _ (List.mem_of_getElem? (i := 162) rfl)) rfl
theorem fl_X10_226 : Cond.fieldLink RX10 226 RX1 "size" "I" ∈ Tg := tg_in (List.mem_append_left _ (List.mem_of_getElem? (i := 163) rfl)) rfl
theorem kl_X10_43 : Cond.classLink RX10 43 RX0 ∈ Tg := tg_in (List.mem_append_left _ (List.mem_of_getElem? (i := 175) rfl)) rfl
theorem ib_X0 : Cond.instantiable RX0 2 ∈ Tg := tg_in (List.mem_append_left _ (List.mem_of_getElem? (i := 176) rfl)) rfl
theorem im_X0_init : Cond.instanceMethod yX0_init ∈ Tg := tg_in (List.mem_append_left _ (List.mem_of_getElem? (i := 178) rfl)) rfl
theorem co_X0_init : Cond.code yX0_init cX0_init 1 none ∈ Tg := tg_in (List.mem_append_left _ (List.mem_of_getElem? (i := 179) rfl)) rfl
theorem ml_X0_3 : Cond.methodLink RX0 3 objectInit ∈ Tg := tg_in (List.mem_append_left _ (List.mem_of_getElem? (i := 180) rfl)) rfl
theorem fl_X0_11 : Cond.fieldLink RX0 11 RX0 "begun" "[I" ∈ Tg := tg_in (List.mem_append_left _ (List.mem_of_getElem? (i := 181) rfl)) rfl
theorem fl_X0_15 : Cond.fieldLink RX0 15 RX0 "traced" "I" ∈ Tg := tg_in (List.mem_append_left _ (List.mem_of_getElem? (i := 182) rfl)) rfl
theorem kl_X10_50 : Cond.classLink RX10 50 RX6 ∈ Tg := tg_in (List.mem_append_left _ (List.mem_of_getElem? (i := 188) rfl)) rfl
theorem ib_X6 : Cond.instantiable RX6 6 ∈ Tg := tg_in (List.mem_append_left _ (List.mem_of_getElem? (i := 189) rfl)) rfl
theorem im_X6_init : Cond.instanceMethod yX6_init ∈ Tg := tg_in (List.mem_append_left _ (List.mem_of_getElem? (i := 191) rfl)) rfl
theorem co_X6_init : Cond.code yX6_init cX6_init 1 none ∈ Tg := tg_in (List.mem_append_left _ (List.mem_of_getElem? (i := 192) rfl)) rfl
theorem ml_X6_3 : Cond.methodLink RX6 3 objectInit ∈ Tg := tg_in (List.mem_append_left _ (List.mem_of_getElem? (i := 193) rfl)) rfl
theorem fl_X6_11 : Cond.fieldLink RX6 11 RX6 "words" "[I" ∈ Tg := tg_in (List.mem_append_left _ (List.mem_of_getElem? (i := 194) rfl)) rfl
theorem fl_X6_15 : Cond.fieldLink RX6 15 RX6 "firsts" "[I" ∈ Tg := tg_in (List.mem_append_left _ (List.mem_of_getElem? (i := 195) rfl)) rfl
theorem fl_X6_18 : Cond.fieldLink RX6 18 RX6 "seconds" "[I" ∈ Tg := tg_in (List.mem_append_left _ (List.mem_of_getElem? (i := 196) rfl)) rfl
theorem fl_X6_21 : Cond.fieldLink RX6 21 RX6 "tests" "[I" ∈ Tg := tg_in (List.mem_append_left _ (List.mem_of_getElem? (i := 197) rfl)) rfl
theorem fl_X6_24 : Cond.fieldLink RX6 24 RX6 "numbers" "[I" ∈ Tg := tg_in (List.mem_append_left _ (List.mem_of_getElem? (i := 198) rfl)) rfl
theorem fl_X6_27 : Cond.fieldLink RX6 27 RX6 "size" "I" ∈ Tg := tg_in (List.mem_append_left _ (List.mem_of_getElem? (i := 199) rfl)) rfl
theorem fl_X5_35 : Cond.fieldLink RX5 35 RX6 "size" "I" ∈ Tg := tg_in (List.mem_append_left _ (List.mem_of_getElem? (i := 200) rfl)) rfl
theorem fl_X10_202 : Cond.fieldLink RX10 202 RX6 "size" "I" ∈ Tg := tg_in (List.mem_append_left _ (List.mem_of_getElem? (i := 201) rfl)) rfl
theorem ml_X10_64 : Cond.methodLink RX10 64 yX2_ofCode ∈ Tg := tg_in (List.mem_append_left _ (List.mem_of_getElem? (i := 215) rfl)) rfl
theorem ib_X7 : Cond.instantiable RX7 3 ∈ Tg := tg_in (List.mem_append_left _ (List.mem_of_getElem? (i := 216) rfl)) rfl
theorem im_X7_init : Cond.instanceMethod yX7_init ∈ Tg := tg_in (List.mem_append_left _ (List.mem_of_getElem? (i := 218) rfl)) rfl
theorem co_X7_init : Cond.code yX7_init cX7_init 1 none ∈ Tg := tg_in (List.mem_append_left _ (List.mem_of_getElem? (i := 219) rfl)) rfl
theorem ml_X7_3 : Cond.methodLink RX7 3 objectInit ∈ Tg := tg_in (List.mem_append_left _ (List.mem_of_getElem? (i := 220) rfl)) rfl
theorem fl_X7_11 : Cond.fieldLink RX7 11 RX7 "items" "[I" ∈ Tg := tg_in (List.mem_append_left _ (List.mem_of_getElem? (i := 221) rfl)) rfl
theorem fl_X10_118 : Cond.fieldLink RX10 118 RX7 "items" "[I" ∈ Tg := tg_in (List.mem_append_left _ (List.mem_of_getElem? (i := 222) rfl)) rfl
theorem fl_X7_15 : Cond.fieldLink RX7 15 RX7 "lane" "I" ∈ Tg := tg_in (List.mem_append_left _ (List.mem_of_getElem? (i := 223) rfl)) rfl
theorem fl_X10_111 : Cond.fieldLink RX10 111 RX7 "lane" "I" ∈ Tg := tg_in (List.mem_append_left _ (List.mem_of_getElem? (i := 224) rfl)) rfl
theorem fl_X7_19 : Cond.fieldLink RX7 19 RX7 "size" "I" ∈ Tg := tg_in (List.mem_append_left _ (List.mem_of_getElem? (i := 225) rfl)) rfl
theorem fl_X10_128 : Cond.fieldLink RX10 128 RX7 "size" "I" ∈ Tg := tg_in (List.mem_append_left _ (List.mem_of_getElem? (i := 226) rfl)) rfl
theorem fl_X10_11 : Cond.fieldLink RX10 11 RX10 "sheets" "[LSandDots$Sheet;" ∈ Tg := tg_in (List.mem_append_left _ (List.mem_of_getElem? (i := 234) rfl)) rfl
theorem fl_X10_18 : Cond.fieldLink RX10 18 RX10 "mender" "LSandDots$Mender;" ∈ Tg := tg_in (List.mem_append_left _ (List.mem_of_getElem? (i := 235) rfl)) rfl
theorem fl_X10_25 : Cond.fieldLink RX10 25 RX10 "tape" "LSandDots$Tape;" ∈ Tg := tg_in (List.mem_append_left _ (List.mem_of_getElem? (i := 236) rfl)) rfl
theorem fl_X10_32 : Cond.fieldLink RX10 32 RX10 "reader" "LSandDots$RuleReader;" ∈ Tg := tg_in (List.mem_append_left _ (List.mem_of_getElem? (i := 237) rfl)) rfl
theorem fl_X10_39 : Cond.fieldLink RX10 39 RX10 "book" "LSandDots$Book;" ∈ Tg := tg_in (List.mem_append_left _ (List.mem_of_getElem? (i := 238) rfl)) rfl
theorem fl_X10_46 : Cond.fieldLink RX10 46 RX10 "bodies" "LSandDots$Bodies;" ∈ Tg := tg_in (List.mem_append_left _ (List.mem_of_getElem? (i := 239) rfl)) rfl
theorem fl_X10_53 : Cond.fieldLink RX10 53 RX10 "ruleSet" "LSandDots$RuleSet;" ∈ Tg := tg_in (List.mem_append_right _ (List.mem_append_left _ (List.mem_of_getElem? (i := 0) rfl))) rfl
theorem fl_X10_57 : Cond.fieldLink RX10 57 RX10 "spareSet" "LSandDots$RuleSet;" ∈ Tg := tg_in (List.mem_append_right _ (List.mem_append_left _ (List.mem_of_getElem? (i := 1) rfl))) rfl
theorem fl_X10_60 : Cond.fieldLink RX10 60 RX10 "code" "I" ∈ Tg := tg_in (List.mem_append_right _ (List.mem_append_left _ (List.mem_of_getElem? (i := 2) rfl))) rfl
theorem fl_X10_70 : Cond.fieldLink RX10 70 RX10 "marks" "J" ∈ Tg := tg_in (List.mem_append_right _ (List.mem_append_left _ (List.mem_of_getElem? (i := 3) rfl))) rfl
theorem fl_X10_74 : Cond.fieldLink RX10 74 RX10 "latestFault" "I" ∈ Tg := tg_in (List.mem_append_right _ (List.mem_append_left _ (List.mem_of_getElem? (i := 4) rfl))) rfl
theorem fl_X10_77 : Cond.fieldLink RX10 77 RX10 "latestFinding" "I" ∈ Tg := tg_in (List.mem_append_right _ (List.mem_append_left _ (List.mem_of_getElem? (i := 5) rfl))) rfl
theorem ml_L_13 : Cond.methodLink RL 13 yX10_sheet ∈ Tg := tg_in (List.mem_append_right _ (List.mem_append_left _ (List.mem_of_getElem? (i := 31) rfl))) rfl
theorem im_X10_sheet : Cond.instanceMethod yX10_sheet ∈ Tg := tg_in (List.mem_append_right _ (List.mem_append_left _ (List.mem_of_getElem? (i := 32) rfl))) rfl
theorem se_X10_sheet : Cond.selects RX10 yX10_sheet yX10_sheet ∈ Tg := tg_in (List.mem_append_right _ (List.mem_append_left _ (List.mem_of_getElem? (i := 33) rfl))) rfl
theorem co_X10_sheet : Cond.code yX10_sheet cX10_sheet 4 (some .int) ∈ Tg := tg_in (List.mem_append_right _ (List.mem_append_left _ (List.mem_of_getElem? (i := 34) rfl))) rfl
theorem ml_X10_81 : Cond.methodLink RX10 81 yX10_isSheet ∈ Tg := tg_in (List.mem_append_right _ (List.mem_append_left _ (List.mem_of_getElem? (i := 35) rfl))) rfl
theorem st_X10_isSheet : Cond.static yX10_isSheet ∈ Tg := tg_in (List.mem_append_right _ (List.mem_append_left _ (List.mem_of_getElem? (i := 36) rfl))) rfl
theorem co_X10_isSheet : Cond.code yX10_isSheet cX10_isSheet 1 (some .boolean) ∈ Tg := tg_in (List.mem_append_right _ (List.mem_append_left _ (List.mem_of_getElem? (i := 37) rfl))) rfl
theorem ml_X10_85 : Cond.methodLink RX10 85 yX7_isLane ∈ Tg := tg_in (List.mem_append_right _ (List.mem_append_left _ (List.mem_of_getElem? (i := 38) rfl))) rfl
theorem st_X7_isLane : Cond.static yX7_isLane ∈ Tg := tg_in (List.mem_append_right _ (List.mem_append_left _ (List.mem_of_getElem? (i := 39) rfl))) rfl
theorem co_X7_isLane : Cond.code yX7_isLane cX7_isLane 1 (some .boolean) ∈ Tg := tg_in (List.mem_append_right _ (List.mem_append_left _ (List.mem_of_getElem? (i := 40) rfl))) rfl
theorem cn_X10_88 : Cond.constant RX10 88 (-1000001) ∈ Tg := tg_in (List.mem_append_right _ (List.mem_append_left _ (List.mem_of_getElem? (i := 41) rfl))) rfl
theorem ml_X10_89 : Cond.methodLink RX10 89 yX10_found ∈ Tg := tg_in (List.mem_append_right _ (List.mem_append_left _ (List.mem_of_getElem? (i := 42) rfl))) rfl
theorem im_X10_found : Cond.instanceMethod yX10_found ∈ Tg := tg_in (List.mem_append_right _ (List.mem_append_left _ (List.mem_of_getElem? (i := 44) rfl))) rfl
theorem co_X10_found : Cond.code yX10_found cX10_found 2 (some .int) ∈ Tg := tg_in (List.mem_append_right _ (List.mem_append_left _ (List.mem_of_getElem? (i := 45) rfl))) rfl
theorem cn_X10_266 : Cond.constant RX10 266 (-1000010) ∈ Tg := tg_in (List.mem_append_right _ (List.mem_append_left _ (List.mem_of_getElem? (i := 46) rfl))) rfl
theorem ml_X10_93 : Cond.methodLink RX10 93 yX7_begin ∈ Tg := tg_in (List.mem_append_right _ (List.mem_append_left _ (List.mem_of_getElem? (i := 47) rfl))) rfl
theorem im_X7_begin : Cond.instanceMethod yX7_begin ∈ Tg := tg_in (List.mem_append_right _ (List.mem_append_left _ (List.mem_of_getElem? (i := 48) rfl))) rfl
theorem se_X7_begin : Cond.selects RX7 yX7_begin yX7_begin ∈ Tg := tg_in (List.mem_append_right _ (List.mem_append_left _ (List.mem_of_getElem? (i := 49) rfl))) rfl
theorem co_X7_begin : Cond.code yX7_begin cX7_begin 4 none ∈ Tg := tg_in (List.mem_append_right _ (List.mem_append_left _ (List.mem_of_getElem? (i := 50) rfl))) rfl
theorem ml_X10_97 : Cond.methodLink RX10 97 yX10_done ∈ Tg := tg_in (List.mem_append_right _ (List.mem_append_left _ (List.mem_of_getElem? (i := 51) rfl))) rfl
theorem im_X10_done : Cond.instanceMethod yX10_done ∈ Tg := tg_in (List.mem_append_right _ (List.mem_append_left _ (List.mem_of_getElem? (i := 53) rfl))) rfl
theorem co_X10_done : Cond.code yX10_done cX10_done 2 (some .int) ∈ Tg := tg_in (List.mem_append_right _ (List.mem_append_left _ (List.mem_of_getElem? (i := 54) rfl))) rfl
theorem ml_L_18 : Cond.methodLink RL 18 yX10_set ∈ Tg := tg_in (List.mem_append_right _ (List.mem_append_left _ (List.mem_of_getElem? (i := 55) rfl))) rfl
theorem im_X10_set : Cond.instanceMethod yX10_set ∈ Tg := tg_in (List.mem_append_right _ (List.mem_append_left _ (List.mem_of_getElem? (i := 56) rfl))) rfl
theorem se_X10_set : Cond.selects RX10 yX10_set yX10_set ∈ Tg := tg_in (List.mem_append_right _ (List.mem_append_left _ (List.mem_of_getElem? (i := 57) rfl))) rfl
theorem co_X10_set : Cond.code yX10_set cX10_set 5 (some .int) ∈ Tg := tg_in (List.mem_append_right _ (List.mem_append_left _ (List.mem_of_getElem? (i := 58) rfl))) rfl
theorem ml_X10_100 : Cond.methodLink RX10 100 yX7_findingOf ∈ Tg := tg_in (List.mem_append_right _ (List.mem_append_left _ (List.mem_of_getElem? (i := 59) rfl))) rfl
theorem im_X7_findingOf : Cond.instanceMethod yX7_findingOf ∈ Tg := tg_in (List.mem_append_right _ (List.mem_append_left _ (List.mem_of_getElem? (i := 60) rfl))) rfl
theorem se_X7_findingOf : Cond.selects RX7 yX7_findingOf yX7_findingOf ∈ Tg := tg_in (List.mem_append_right _ (List.mem_append_left _ (List.mem_of_getElem? (i := 61) rfl))) rfl
theorem co_X7_findingOf : Cond.code yX7_findingOf cX7_findingOf 3 (some .int) ∈ Tg := tg_in (List.mem_append_right _ (List.mem_append_left _ (List.mem_of_getElem? (i := 62) rfl))) rfl
theorem ml_X7_22 : Cond.methodLink RX7 22 yX7_isMissing ∈ Tg := tg_in (List.mem_append_right _ (List.mem_append_left _ (List.mem_of_getElem? (i := 63) rfl))) rfl
theorem im_X7_isMissing : Cond.instanceMethod yX7_isMissing ∈ Tg := tg_in (List.mem_append_right _ (List.mem_append_left _ (List.mem_of_getElem? (i := 64) rfl))) rfl
theorem se_X7_isMissing : Cond.selects RX7 yX7_isMissing yX7_isMissing ∈ Tg := tg_in (List.mem_append_right _ (List.mem_append_left _ (List.mem_of_getElem? (i := 65) rfl))) rfl
theorem co_X7_isMissing : Cond.code yX7_isMissing cX7_isMissing 1 (some .boolean) ∈ Tg := tg_in (List.mem_append_right _ (List.mem_append_left _ (List.mem_of_getElem? (i := 66) rfl))) rfl
theorem ml_X7_26 : Cond.methodLink RX7 26 yX7_hasItems ∈ Tg := tg_in (List.mem_append_right _ (List.mem_append_left _ (List.mem_of_getElem? (i := 67) rfl))) rfl
theorem im_X7_hasItems : Cond.instanceMethod yX7_hasItems ∈ Tg := tg_in (List.mem_append_right _ (List.mem_append_left _ (List.mem_of_getElem? (i := 68) rfl))) rfl
theorem se_X7_hasItems : Cond.selects RX7 yX7_hasItems yX7_hasItems ∈ Tg := tg_in (List.mem_append_right _ (List.mem_append_left _ (List.mem_of_getElem? (i := 69) rfl))) rfl
theorem co_X7_hasItems : Cond.code yX7_hasItems cX7_hasItems 3 (some .boolean) ∈ Tg := tg_in (List.mem_append_right _ (List.mem_append_left _ (List.mem_of_getElem? (i := 70) rfl))) rfl
theorem ml_X10_104 : Cond.methodLink RX10 104 yX7_put ∈ Tg := tg_in (List.mem_append_right _ (List.mem_append_left _ (List.mem_of_getElem? (i := 71) rfl))) rfl
theorem im_X7_put : Cond.instanceMethod yX7_put ∈ Tg := tg_in (List.mem_append_right _ (List.mem_append_left _ (List.mem_of_getElem? (i := 72) rfl))) rfl
theorem se_X7_put : Cond.selects RX7 yX7_put yX7_put ∈ Tg := tg_in (List.mem_append_right _ (List.mem_append_left _ (List.mem_of_getElem? (i := 73) rfl))) rfl
theorem co_X7_put : Cond.code yX7_put cX7_put 3 (some .int) ∈ Tg := tg_in (List.mem_append_right _ (List.mem_append_left _ (List.mem_of_getElem? (i := 74) rfl))) rfl
theorem cn_X7_30 : Cond.constant RX7 30 (-1000001) ∈ Tg := tg_in (List.mem_append_right _ (List.mem_append_left _ (List.mem_of_getElem? (i := 75) rfl))) rfl
theorem ml_X7_31 : Cond.methodLink RX7 31 yX7_narrowed ∈ Tg := tg_in (List.mem_append_right _ (List.mem_append_left _ (List.mem_of_getElem? (i := 76) rfl))) rfl
theorem im_X7_narrowed : Cond.instanceMethod yX7_narrowed ∈ Tg := tg_in (List.mem_append_right _ (List.mem_append_left _ (List.mem_of_getElem? (i := 78) rfl))) rfl
theorem co_X7_narrowed : Cond.code yX7_narrowed cX7_narrowed 2 (some .int) ∈ Tg := tg_in (List.mem_append_right _ (List.mem_append_left _ (List.mem_of_getElem? (i := 79) rfl))) rfl
theorem ml_L_22 : Cond.methodLink RL 22 yX10_copy ∈ Tg := tg_in (List.mem_append_right _ (List.mem_append_left _ (List.mem_of_getElem? (i := 80) rfl))) rfl
theorem im_X10_copy : Cond.instanceMethod yX10_copy ∈ Tg := tg_in (List.mem_append_right _ (List.mem_append_left _ (List.mem_of_getElem? (i := 81) rfl))) rfl
theorem se_X10_copy : Cond.selects RX10 yX10_copy yX10_copy ∈ Tg := tg_in (List.mem_append_right _ (List.mem_append_left _ (List.mem_of_getElem? (i := 82) rfl))) rfl
theorem co_X10_copy : Cond.code yX10_copy cX10_copy 8 (some .int) ∈ Tg := tg_in (List.mem_append_right _ (List.mem_append_left _ (List.mem_of_getElem? (i := 83) rfl))) rfl
theorem ml_X10_107 : Cond.methodLink RX10 107 yX7_isMissing ∈ Tg := tg_in (List.mem_append_right _ (List.mem_append_left _ (List.mem_of_getElem? (i := 84) rfl))) rfl
theorem ml_X10_114 : Cond.methodLink RX10 114 yX7_hasItems ∈ Tg := tg_in (List.mem_append_right _ (List.mem_append_left _ (List.mem_of_getElem? (i := 85) rfl))) rfl
theorem ml_X10_122 : Cond.methodLink RX10 122 arraycopyName ∈ Tg := tg_in (List.mem_append_right _ (List.mem_append_left _ (List.mem_of_getElem? (i := 86) rfl))) rfl
theorem st_arraycopyName : Cond.static arraycopyName ∈ Tg := tg_in (List.mem_append_right _ (List.mem_append_left _ (List.mem_of_getElem? (i := 87) rfl))) rfl
theorem na_arraycopy : Cond.native arraycopyName ∈ Tg := tg_in (List.mem_append_right _ (List.mem_append_left _ (List.mem_of_getElem? (i := 88) rfl))) rfl
theorem ml_L_27 : Cond.methodLink RL 27 yX10_drop ∈ Tg := tg_in (List.mem_append_right _ (List.mem_append_left _ (List.mem_of_getElem? (i := 89) rfl))) rfl
theorem im_X10_drop : Cond.instanceMethod yX10_drop ∈ Tg := tg_in (List.mem_append_right _ (List.mem_append_left _ (List.mem_of_getElem? (i := 90) rfl))) rfl
theorem se_X10_drop : Cond.selects RX10 yX10_drop yX10_drop ∈ Tg := tg_in (List.mem_append_right _ (List.mem_append_left _ (List.mem_of_getElem? (i := 91) rfl))) rfl
theorem co_X10_drop : Cond.code yX10_drop cX10_drop 3 (some .int) ∈ Tg := tg_in (List.mem_append_right _ (List.mem_append_left _ (List.mem_of_getElem? (i := 92) rfl))) rfl
theorem ml_X10_131 : Cond.methodLink RX10 131 yX7_forget ∈ Tg := tg_in (List.mem_append_right _ (List.mem_append_left _ (List.mem_of_getElem? (i := 93) rfl))) rfl
theorem im_X7_forget : Cond.instanceMethod yX7_forget ∈ Tg := tg_in (List.mem_append_right _ (List.mem_append_left _ (List.mem_of_getElem? (i := 94) rfl))) rfl
theorem se_X7_forget : Cond.selects RX7 yX7_forget yX7_forget ∈ Tg := tg_in (List.mem_append_right _ (List.mem_append_left _ (List.mem_of_getElem? (i := 95) rfl))) rfl
theorem co_X7_forget : Cond.code yX7_forget cX7_forget 1 none ∈ Tg := tg_in (List.mem_append_right _ (List.mem_append_left _ (List.mem_of_getElem? (i := 96) rfl))) rfl
theorem ml_L_32 : Cond.methodLink RL 32 yX10_cast ∈ Tg := tg_in (List.mem_append_right _ (List.mem_append_left _ (List.mem_of_getElem? (i := 97) rfl))) rfl
theorem im_X10_cast : Cond.instanceMethod yX10_cast ∈ Tg := tg_in (List.mem_append_right _ (List.mem_append_left _ (List.mem_of_getElem? (i := 98) rfl))) rfl
theorem se_X10_cast : Cond.selects RX10 yX10_cast yX10_cast ∈ Tg := tg_in (List.mem_append_right _ (List.mem_append_left _ (List.mem_of_getElem? (i := 99) rfl))) rfl
theorem co_X10_cast : Cond.code yX10_cast cX10_cast 4 (some .int) ∈ Tg := tg_in (List.mem_append_right _ (List.mem_append_left _ (List.mem_of_getElem? (i := 100) rfl))) rfl
theorem cn_X10_134 : Cond.constant RX10 134 (2147483647) ∈ Tg := tg_in (List.mem_append_right _ (List.mem_append_left _ (List.mem_of_getElem? (i := 101) rfl))) rfl
theorem ml_X10_135 : Cond.methodLink RX10 135 yX7_areWithin ∈ Tg := tg_in (List.mem_append_right _ (List.mem_append_left _ (List.mem_of_getElem? (i := 102) rfl))) rfl
theorem im_X7_areWithin : Cond.instanceMethod yX7_areWithin ∈ Tg := tg_in (List.mem_append_right _ (List.mem_append_left _ (List.mem_of_getElem? (i := 103) rfl))) rfl
theorem se_X7_areWithin : Cond.selects RX7 yX7_areWithin yX7_areWithin ∈ Tg := tg_in (List.mem_append_right _ (List.mem_append_left _ (List.mem_of_getElem? (i := 104) rfl))) rfl
theorem co_X7_areWithin : Cond.code yX7_areWithin cX7_areWithin 6 (some .boolean) ∈ Tg := tg_in (List.mem_append_right _ (List.mem_append_left _ (List.mem_of_getElem? (i := 105) rfl))) rfl
theorem ml_X10_139 : Cond.methodLink RX10 139 yX7_oddOnes ∈ Tg := tg_in (List.mem_append_right _ (List.mem_append_left _ (List.mem_of_getElem? (i := 106) rfl))) rfl
theorem im_X7_oddOnes : Cond.instanceMethod yX7_oddOnes ∈ Tg := tg_in (List.mem_append_right _ (List.mem_append_left _ (List.mem_of_getElem? (i := 107) rfl))) rfl
theorem se_X7_oddOnes : Cond.selects RX7 yX7_oddOnes yX7_oddOnes ∈ Tg := tg_in (List.mem_append_right _ (List.mem_append_left _ (List.mem_of_getElem? (i := 108) rfl))) rfl
theorem co_X7_oddOnes : Cond.code yX7_oddOnes cX7_oddOnes 4 (some .int) ∈ Tg := tg_in (List.mem_append_right _ (List.mem_append_left _ (List.mem_of_getElem? (i := 109) rfl))) rfl
theorem ml_X10_142 : Cond.methodLink RX10 142 yX10_tellChart ∈ Tg := tg_in (List.mem_append_right _ (List.mem_append_left _ (List.mem_of_getElem? (i := 110) rfl))) rfl
theorem im_X10_tellChart : Cond.instanceMethod yX10_tellChart ∈ Tg := tg_in (List.mem_append_right _ (List.mem_append_left _ (List.mem_of_getElem? (i := 112) rfl))) rfl
theorem co_X10_tellChart : Cond.code yX10_tellChart cX10_tellChart 2 none ∈ Tg := tg_in (List.mem_append_right _ (List.mem_append_left _ (List.mem_of_getElem? (i := 113) rfl))) rfl
theorem ml_L_37 : Cond.methodLink RL 37 yX10_chart ∈ Tg := tg_in (List.mem_append_right _ (List.mem_append_left _ (List.mem_of_getElem? (i := 114) rfl))) rfl
theorem im_X10_chart : Cond.instanceMethod yX10_chart ∈ Tg := tg_in (List.mem_append_right _ (List.mem_append_left _ (List.mem_of_getElem? (i := 115) rfl))) rfl
theorem se_X10_chart : Cond.selects RX10 yX10_chart yX10_chart ∈ Tg := tg_in (List.mem_append_right _ (List.mem_append_left _ (List.mem_of_getElem? (i := 116) rfl))) rfl
theorem co_X10_chart : Cond.code yX10_chart cX10_chart 3 (some .int) ∈ Tg := tg_in (List.mem_append_right _ (List.mem_append_left _ (List.mem_of_getElem? (i := 117) rfl))) rfl
theorem cn_X10_146 : Cond.constant RX10 146 (65536) ∈ Tg := tg_in (List.mem_append_right _ (List.mem_append_left _ (List.mem_of_getElem? (i := 118) rfl))) rfl
theorem ml_L_41 : Cond.methodLink RL 41 yX10_at ∈ Tg := tg_in (List.mem_append_right _ (List.mem_append_left _ (List.mem_of_getElem? (i := 119) rfl))) rfl
theorem im_X10_at : Cond.instanceMethod yX10_at ∈ Tg := tg_in (List.mem_append_right _ (List.mem_append_left _ (List.mem_of_getElem? (i := 120) rfl))) rfl
theorem se_X10_at : Cond.selects RX10 yX10_at yX10_at ∈ Tg := tg_in (List.mem_append_right _ (List.mem_append_left _ (List.mem_of_getElem? (i := 121) rfl))) rfl
theorem co_X10_at : Cond.code yX10_at cX10_at 2 (some .int) ∈ Tg := tg_in (List.mem_append_right _ (List.mem_append_left _ (List.mem_of_getElem? (i := 122) rfl))) rfl
theorem ml_X10_147 : Cond.methodLink RX10 147 yX10_isPlace ∈ Tg := tg_in (List.mem_append_right _ (List.mem_append_left _ (List.mem_of_getElem? (i := 123) rfl))) rfl
theorem st_X10_isPlace : Cond.static yX10_isPlace ∈ Tg := tg_in (List.mem_append_right _ (List.mem_append_left _ (List.mem_of_getElem? (i := 124) rfl))) rfl
theorem co_X10_isPlace : Cond.code yX10_isPlace cX10_isPlace 1 (some .boolean) ∈ Tg := tg_in (List.mem_append_right _ (List.mem_append_left _ (List.mem_of_getElem? (i := 125) rfl))) rfl
theorem ml_X10_150 : Cond.methodLink RX10 150 yX2_figureAt ∈ Tg := tg_in (List.mem_append_right _ (List.mem_append_left _ (List.mem_of_getElem? (i := 126) rfl))) rfl
theorem ml_L_45 : Cond.methodLink RL 45 yX10_add ∈ Tg := tg_in (List.mem_append_right _ (List.mem_append_left _ (List.mem_of_getElem? (i := 127) rfl))) rfl
theorem im_X10_add : Cond.instanceMethod yX10_add ∈ Tg := tg_in (List.mem_append_right _ (List.mem_append_left _ (List.mem_of_getElem? (i := 128) rfl))) rfl
theorem se_X10_add : Cond.selects RX10 yX10_add yX10_add ∈ Tg := tg_in (List.mem_append_right _ (List.mem_append_left _ (List.mem_of_getElem? (i := 129) rfl))) rfl
theorem co_X10_add : Cond.code yX10_add cX10_add 3 (some .int) ∈ Tg := tg_in (List.mem_append_right _ (List.mem_append_left _ (List.mem_of_getElem? (i := 130) rfl))) rfl
theorem ml_X10_154 : Cond.methodLink RX10 154 yX3_isFigure ∈ Tg := tg_in (List.mem_append_right _ (List.mem_append_left _ (List.mem_of_getElem? (i := 131) rfl))) rfl
theorem st_X3_isFigure : Cond.static yX3_isFigure ∈ Tg := tg_in (List.mem_append_right _ (List.mem_append_left _ (List.mem_of_getElem? (i := 132) rfl))) rfl
theorem co_X3_isFigure : Cond.code yX3_isFigure cX3_isFigure 1 (some .boolean) ∈ Tg := tg_in (List.mem_append_right _ (List.mem_append_left _ (List.mem_of_getElem? (i := 133) rfl))) rfl
theorem ml_L_49 : Cond.methodLink RL 49 yX10_seen ∈ Tg := tg_in (List.mem_append_right _ (List.mem_append_left _ (List.mem_of_getElem? (i := 134) rfl))) rfl
theorem im_X10_seen : Cond.instanceMethod yX10_seen ∈ Tg := tg_in (List.mem_append_right _ (List.mem_append_left _ (List.mem_of_getElem? (i := 135) rfl))) rfl
theorem se_X10_seen : Cond.selects RX10 yX10_seen yX10_seen ∈ Tg := tg_in (List.mem_append_right _ (List.mem_append_left _ (List.mem_of_getElem? (i := 136) rfl))) rfl
theorem co_X10_seen : Cond.code yX10_seen cX10_seen 2 (some .int) ∈ Tg := tg_in (List.mem_append_right _ (List.mem_append_left _ (List.mem_of_getElem? (i := 137) rfl))) rfl
theorem ml_X10_159 : Cond.methodLink RX10 159 yX2_timesSeen ∈ Tg := tg_in (List.mem_append_right _ (List.mem_append_left _ (List.mem_of_getElem? (i := 138) rfl))) rfl
theorem st_X2_timesSeen : Cond.static yX2_timesSeen ∈ Tg := tg_in (List.mem_append_right _ (List.mem_append_left _ (List.mem_of_getElem? (i := 139) rfl))) rfl
theorem co_X2_timesSeen : Cond.code yX2_timesSeen cX2_timesSeen 7 (some .int) ∈ Tg := tg_in (List.mem_append_right _ (List.mem_append_left _ (List.mem_of_getElem? (i := 140) rfl))) rfl
theorem ml_L_53 : Cond.methodLink RL 53 yX10_point ∈ Tg := tg_in (List.mem_append_right _ (List.mem_append_left _ (List.mem_of_getElem? (i := 141) rfl))) rfl
theorem im_X10_point : Cond.instanceMethod yX10_point ∈ Tg := tg_in (List.mem_append_right _ (List.mem_append_left _ (List.mem_of_getElem? (i := 142) rfl))) rfl
theorem se_X10_point : Cond.selects RX10 yX10_point yX10_point ∈ Tg := tg_in (List.mem_append_right _ (List.mem_append_left _ (List.mem_of_getElem? (i := 143) rfl))) rfl
theorem co_X10_point : Cond.code yX10_point cX10_point 1 (some .int) ∈ Tg := tg_in (List.mem_append_right _ (List.mem_append_left _ (List.mem_of_getElem? (i := 144) rfl))) rfl
theorem ml_X10_163 : Cond.methodLink RX10 163 yX2_endsOfPoint ∈ Tg := tg_in (List.mem_append_right _ (List.mem_append_left _ (List.mem_of_getElem? (i := 145) rfl))) rfl
theorem st_X2_endsOfPoint : Cond.static yX2_endsOfPoint ∈ Tg := tg_in (List.mem_append_right _ (List.mem_append_left _ (List.mem_of_getElem? (i := 146) rfl))) rfl
theorem co_X2_endsOfPoint : Cond.code yX2_endsOfPoint cX2_endsOfPoint 6 (some .int) ∈ Tg := tg_in (List.mem_append_right _ (List.mem_append_left _ (List.mem_of_getElem? (i := 147) rfl))) rfl
theorem ml_X2_30 : Cond.methodLink RX2 30 yX2_wayUp ∈ Tg := tg_in (List.mem_append_right _ (List.mem_append_left _ (List.mem_of_getElem? (i := 148) rfl))) rfl
theorem st_X2_wayUp : Cond.static yX2_wayUp ∈ Tg := tg_in (List.mem_append_right _ (List.mem_append_left _ (List.mem_of_getElem? (i := 149) rfl))) rfl
theorem co_X2_wayUp : Cond.code yX2_wayUp cX2_wayUp 5 (some .int) ∈ Tg := tg_in (List.mem_append_right _ (List.mem_append_left _ (List.mem_of_getElem? (i := 150) rfl))) rfl
theorem ml_L_58 : Cond.methodLink RL 58 yX10_drawing ∈ Tg := tg_in (List.mem_append_right _ (List.mem_append_left _ (List.mem_of_getElem? (i := 151) rfl))) rfl
theorem im_X10_drawing : Cond.instanceMethod yX10_drawing ∈ Tg := tg_in (List.mem_append_right _ (List.mem_append_left _ (List.mem_of_getElem? (i := 152) rfl))) rfl
theorem se_X10_drawing : Cond.selects RX10 yX10_drawing yX10_drawing ∈ Tg := tg_in (List.mem_append_right _ (List.mem_append_left _ (List.mem_of_getElem? (i := 153) rfl))) rfl
theorem co_X10_drawing : Cond.code yX10_drawing cX10_drawing 6 (some .int) ∈ Tg := tg_in (List.mem_append_right _ (List.mem_append_left _ (List.mem_of_getElem? (i := 154) rfl))) rfl
theorem ml_X10_167 : Cond.methodLink RX10 167 yX7_drawnRows ∈ Tg := tg_in (List.mem_append_right _ (List.mem_append_left _ (List.mem_of_getElem? (i := 155) rfl))) rfl
theorem im_X7_drawnRows : Cond.instanceMethod yX7_drawnRows ∈ Tg := tg_in (List.mem_append_right _ (List.mem_append_left _ (List.mem_of_getElem? (i := 156) rfl))) rfl
theorem se_X7_drawnRows : Cond.selects RX7 yX7_drawnRows yX7_drawnRows ∈ Tg := tg_in (List.mem_append_right _ (List.mem_append_left _ (List.mem_of_getElem? (i := 157) rfl))) rfl
theorem co_X7_drawnRows : Cond.code yX7_drawnRows cX7_drawnRows 5 (some .long) ∈ Tg := tg_in (List.mem_append_right _ (List.mem_append_left _ (List.mem_of_getElem? (i := 158) rfl))) rfl
theorem ml_X7_35 : Cond.methodLink RX7 35 yX2_withFigure ∈ Tg := tg_in (List.mem_append_right _ (List.mem_append_left _ (List.mem_of_getElem? (i := 159) rfl))) rfl
theorem ml_X10_170 : Cond.methodLink RX10 170 yX7_untornRows ∈ Tg := tg_in (List.mem_append_right _ (List.mem_append_left _ (List.mem_of_getElem? (i := 160) rfl))) rfl
theorem im_X7_untornRows : Cond.instanceMethod yX7_untornRows ∈ Tg := tg_in (List.mem_append_right _ (List.mem_append_left _ (List.mem_of_getElem? (i := 161) rfl))) rfl
theorem se_X7_untornRows : Cond.selects RX7 yX7_untornRows yX7_untornRows ∈ Tg := tg_in (List.mem_append_right _ (List.mem_append_left _ (List.mem_of_getElem? (i := 162) rfl))) rfl
theorem co_X7_untornRows : Cond.code yX7_untornRows cX7_untornRows 5 (some .long) ∈ Tg := tg_in (List.mem_append_right _ (List.mem_append_left _ (List.mem_of_getElem? (i := 163) rfl))) rfl
theorem ml_X10_173 : Cond.methodLink RX10 173 yX4_lookAt ∈ Tg := tg_in (List.mem_append_right _ (List.mem_append_left _ (List.mem_of_getElem? (i := 164) rfl))) rfl
theorem im_X4_lookAt : Cond.instanceMethod yX4_lookAt ∈ Tg := tg_in (List.mem_append_right _ (List.mem_append_left _ (List.mem_of_getElem? (i := 165) rfl))) rfl
theorem se_X4_lookAt : Cond.selects RX4 yX4_lookAt yX4_lookAt ∈ Tg := tg_in (List.mem_append_right _ (List.mem_append_left _ (List.mem_of_getElem? (i := 166) rfl))) rfl
theorem co_X4_lookAt : Cond.code yX4_lookAt cX4_lookAt 8 none ∈ Tg := tg_in (List.mem_append_right _ (List.mem_append_left _ (List.mem_of_getElem? (i := 167) rfl))) rfl
theorem ml_X4_57 : Cond.methodLink RX4 57 yX4_mayTellMore ∈ Tg := tg_in (List.mem_append_right _ (List.mem_append_left _ (List.mem_of_getElem? (i := 168) rfl))) rfl
theorem im_X4_mayTellMore : Cond.instanceMethod yX4_mayTellMore ∈ Tg := tg_in (List.mem_append_right _ (List.mem_append_left _ (List.mem_of_getElem? (i := 170) rfl))) rfl
theorem co_X4_mayTellMore : Cond.code yX4_mayTellMore cX4_mayTellMore 3 (some .boolean) ∈ Tg := tg_in (List.mem_append_right _ (List.mem_append_left _ (List.mem_of_getElem? (i := 171) rfl))) rfl
theorem ml_X4_65 : Cond.methodLink RX4 65 yJ13_bitCount_95d88 ∈ Tg := tg_in (List.mem_append_right _ (List.mem_append_left _ (List.mem_of_getElem? (i := 172) rfl))) rfl
theorem st_J13_bitCount_95d88 : Cond.static yJ13_bitCount_95d88 ∈ Tg := tg_in (List.mem_append_right _ (List.mem_append_left _ (List.mem_of_getElem? (i := 173) rfl))) rfl
theorem co_J13_bitCount_95d88 : Cond.code yJ13_bitCount_95d88 cJ13_bitCount_95d88 2 (some .int) ∈ Tg := tg_in (List.mem_append_right _ (List.mem_append_left _ (List.mem_of_getElem? (i := 174) rfl))) rfl
theorem cn_J13_314 : Cond.constantLong RJ13 314 (6148914691236517205) ∈ Tg := tg_in (List.mem_append_right _ (List.mem_append_left _ (List.mem_of_getElem? (i := 175) rfl))) rfl
theorem cn_J13_316 : Cond.constantLong RJ13 316 (3689348814741910323) ∈ Tg := tg_in (List.mem_append_right _ (List.mem_append_left _ (List.mem_of_getElem? (i := 176) rfl))) rfl
theorem cn_J13_318 : Cond.constantLong RJ13 318 (1085102592571150095) ∈ Tg := tg_in (List.mem_append_right _ (List.mem_append_left _ (List.mem_of_getElem? (i := 177) rfl))) rfl
theorem ml_X4_71 : Cond.methodLink RX4 71 yX4_agreesUpTo ∈ Tg := tg_in (List.mem_append_right _ (List.mem_append_left _ (List.mem_of_getElem? (i := 178) rfl))) rfl
theorem st_X4_agreesUpTo : Cond.static yX4_agreesUpTo ∈ Tg := tg_in (List.mem_append_right _ (List.mem_append_left _ (List.mem_of_getElem? (i := 179) rfl))) rfl
theorem co_X4_agreesUpTo : Cond.code yX4_agreesUpTo cX4_agreesUpTo 3 (some .boolean) ∈ Tg := tg_in (List.mem_append_right _ (List.mem_append_left _ (List.mem_of_getElem? (i := 180) rfl))) rfl
theorem ml_X4_61 : Cond.methodLink RX4 61 yX4_lookThrough ∈ Tg := tg_in (List.mem_append_right _ (List.mem_append_left _ (List.mem_of_getElem? (i := 181) rfl))) rfl
theorem im_X4_lookThrough : Cond.instanceMethod yX4_lookThrough ∈ Tg := tg_in (List.mem_append_right _ (List.mem_append_left _ (List.mem_of_getElem? (i := 183) rfl))) rfl
theorem co_X4_lookThrough : Cond.code yX4_lookThrough cX4_lookThrough 8 none ∈ Tg := tg_in (List.mem_append_right _ (List.mem_append_left _ (List.mem_of_getElem? (i := 184) rfl))) rfl
theorem ml_X10_177 : Cond.methodLink RX10 177 yX4_answerTo ∈ Tg := tg_in (List.mem_append_right _ (List.mem_append_left _ (List.mem_of_getElem? (i := 185) rfl))) rfl
theorem im_X4_answerTo : Cond.instanceMethod yX4_answerTo ∈ Tg := tg_in (List.mem_append_right _ (List.mem_append_left _ (List.mem_of_getElem? (i := 186) rfl))) rfl
theorem se_X4_answerTo : Cond.selects RX4 yX4_answerTo yX4_answerTo ∈ Tg := tg_in (List.mem_append_right _ (List.mem_append_left _ (List.mem_of_getElem? (i := 187) rfl))) rfl
theorem co_X4_answerTo : Cond.code yX4_answerTo cX4_answerTo 2 (some .int) ∈ Tg := tg_in (List.mem_append_right _ (List.mem_append_left _ (List.mem_of_getElem? (i := 188) rfl))) rfl
theorem cn_X4_75 : Cond.constant RX4 75 (-1000000) ∈ Tg := tg_in (List.mem_append_right _ (List.mem_append_left _ (List.mem_of_getElem? (i := 189) rfl))) rfl
theorem cn_X4_76 : Cond.constant RX4 76 (-1000001) ∈ Tg := tg_in (List.mem_append_right _ (List.mem_append_left _ (List.mem_of_getElem? (i := 190) rfl))) rfl
theorem ml_L_64 : Cond.methodLink RL 64 yX10_feed ∈ Tg := tg_in (List.mem_append_right _ (List.mem_append_left _ (List.mem_of_getElem? (i := 191) rfl))) rfl
theorem im_X10_feed : Cond.instanceMethod yX10_feed ∈ Tg := tg_in (List.mem_append_right _ (List.mem_append_left _ (List.mem_of_getElem? (i := 192) rfl))) rfl
theorem se_X10_feed : Cond.selects RX10 yX10_feed yX10_feed ∈ Tg := tg_in (List.mem_append_right _ (List.mem_append_left _ (List.mem_of_getElem? (i := 193) rfl))) rfl
theorem co_X10_feed : Cond.code yX10_feed cX10_feed 4 (some .int) ∈ Tg := tg_in (List.mem_append_right _ (List.mem_append_left _ (List.mem_of_getElem? (i := 194) rfl))) rfl
theorem ml_X10_180 : Cond.methodLink RX10 180 yX8_hasRoom ∈ Tg := tg_in (List.mem_append_right _ (List.mem_append_left _ (List.mem_of_getElem? (i := 195) rfl))) rfl
theorem im_X8_hasRoom : Cond.instanceMethod yX8_hasRoom ∈ Tg := tg_in (List.mem_append_right _ (List.mem_append_left _ (List.mem_of_getElem? (i := 196) rfl))) rfl
theorem se_X8_hasRoom : Cond.selects RX8 yX8_hasRoom yX8_hasRoom ∈ Tg := tg_in (List.mem_append_right _ (List.mem_append_left _ (List.mem_of_getElem? (i := 197) rfl))) rfl
theorem co_X8_hasRoom : Cond.code yX8_hasRoom cX8_hasRoom 2 (some .boolean) ∈ Tg := tg_in (List.mem_append_right _ (List.mem_append_left _ (List.mem_of_getElem? (i := 198) rfl))) rfl
theorem cn_X10_183 : Cond.constant RX10 183 (-1000003) ∈ Tg := tg_in (List.mem_append_right _ (List.mem_append_left _ (List.mem_of_getElem? (i := 199) rfl))) rfl
theorem ml_X10_184 : Cond.methodLink RX10 184 yX8_append ∈ Tg := tg_in (List.mem_append_right _ (List.mem_append_left _ (List.mem_of_getElem? (i := 200) rfl))) rfl
theorem im_X8_append : Cond.instanceMethod yX8_append ∈ Tg := tg_in (List.mem_append_right _ (List.mem_append_left _ (List.mem_of_getElem? (i := 201) rfl))) rfl
theorem se_X8_append : Cond.selects RX8 yX8_append yX8_append ∈ Tg := tg_in (List.mem_append_right _ (List.mem_append_left _ (List.mem_of_getElem? (i := 202) rfl))) rfl
theorem co_X8_append : Cond.code yX8_append cX8_append 5 none ∈ Tg := tg_in (List.mem_append_right _ (List.mem_append_left _ (List.mem_of_getElem? (i := 203) rfl))) rfl
theorem ml_L_69 : Cond.methodLink RL 69 yX10_rules ∈ Tg := tg_in (List.mem_append_right _ (List.mem_append_left _ (List.mem_of_getElem? (i := 204) rfl))) rfl
theorem im_X10_rules : Cond.instanceMethod yX10_rules ∈ Tg := tg_in (List.mem_append_right _ (List.mem_append_left _ (List.mem_of_getElem? (i := 205) rfl))) rfl
theorem se_X10_rules : Cond.selects RX10 yX10_rules yX10_rules ∈ Tg := tg_in (List.mem_append_right _ (List.mem_append_left _ (List.mem_of_getElem? (i := 206) rfl))) rfl
theorem co_X10_rules : Cond.code yX10_rules cX10_rules 3 (some .int) ∈ Tg := tg_in (List.mem_append_right _ (List.mem_append_left _ (List.mem_of_getElem? (i := 207) rfl))) rfl
theorem ml_X10_191 : Cond.methodLink RX10 191 yX5_readInto ∈ Tg := tg_in (List.mem_append_right _ (List.mem_append_left _ (List.mem_of_getElem? (i := 208) rfl))) rfl
theorem im_X5_readInto : Cond.instanceMethod yX5_readInto ∈ Tg := tg_in (List.mem_append_right _ (List.mem_append_left _ (List.mem_of_getElem? (i := 209) rfl))) rfl
theorem se_X5_readInto : Cond.selects RX5 yX5_readInto yX5_readInto ∈ Tg := tg_in (List.mem_append_right _ (List.mem_append_left _ (List.mem_of_getElem? (i := 210) rfl))) rfl
theorem co_X5_readInto : Cond.code yX5_readInto cX5_readInto 4 (some .boolean) ∈ Tg := tg_in (List.mem_append_right _ (List.mem_append_left _ (List.mem_of_getElem? (i := 211) rfl))) rfl
theorem ml_X5_31 : Cond.methodLink RX5 31 yX9_cut ∈ Tg := tg_in (List.mem_append_right _ (List.mem_append_left _ (List.mem_of_getElem? (i := 212) rfl))) rfl
theorem im_X9_cut : Cond.instanceMethod yX9_cut ∈ Tg := tg_in (List.mem_append_right _ (List.mem_append_left _ (List.mem_of_getElem? (i := 213) rfl))) rfl
theorem se_X9_cut : Cond.selects RX9 yX9_cut yX9_cut ∈ Tg := tg_in (List.mem_append_right _ (List.mem_append_left _ (List.mem_of_getElem? (i := 214) rfl))) rfl
theorem co_X9_cut : Cond.code yX9_cut cX9_cut 5 none ∈ Tg := tg_in (List.mem_append_right _ (List.mem_append_left _ (List.mem_of_getElem? (i := 215) rfl))) rfl
theorem ml_X9_37 : Cond.methodLink RX9 37 yX8_byteAt ∈ Tg := tg_in (List.mem_append_right _ (List.mem_append_left _ (List.mem_of_getElem? (i := 216) rfl))) rfl
theorem im_X8_byteAt : Cond.instanceMethod yX8_byteAt ∈ Tg := tg_in (List.mem_append_right _ (List.mem_append_left _ (List.mem_of_getElem? (i := 217) rfl))) rfl
theorem se_X8_byteAt : Cond.selects RX8 yX8_byteAt yX8_byteAt ∈ Tg := tg_in (List.mem_append_right _ (List.mem_append_left _ (List.mem_of_getElem? (i := 218) rfl))) rfl
theorem co_X8_byteAt : Cond.code yX8_byteAt cX8_byteAt 2 (some .int) ∈ Tg := tg_in (List.mem_append_right _ (List.mem_append_left _ (List.mem_of_getElem? (i := 219) rfl))) rfl
theorem ml_X9_41 : Cond.methodLink RX9 41 yX9_sortOf ∈ Tg := tg_in (List.mem_append_right _ (List.mem_append_left _ (List.mem_of_getElem? (i := 220) rfl))) rfl
theorem st_X9_sortOf : Cond.static yX9_sortOf ∈ Tg := tg_in (List.mem_append_right _ (List.mem_append_left _ (List.mem_of_getElem? (i := 221) rfl))) rfl
theorem co_X9_sortOf : Cond.code yX9_sortOf cX9_sortOf 1 (some .int) ∈ Tg := tg_in (List.mem_append_right _ (List.mem_append_left _ (List.mem_of_getElem? (i := 222) rfl))) rfl
theorem ml_X9_44 : Cond.methodLink RX9 44 yX9_place ∈ Tg := tg_in (List.mem_append_right _ (List.mem_append_left _ (List.mem_of_getElem? (i := 223) rfl))) rfl
theorem im_X9_place : Cond.instanceMethod yX9_place ∈ Tg := tg_in (List.mem_append_right _ (List.mem_append_left _ (List.mem_of_getElem? (i := 225) rfl))) rfl
theorem co_X9_place : Cond.code yX9_place cX9_place 4 none ∈ Tg := tg_in (List.mem_append_right _ (List.mem_append_left _ (List.mem_of_getElem? (i := 226) rfl))) rfl
theorem ml_X9_48 : Cond.methodLink RX9 48 yX9_name ∈ Tg := tg_in (List.mem_append_right _ (List.mem_append_left _ (List.mem_of_getElem? (i := 227) rfl))) rfl
theorem im_X9_name : Cond.instanceMethod yX9_name ∈ Tg := tg_in (List.mem_append_right _ (List.mem_append_left _ (List.mem_of_getElem? (i := 229) rfl))) rfl
theorem co_X9_name : Cond.code yX9_name cX9_name 3 none ∈ Tg := tg_in (List.mem_append_right _ (List.mem_append_left _ (List.mem_of_getElem? (i := 230) rfl))) rfl
theorem ml_X9_52 : Cond.methodLink RX9 52 yX9_joined ∈ Tg := tg_in (List.mem_append_right _ (List.mem_append_left _ (List.mem_of_getElem? (i := 231) rfl))) rfl
theorem im_X9_joined : Cond.instanceMethod yX9_joined ∈ Tg := tg_in (List.mem_append_right _ (List.mem_append_left _ (List.mem_of_getElem? (i := 233) rfl))) rfl
theorem co_X9_joined : Cond.code yX9_joined cX9_joined 7 (some .int) ∈ Tg := tg_in (List.mem_append_right _ (List.mem_append_left _ (List.mem_of_getElem? (i := 234) rfl))) rfl
theorem ml_X5_40 : Cond.methodLink RX5 40 yX9_kindOf ∈ Tg := tg_in (List.mem_append_right _ (List.mem_append_left _ (List.mem_of_getElem? (i := 235) rfl))) rfl
theorem im_X9_kindOf : Cond.instanceMethod yX9_kindOf ∈ Tg := tg_in (List.mem_append_right _ (List.mem_append_left _ (List.mem_of_getElem? (i := 236) rfl))) rfl
theorem se_X9_kindOf : Cond.selects RX9 yX9_kindOf yX9_kindOf ∈ Tg := tg_in (List.mem_append_right _ (List.mem_append_left _ (List.mem_of_getElem? (i := 237) rfl))) rfl
theorem co_X9_kindOf : Cond.code yX9_kindOf cX9_kindOf 2 (some .int) ∈ Tg := tg_in (List.mem_append_right _ (List.mem_append_left _ (List.mem_of_getElem? (i := 238) rfl))) rfl
theorem ml_X5_44 : Cond.methodLink RX5 44 yX5_readRule ∈ Tg := tg_in (List.mem_append_right _ (List.mem_append_left _ (List.mem_of_getElem? (i := 239) rfl))) rfl
theorem im_X5_readRule : Cond.instanceMethod yX5_readRule ∈ Tg := tg_in (List.mem_append_right _ (List.mem_append_right _ (List.mem_append_left _ (List.mem_of_getElem? (i := 1) rfl)))) rfl
theorem co_X5_readRule : Cond.code yX5_readRule cX5_readRule 3 (some .boolean) ∈ Tg := tg_in (List.mem_append_right _ (List.mem_append_right _ (List.mem_append_left _ (List.mem_of_getElem? (i := 2) rfl)))) rfl
theorem ml_X5_48 : Cond.methodLink RX5 48 yX6_isFull ∈ Tg := tg_in (List.mem_append_right _ (List.mem_append_right _ (List.mem_append_left _ (List.mem_of_getElem? (i := 3) rfl)))) rfl
theorem im_X6_isFull : Cond.instanceMethod yX6_isFull ∈ Tg := tg_in (List.mem_append_right _ (List.mem_append_right _ (List.mem_append_left _ (List.mem_of_getElem? (i := 4) rfl)))) rfl
theorem se_X6_isFull : Cond.selects RX6 yX6_isFull yX6_isFull ∈ Tg := tg_in (List.mem_append_right _ (List.mem_append_right _ (List.mem_append_left _ (List.mem_of_getElem? (i := 5) rfl)))) rfl
theorem co_X6_isFull : Cond.code yX6_isFull cX6_isFull 1 (some .boolean) ∈ Tg := tg_in (List.mem_append_right _ (List.mem_append_right _ (List.mem_append_left _ (List.mem_of_getElem? (i := 6) rfl)))) rfl
theorem ml_X5_52 : Cond.methodLink RX5 52 yX5_faultHere ∈ Tg := tg_in (List.mem_append_right _ (List.mem_append_right _ (List.mem_append_left _ (List.mem_of_getElem? (i := 7) rfl)))) rfl
theorem im_X5_faultHere : Cond.instanceMethod yX5_faultHere ∈ Tg := tg_in (List.mem_append_right _ (List.mem_append_right _ (List.mem_append_left _ (List.mem_of_getElem? (i := 9) rfl)))) rfl
theorem co_X5_faultHere : Cond.code yX5_faultHere cX5_faultHere 2 (some .boolean) ∈ Tg := tg_in (List.mem_append_right _ (List.mem_append_right _ (List.mem_append_left _ (List.mem_of_getElem? (i := 10) rfl)))) rfl
theorem ml_X5_86 : Cond.methodLink RX5 86 yX9_startOf ∈ Tg := tg_in (List.mem_append_right _ (List.mem_append_right _ (List.mem_append_left _ (List.mem_of_getElem? (i := 11) rfl)))) rfl
theorem im_X9_startOf : Cond.instanceMethod yX9_startOf ∈ Tg := tg_in (List.mem_append_right _ (List.mem_append_right _ (List.mem_append_left _ (List.mem_of_getElem? (i := 12) rfl)))) rfl
theorem se_X9_startOf : Cond.selects RX9 yX9_startOf yX9_startOf ∈ Tg := tg_in (List.mem_append_right _ (List.mem_append_right _ (List.mem_append_left _ (List.mem_of_getElem? (i := 13) rfl)))) rfl
theorem co_X9_startOf : Cond.code yX9_startOf cX9_startOf 2 (some .int) ∈ Tg := tg_in (List.mem_append_right _ (List.mem_append_right _ (List.mem_append_left _ (List.mem_of_getElem? (i := 14) rfl)))) rfl
theorem ml_X5_56 : Cond.methodLink RX5 56 yX5_take ∈ Tg := tg_in (List.mem_append_right _ (List.mem_append_right _ (List.mem_append_left _ (List.mem_of_getElem? (i := 15) rfl)))) rfl
theorem im_X5_take : Cond.instanceMethod yX5_take ∈ Tg := tg_in (List.mem_append_right _ (List.mem_append_right _ (List.mem_append_left _ (List.mem_of_getElem? (i := 17) rfl)))) rfl
theorem co_X5_take : Cond.code yX5_take cX5_take 2 (some .boolean) ∈ Tg := tg_in (List.mem_append_right _ (List.mem_append_right _ (List.mem_append_left _ (List.mem_of_getElem? (i := 18) rfl)))) rfl
theorem ml_X5_59 : Cond.methodLink RX5 59 yX6_beginRule ∈ Tg := tg_in (List.mem_append_right _ (List.mem_append_right _ (List.mem_append_left _ (List.mem_of_getElem? (i := 19) rfl)))) rfl
theorem im_X6_beginRule : Cond.instanceMethod yX6_beginRule ∈ Tg := tg_in (List.mem_append_right _ (List.mem_append_right _ (List.mem_append_left _ (List.mem_of_getElem? (i := 20) rfl)))) rfl
theorem se_X6_beginRule : Cond.selects RX6 yX6_beginRule yX6_beginRule ∈ Tg := tg_in (List.mem_append_right _ (List.mem_append_right _ (List.mem_append_left _ (List.mem_of_getElem? (i := 21) rfl)))) rfl
theorem co_X6_beginRule : Cond.code yX6_beginRule cX6_beginRule 1 none ∈ Tg := tg_in (List.mem_append_right _ (List.mem_append_right _ (List.mem_append_left _ (List.mem_of_getElem? (i := 22) rfl)))) rfl
theorem ml_X6_31 : Cond.methodLink RX6 31 yX6_isFull ∈ Tg := tg_in (List.mem_append_right _ (List.mem_append_right _ (List.mem_append_left _ (List.mem_of_getElem? (i := 23) rfl)))) rfl
theorem ml_X5_62 : Cond.methodLink RX5 62 yX5_readTest ∈ Tg := tg_in (List.mem_append_right _ (List.mem_append_right _ (List.mem_append_left _ (List.mem_of_getElem? (i := 24) rfl)))) rfl
theorem im_X5_readTest : Cond.instanceMethod yX5_readTest ∈ Tg := tg_in (List.mem_append_right _ (List.mem_append_right _ (List.mem_append_left _ (List.mem_of_getElem? (i := 26) rfl)))) rfl
theorem co_X5_readTest : Cond.code yX5_readTest cX5_readTest 6 (some .boolean) ∈ Tg := tg_in (List.mem_append_right _ (List.mem_append_right _ (List.mem_append_left _ (List.mem_of_getElem? (i := 27) rfl)))) rfl
theorem cn_X5_75 : Cond.constant RX5 75 (6711655) ∈ Tg := tg_in (List.mem_append_right _ (List.mem_append_right _ (List.mem_append_left _ (List.mem_of_getElem? (i := 28) rfl)))) rfl
theorem cn_X5_76 : Cond.constant RX5 76 (1935764837) ∈ Tg := tg_in (List.mem_append_right _ (List.mem_append_right _ (List.mem_append_left _ (List.mem_of_getElem? (i := 29) rfl)))) rfl
theorem cn_X5_77 : Cond.constant RX5 77 (1885434739) ∈ Tg := tg_in (List.mem_append_right _ (List.mem_append_right _ (List.mem_append_left _ (List.mem_of_getElem? (i := 30) rfl)))) rfl
theorem cn_X5_78 : Cond.constant RX5 78 (1702258030) ∈ Tg := tg_in (List.mem_append_right _ (List.mem_append_right _ (List.mem_append_left _ (List.mem_of_getElem? (i := 31) rfl)))) rfl
theorem ml_X5_67 : Cond.methodLink RX5 67 yX5_takeNumber ∈ Tg := tg_in (List.mem_append_right _ (List.mem_append_right _ (List.mem_append_left _ (List.mem_of_getElem? (i := 32) rfl)))) rfl
theorem im_X5_takeNumber : Cond.instanceMethod yX5_takeNumber ∈ Tg := tg_in (List.mem_append_right _ (List.mem_append_right _ (List.mem_append_left _ (List.mem_of_getElem? (i := 34) rfl)))) rfl
theorem co_X5_takeNumber : Cond.code yX5_takeNumber cX5_takeNumber 3 (some .boolean) ∈ Tg := tg_in (List.mem_append_right _ (List.mem_append_right _ (List.mem_append_left _ (List.mem_of_getElem? (i := 35) rfl)))) rfl
theorem ml_X5_83 : Cond.methodLink RX5 83 yX9_valueOf ∈ Tg := tg_in (List.mem_append_right _ (List.mem_append_right _ (List.mem_append_left _ (List.mem_of_getElem? (i := 36) rfl)))) rfl
theorem im_X9_valueOf : Cond.instanceMethod yX9_valueOf ∈ Tg := tg_in (List.mem_append_right _ (List.mem_append_right _ (List.mem_append_left _ (List.mem_of_getElem? (i := 37) rfl)))) rfl
theorem se_X9_valueOf : Cond.selects RX9 yX9_valueOf yX9_valueOf ∈ Tg := tg_in (List.mem_append_right _ (List.mem_append_right _ (List.mem_append_left _ (List.mem_of_getElem? (i := 38) rfl)))) rfl
theorem co_X9_valueOf : Cond.code yX9_valueOf cX9_valueOf 2 (some .int) ∈ Tg := tg_in (List.mem_append_right _ (List.mem_append_right _ (List.mem_append_left _ (List.mem_of_getElem? (i := 39) rfl)))) rfl
theorem ml_X5_79 : Cond.methodLink RX5 79 yX6_addTest ∈ Tg := tg_in (List.mem_append_right _ (List.mem_append_right _ (List.mem_append_left _ (List.mem_of_getElem? (i := 40) rfl)))) rfl
theorem im_X6_addTest : Cond.instanceMethod yX6_addTest ∈ Tg := tg_in (List.mem_append_right _ (List.mem_append_right _ (List.mem_append_left _ (List.mem_of_getElem? (i := 41) rfl)))) rfl
theorem se_X6_addTest : Cond.selects RX6 yX6_addTest yX6_addTest ∈ Tg := tg_in (List.mem_append_right _ (List.mem_append_right _ (List.mem_append_left _ (List.mem_of_getElem? (i := 42) rfl)))) rfl
theorem co_X6_addTest : Cond.code yX6_addTest cX6_addTest 5 none ∈ Tg := tg_in (List.mem_append_right _ (List.mem_append_right _ (List.mem_append_left _ (List.mem_of_getElem? (i := 43) rfl)))) rfl
theorem cn_X5_65 : Cond.constant RX5 65 (6385252) ∈ Tg := tg_in (List.mem_append_right _ (List.mem_append_right _ (List.mem_append_left _ (List.mem_of_getElem? (i := 44) rfl)))) rfl
theorem cn_X5_66 : Cond.constant RX5 66 (7561593) ∈ Tg := tg_in (List.mem_append_right _ (List.mem_append_right _ (List.mem_append_left _ (List.mem_of_getElem? (i := 45) rfl)))) rfl
theorem ml_X5_71 : Cond.methodLink RX5 71 yX6_endRule ∈ Tg := tg_in (List.mem_append_right _ (List.mem_append_right _ (List.mem_append_left _ (List.mem_of_getElem? (i := 46) rfl)))) rfl
theorem im_X6_endRule : Cond.instanceMethod yX6_endRule ∈ Tg := tg_in (List.mem_append_right _ (List.mem_append_right _ (List.mem_append_left _ (List.mem_of_getElem? (i := 47) rfl)))) rfl
theorem se_X6_endRule : Cond.selects RX6 yX6_endRule yX6_endRule ∈ Tg := tg_in (List.mem_append_right _ (List.mem_append_right _ (List.mem_append_left _ (List.mem_of_getElem? (i := 48) rfl)))) rfl
theorem co_X6_endRule : Cond.code yX6_endRule cX6_endRule 2 none ∈ Tg := tg_in (List.mem_append_right _ (List.mem_append_right _ (List.mem_append_left _ (List.mem_of_getElem? (i := 49) rfl)))) rfl
theorem cn_X10_198 : Cond.constant RX10 198 (-1000100) ∈ Tg := tg_in (List.mem_append_right _ (List.mem_append_right _ (List.mem_append_left _ (List.mem_of_getElem? (i := 50) rfl)))) rfl
theorem ml_L_73 : Cond.methodLink RL 73 yX10_fault ∈ Tg := tg_in (List.mem_append_right _ (List.mem_append_right _ (List.mem_append_left _ (List.mem_of_getElem? (i := 51) rfl)))) rfl
theorem im_X10_fault : Cond.instanceMethod yX10_fault ∈ Tg := tg_in (List.mem_append_right _ (List.mem_append_right _ (List.mem_append_left _ (List.mem_of_getElem? (i := 52) rfl)))) rfl
theorem se_X10_fault : Cond.selects RX10 yX10_fault yX10_fault ∈ Tg := tg_in (List.mem_append_right _ (List.mem_append_right _ (List.mem_append_left _ (List.mem_of_getElem? (i := 53) rfl)))) rfl
theorem co_X10_fault : Cond.code yX10_fault cX10_fault 1 (some .int) ∈ Tg := tg_in (List.mem_append_right _ (List.mem_append_right _ (List.mem_append_left _ (List.mem_of_getElem? (i := 54) rfl)))) rfl
theorem ml_L_77 : Cond.methodLink RL 77 yX10_said ∈ Tg := tg_in (List.mem_append_right _ (List.mem_append_right _ (List.mem_append_left _ (List.mem_of_getElem? (i := 55) rfl)))) rfl
theorem im_X10_said : Cond.instanceMethod yX10_said ∈ Tg := tg_in (List.mem_append_right _ (List.mem_append_right _ (List.mem_append_left _ (List.mem_of_getElem? (i := 56) rfl)))) rfl
theorem se_X10_said : Cond.selects RX10 yX10_said yX10_said ∈ Tg := tg_in (List.mem_append_right _ (List.mem_append_right _ (List.mem_append_left _ (List.mem_of_getElem? (i := 57) rfl)))) rfl
theorem co_X10_said : Cond.code yX10_said cX10_said 3 (some .int) ∈ Tg := tg_in (List.mem_append_right _ (List.mem_append_right _ (List.mem_append_left _ (List.mem_of_getElem? (i := 58) rfl)))) rfl
theorem ml_X10_203 : Cond.methodLink RX10 203 yX6_firstThatHolds ∈ Tg := tg_in (List.mem_append_right _ (List.mem_append_right _ (List.mem_append_left _ (List.mem_of_getElem? (i := 59) rfl)))) rfl
theorem im_X6_firstThatHolds : Cond.instanceMethod yX6_firstThatHolds ∈ Tg := tg_in (List.mem_append_right _ (List.mem_append_right _ (List.mem_append_left _ (List.mem_of_getElem? (i := 60) rfl)))) rfl
theorem se_X6_firstThatHolds : Cond.selects RX6 yX6_firstThatHolds yX6_firstThatHolds ∈ Tg := tg_in (List.mem_append_right _ (List.mem_append_right _ (List.mem_append_left _ (List.mem_of_getElem? (i := 61) rfl)))) rfl
theorem co_X6_firstThatHolds : Cond.code yX6_firstThatHolds cX6_firstThatHolds 4 (some .int) ∈ Tg := tg_in (List.mem_append_right _ (List.mem_append_right _ (List.mem_append_left _ (List.mem_of_getElem? (i := 62) rfl)))) rfl
theorem ml_X6_40 : Cond.methodLink RX6 40 yX6_isTrueOf ∈ Tg := tg_in (List.mem_append_right _ (List.mem_append_right _ (List.mem_append_left _ (List.mem_of_getElem? (i := 63) rfl)))) rfl
theorem im_X6_isTrueOf : Cond.instanceMethod yX6_isTrueOf ∈ Tg := tg_in (List.mem_append_right _ (List.mem_append_right _ (List.mem_append_left _ (List.mem_of_getElem? (i := 64) rfl)))) rfl
theorem se_X6_isTrueOf : Cond.selects RX6 yX6_isTrueOf yX6_isTrueOf ∈ Tg := tg_in (List.mem_append_right _ (List.mem_append_right _ (List.mem_append_left _ (List.mem_of_getElem? (i := 65) rfl)))) rfl
theorem co_X6_isTrueOf : Cond.code yX6_isTrueOf cX6_isTrueOf 6 (some .boolean) ∈ Tg := tg_in (List.mem_append_right _ (List.mem_append_right _ (List.mem_append_left _ (List.mem_of_getElem? (i := 66) rfl)))) rfl
theorem ml_X6_35 : Cond.methodLink RX6 35 yX6_hasRule ∈ Tg := tg_in (List.mem_append_right _ (List.mem_append_right _ (List.mem_append_left _ (List.mem_of_getElem? (i := 67) rfl)))) rfl
theorem im_X6_hasRule : Cond.instanceMethod yX6_hasRule ∈ Tg := tg_in (List.mem_append_right _ (List.mem_append_right _ (List.mem_append_left _ (List.mem_of_getElem? (i := 68) rfl)))) rfl
theorem se_X6_hasRule : Cond.selects RX6 yX6_hasRule yX6_hasRule ∈ Tg := tg_in (List.mem_append_right _ (List.mem_append_right _ (List.mem_append_left _ (List.mem_of_getElem? (i := 69) rfl)))) rfl
theorem co_X6_hasRule : Cond.code yX6_hasRule cX6_hasRule 2 (some .boolean) ∈ Tg := tg_in (List.mem_append_right _ (List.mem_append_right _ (List.mem_append_left _ (List.mem_of_getElem? (i := 70) rfl)))) rfl
theorem ml_X6_44 : Cond.methodLink RX6 44 yX6_testIsTrue ∈ Tg := tg_in (List.mem_append_right _ (List.mem_append_right _ (List.mem_append_left _ (List.mem_of_getElem? (i := 71) rfl)))) rfl
theorem st_X6_testIsTrue : Cond.static yX6_testIsTrue ∈ Tg := tg_in (List.mem_append_right _ (List.mem_append_right _ (List.mem_append_left _ (List.mem_of_getElem? (i := 72) rfl)))) rfl
theorem co_X6_testIsTrue : Cond.code yX6_testIsTrue cX6_testIsTrue 5 (some .boolean) ∈ Tg := tg_in (List.mem_append_right _ (List.mem_append_right _ (List.mem_append_left _ (List.mem_of_getElem? (i := 73) rfl)))) rfl
theorem ml_X6_48 : Cond.methodLink RX6 48 yX2_figureAt ∈ Tg := tg_in (List.mem_append_right _ (List.mem_append_right _ (List.mem_append_left _ (List.mem_of_getElem? (i := 74) rfl)))) rfl
theorem ml_X6_54 : Cond.methodLink RX6 54 yX2_timesSeen ∈ Tg := tg_in (List.mem_append_right _ (List.mem_append_right _ (List.mem_append_left _ (List.mem_of_getElem? (i := 75) rfl)))) rfl
theorem ml_X6_58 : Cond.methodLink RX6 58 yX3_isEven ∈ Tg := tg_in (List.mem_append_right _ (List.mem_append_right _ (List.mem_append_left _ (List.mem_of_getElem? (i := 76) rfl)))) rfl
theorem st_X3_isEven : Cond.static yX3_isEven ∈ Tg := tg_in (List.mem_append_right _ (List.mem_append_right _ (List.mem_append_left _ (List.mem_of_getElem? (i := 77) rfl)))) rfl
theorem co_X3_isEven : Cond.code yX3_isEven cX3_isEven 1 (some .boolean) ∈ Tg := tg_in (List.mem_append_right _ (List.mem_append_right _ (List.mem_append_left _ (List.mem_of_getElem? (i := 78) rfl)))) rfl
theorem ml_X3_9 : Cond.methodLink RX3 9 yJ6_bitCount_0f7a4 ∈ Tg := tg_in (List.mem_append_right _ (List.mem_append_right _ (List.mem_append_left _ (List.mem_of_getElem? (i := 79) rfl)))) rfl
theorem st_J6_bitCount_0f7a4 : Cond.static yJ6_bitCount_0f7a4 ∈ Tg := tg_in (List.mem_append_right _ (List.mem_append_right _ (List.mem_append_left _ (List.mem_of_getElem? (i := 80) rfl)))) rfl
theorem co_J6_bitCount_0f7a4 : Cond.code yJ6_bitCount_0f7a4 cJ6_bitCount_0f7a4 1 (some .int) ∈ Tg := tg_in (List.mem_append_right _ (List.mem_append_right _ (List.mem_append_left _ (List.mem_of_getElem? (i := 81) rfl)))) rfl
theorem cn_J6_265 : Cond.constant RJ6 265 (1431655765) ∈ Tg := tg_in (List.mem_append_right _ (List.mem_append_right _ (List.mem_append_left _ (List.mem_of_getElem? (i := 82) rfl)))) rfl
theorem cn_J6_266 : Cond.constant RJ6 266 (858993459) ∈ Tg := tg_in (List.mem_append_right _ (List.mem_append_right _ (List.mem_append_left _ (List.mem_of_getElem? (i := 83) rfl)))) rfl
theorem cn_J6_267 : Cond.constant RJ6 267 (252645135) ∈ Tg := tg_in (List.mem_append_right _ (List.mem_append_right _ (List.mem_append_left _ (List.mem_of_getElem? (i := 84) rfl)))) rfl
theorem cn_X6_39 : Cond.constant RX6 39 (-1000000) ∈ Tg := tg_in (List.mem_append_right _ (List.mem_append_right _ (List.mem_append_left _ (List.mem_of_getElem? (i := 85) rfl)))) rfl
theorem cn_X10_206 : Cond.constant RX10 206 (-1000000) ∈ Tg := tg_in (List.mem_append_right _ (List.mem_append_right _ (List.mem_append_left _ (List.mem_of_getElem? (i := 86) rfl)))) rfl
theorem ml_X10_207 : Cond.methodLink RX10 207 yX6_numberSaid ∈ Tg := tg_in (List.mem_append_right _ (List.mem_append_right _ (List.mem_append_left _ (List.mem_of_getElem? (i := 87) rfl)))) rfl
theorem im_X6_numberSaid : Cond.instanceMethod yX6_numberSaid ∈ Tg := tg_in (List.mem_append_right _ (List.mem_append_right _ (List.mem_append_left _ (List.mem_of_getElem? (i := 88) rfl)))) rfl
theorem se_X6_numberSaid : Cond.selects RX6 yX6_numberSaid yX6_numberSaid ∈ Tg := tg_in (List.mem_append_right _ (List.mem_append_right _ (List.mem_append_left _ (List.mem_of_getElem? (i := 89) rfl)))) rfl
theorem co_X6_numberSaid : Cond.code yX6_numberSaid cX6_numberSaid 2 (some .int) ∈ Tg := tg_in (List.mem_append_right _ (List.mem_append_right _ (List.mem_append_left _ (List.mem_of_getElem? (i := 90) rfl)))) rfl
theorem ml_L_81 : Cond.methodLink RL 81 yX10_holds ∈ Tg := tg_in (List.mem_append_right _ (List.mem_append_right _ (List.mem_append_left _ (List.mem_of_getElem? (i := 91) rfl)))) rfl
theorem im_X10_holds : Cond.instanceMethod yX10_holds ∈ Tg := tg_in (List.mem_append_right _ (List.mem_append_right _ (List.mem_append_left _ (List.mem_of_getElem? (i := 92) rfl)))) rfl
theorem se_X10_holds : Cond.selects RX10 yX10_holds yX10_holds ∈ Tg := tg_in (List.mem_append_right _ (List.mem_append_right _ (List.mem_append_left _ (List.mem_of_getElem? (i := 93) rfl)))) rfl
theorem co_X10_holds : Cond.code yX10_holds cX10_holds 2 (some .int) ∈ Tg := tg_in (List.mem_append_right _ (List.mem_append_right _ (List.mem_append_left _ (List.mem_of_getElem? (i := 94) rfl)))) rfl
theorem ml_X10_210 : Cond.methodLink RX10 210 yX6_hasRule ∈ Tg := tg_in (List.mem_append_right _ (List.mem_append_right _ (List.mem_append_left _ (List.mem_of_getElem? (i := 95) rfl)))) rfl
theorem ml_X10_213 : Cond.methodLink RX10 213 yX6_isTrueOf ∈ Tg := tg_in (List.mem_append_right _ (List.mem_append_right _ (List.mem_append_left _ (List.mem_of_getElem? (i := 96) rfl)))) rfl
theorem ml_L_85 : Cond.methodLink RL 85 yX10_record ∈ Tg := tg_in (List.mem_append_right _ (List.mem_append_right _ (List.mem_append_left _ (List.mem_of_getElem? (i := 97) rfl)))) rfl
theorem im_X10_record : Cond.instanceMethod yX10_record ∈ Tg := tg_in (List.mem_append_right _ (List.mem_append_right _ (List.mem_append_left _ (List.mem_of_getElem? (i := 98) rfl)))) rfl
theorem se_X10_record : Cond.selects RX10 yX10_record yX10_record ∈ Tg := tg_in (List.mem_append_right _ (List.mem_append_right _ (List.mem_append_left _ (List.mem_of_getElem? (i := 99) rfl)))) rfl
theorem co_X10_record : Cond.code yX10_record cX10_record 2 (some .int) ∈ Tg := tg_in (List.mem_append_right _ (List.mem_append_right _ (List.mem_append_left _ (List.mem_of_getElem? (i := 100) rfl)))) rfl
theorem ml_X10_217 : Cond.methodLink RX10 217 yX1_isEnd ∈ Tg := tg_in (List.mem_append_right _ (List.mem_append_right _ (List.mem_append_left _ (List.mem_of_getElem? (i := 101) rfl)))) rfl
theorem st_X1_isEnd : Cond.static yX1_isEnd ∈ Tg := tg_in (List.mem_append_right _ (List.mem_append_right _ (List.mem_append_left _ (List.mem_of_getElem? (i := 102) rfl)))) rfl
theorem co_X1_isEnd : Cond.code yX1_isEnd cX1_isEnd 1 (some .boolean) ∈ Tg := tg_in (List.mem_append_right _ (List.mem_append_right _ (List.mem_append_left _ (List.mem_of_getElem? (i := 103) rfl)))) rfl
theorem ml_X10_220 : Cond.methodLink RX10 220 yX1_isFull ∈ Tg := tg_in (List.mem_append_right _ (List.mem_append_right _ (List.mem_append_left _ (List.mem_of_getElem? (i := 104) rfl)))) rfl
theorem im_X1_isFull : Cond.instanceMethod yX1_isFull ∈ Tg := tg_in (List.mem_append_right _ (List.mem_append_right _ (List.mem_append_left _ (List.mem_of_getElem? (i := 105) rfl)))) rfl
theorem se_X1_isFull : Cond.selects RX1 yX1_isFull yX1_isFull ∈ Tg := tg_in (List.mem_append_right _ (List.mem_append_right _ (List.mem_append_left _ (List.mem_of_getElem? (i := 106) rfl)))) rfl
theorem co_X1_isFull : Cond.code yX1_isFull cX1_isFull 1 (some .boolean) ∈ Tg := tg_in (List.mem_append_right _ (List.mem_append_right _ (List.mem_append_left _ (List.mem_of_getElem? (i := 107) rfl)))) rfl
theorem ml_X10_223 : Cond.methodLink RX10 223 yX1_write ∈ Tg := tg_in (List.mem_append_right _ (List.mem_append_right _ (List.mem_append_left _ (List.mem_of_getElem? (i := 108) rfl)))) rfl
theorem im_X1_write : Cond.instanceMethod yX1_write ∈ Tg := tg_in (List.mem_append_right _ (List.mem_append_right _ (List.mem_append_left _ (List.mem_of_getElem? (i := 109) rfl)))) rfl
theorem se_X1_write : Cond.selects RX1 yX1_write yX1_write ∈ Tg := tg_in (List.mem_append_right _ (List.mem_append_right _ (List.mem_append_left _ (List.mem_of_getElem? (i := 110) rfl)))) rfl
theorem co_X1_write : Cond.code yX1_write cX1_write 4 none ∈ Tg := tg_in (List.mem_append_right _ (List.mem_append_right _ (List.mem_append_left _ (List.mem_of_getElem? (i := 111) rfl)))) rfl
theorem ml_X1_29 : Cond.methodLink RX1 29 yX1_isFull ∈ Tg := tg_in (List.mem_append_right _ (List.mem_append_right _ (List.mem_append_left _ (List.mem_of_getElem? (i := 112) rfl)))) rfl
theorem ml_X1_33 : Cond.methodLink RX1 33 yX1_isEnd ∈ Tg := tg_in (List.mem_append_right _ (List.mem_append_right _ (List.mem_append_left _ (List.mem_of_getElem? (i := 113) rfl)))) rfl
theorem ml_L_89 : Cond.methodLink RL 89 yX10_worth ∈ Tg := tg_in (List.mem_append_right _ (List.mem_append_right _ (List.mem_append_left _ (List.mem_of_getElem? (i := 114) rfl)))) rfl
theorem im_X10_worth : Cond.instanceMethod yX10_worth ∈ Tg := tg_in (List.mem_append_right _ (List.mem_append_right _ (List.mem_append_left _ (List.mem_of_getElem? (i := 115) rfl)))) rfl
theorem se_X10_worth : Cond.selects RX10 yX10_worth yX10_worth ∈ Tg := tg_in (List.mem_append_right _ (List.mem_append_right _ (List.mem_append_left _ (List.mem_of_getElem? (i := 116) rfl)))) rfl
theorem co_X10_worth : Cond.code yX10_worth cX10_worth 3 (some .int) ∈ Tg := tg_in (List.mem_append_right _ (List.mem_append_right _ (List.mem_append_left _ (List.mem_of_getElem? (i := 117) rfl)))) rfl
theorem ml_X10_227 : Cond.methodLink RX10 227 yX1_holdAgainst ∈ Tg := tg_in (List.mem_append_right _ (List.mem_append_right _ (List.mem_append_left _ (List.mem_of_getElem? (i := 118) rfl)))) rfl
theorem im_X1_holdAgainst : Cond.instanceMethod yX1_holdAgainst ∈ Tg := tg_in (List.mem_append_right _ (List.mem_append_right _ (List.mem_append_left _ (List.mem_of_getElem? (i := 119) rfl)))) rfl
theorem se_X1_holdAgainst : Cond.selects RX1 yX1_holdAgainst yX1_holdAgainst ∈ Tg := tg_in (List.mem_append_right _ (List.mem_append_right _ (List.mem_append_left _ (List.mem_of_getElem? (i := 120) rfl)))) rfl
theorem co_X1_holdAgainst : Cond.code yX1_holdAgainst cX1_holdAgainst 4 none ∈ Tg := tg_in (List.mem_append_right _ (List.mem_append_right _ (List.mem_append_left _ (List.mem_of_getElem? (i := 121) rfl)))) rfl
theorem ml_X1_37 : Cond.methodLink RX1 37 yX6_isTrueOf ∈ Tg := tg_in (List.mem_append_right _ (List.mem_append_right _ (List.mem_append_left _ (List.mem_of_getElem? (i := 122) rfl)))) rfl
theorem ml_X10_231 : Cond.methodLink RX10 231 yX1_answerTo ∈ Tg := tg_in (List.mem_append_right _ (List.mem_append_right _ (List.mem_append_left _ (List.mem_of_getElem? (i := 123) rfl)))) rfl
theorem im_X1_answerTo : Cond.instanceMethod yX1_answerTo ∈ Tg := tg_in (List.mem_append_right _ (List.mem_append_right _ (List.mem_append_left _ (List.mem_of_getElem? (i := 124) rfl)))) rfl
theorem se_X1_answerTo : Cond.selects RX1 yX1_answerTo yX1_answerTo ∈ Tg := tg_in (List.mem_append_right _ (List.mem_append_right _ (List.mem_append_left _ (List.mem_of_getElem? (i := 125) rfl)))) rfl
theorem co_X1_answerTo : Cond.code yX1_answerTo cX1_answerTo 2 (some .int) ∈ Tg := tg_in (List.mem_append_right _ (List.mem_append_right _ (List.mem_append_left _ (List.mem_of_getElem? (i := 126) rfl)))) rfl
theorem ml_X1_43 : Cond.methodLink RX1 43 yX1_worthHeld ∈ Tg := tg_in (List.mem_append_right _ (List.mem_append_right _ (List.mem_append_left _ (List.mem_of_getElem? (i := 127) rfl)))) rfl
theorem im_X1_worthHeld : Cond.instanceMethod yX1_worthHeld ∈ Tg := tg_in (List.mem_append_right _ (List.mem_append_right _ (List.mem_append_left _ (List.mem_of_getElem? (i := 128) rfl)))) rfl
theorem se_X1_worthHeld : Cond.selects RX1 yX1_worthHeld yX1_worthHeld ∈ Tg := tg_in (List.mem_append_right _ (List.mem_append_right _ (List.mem_append_left _ (List.mem_of_getElem? (i := 129) rfl)))) rfl
theorem co_X1_worthHeld : Cond.code yX1_worthHeld cX1_worthHeld 1 (some .int) ∈ Tg := tg_in (List.mem_append_right _ (List.mem_append_right _ (List.mem_append_left _ (List.mem_of_getElem? (i := 130) rfl)))) rfl
theorem ml_X1_48 : Cond.methodLink RX1 48 yX1_casesKnown ∈ Tg := tg_in (List.mem_append_right _ (List.mem_append_right _ (List.mem_append_left _ (List.mem_of_getElem? (i := 131) rfl)))) rfl
theorem im_X1_casesKnown : Cond.instanceMethod yX1_casesKnown ∈ Tg := tg_in (List.mem_append_right _ (List.mem_append_right _ (List.mem_append_left _ (List.mem_of_getElem? (i := 132) rfl)))) rfl
theorem se_X1_casesKnown : Cond.selects RX1 yX1_casesKnown yX1_casesKnown ∈ Tg := tg_in (List.mem_append_right _ (List.mem_append_right _ (List.mem_append_left _ (List.mem_of_getElem? (i := 133) rfl)))) rfl
theorem co_X1_casesKnown : Cond.code yX1_casesKnown cX1_casesKnown 1 (some .int) ∈ Tg := tg_in (List.mem_append_right _ (List.mem_append_right _ (List.mem_append_left _ (List.mem_of_getElem? (i := 134) rfl)))) rfl
theorem ml_X1_51 : Cond.methodLink RX1 51 yX1_casesYes ∈ Tg := tg_in (List.mem_append_right _ (List.mem_append_right _ (List.mem_append_left _ (List.mem_of_getElem? (i := 135) rfl)))) rfl
theorem im_X1_casesYes : Cond.instanceMethod yX1_casesYes ∈ Tg := tg_in (List.mem_append_right _ (List.mem_append_right _ (List.mem_append_left _ (List.mem_of_getElem? (i := 136) rfl)))) rfl
theorem se_X1_casesYes : Cond.selects RX1 yX1_casesYes yX1_casesYes ∈ Tg := tg_in (List.mem_append_right _ (List.mem_append_right _ (List.mem_append_left _ (List.mem_of_getElem? (i := 137) rfl)))) rfl
theorem co_X1_casesYes : Cond.code yX1_casesYes cX1_casesYes 1 (some .int) ∈ Tg := tg_in (List.mem_append_right _ (List.mem_append_right _ (List.mem_append_left _ (List.mem_of_getElem? (i := 138) rfl)))) rfl
theorem cn_X1_47 : Cond.constant RX1 47 (-1000001) ∈ Tg := tg_in (List.mem_append_right _ (List.mem_append_right _ (List.mem_append_left _ (List.mem_of_getElem? (i := 139) rfl)))) rfl
theorem ml_L_93 : Cond.methodLink RL 93 yX10_best ∈ Tg := tg_in (List.mem_append_right _ (List.mem_append_right _ (List.mem_append_left _ (List.mem_of_getElem? (i := 140) rfl)))) rfl
theorem im_X10_best : Cond.instanceMethod yX10_best ∈ Tg := tg_in (List.mem_append_right _ (List.mem_append_right _ (List.mem_append_left _ (List.mem_of_getElem? (i := 141) rfl)))) rfl
theorem se_X10_best : Cond.selects RX10 yX10_best yX10_best ∈ Tg := tg_in (List.mem_append_right _ (List.mem_append_right _ (List.mem_append_left _ (List.mem_of_getElem? (i := 142) rfl)))) rfl
theorem co_X10_best : Cond.code yX10_best cX10_best 5 (some .int) ∈ Tg := tg_in (List.mem_append_right _ (List.mem_append_right _ (List.mem_append_left _ (List.mem_of_getElem? (i := 143) rfl)))) rfl
theorem ml_X10_232 : Cond.methodLink RX10 232 yX1_worthHeld ∈ Tg := tg_in (List.mem_append_right _ (List.mem_append_right _ (List.mem_append_left _ (List.mem_of_getElem? (i := 144) rfl)))) rfl
theorem ml_L_97 : Cond.methodLink RL 97 yX10_kind ∈ Tg := tg_in (List.mem_append_right _ (List.mem_append_right _ (List.mem_append_left _ (List.mem_of_getElem? (i := 145) rfl)))) rfl
theorem im_X10_kind : Cond.instanceMethod yX10_kind ∈ Tg := tg_in (List.mem_append_right _ (List.mem_append_right _ (List.mem_append_left _ (List.mem_of_getElem? (i := 146) rfl)))) rfl
theorem se_X10_kind : Cond.selects RX10 yX10_kind yX10_kind ∈ Tg := tg_in (List.mem_append_right _ (List.mem_append_right _ (List.mem_append_left _ (List.mem_of_getElem? (i := 147) rfl)))) rfl
theorem co_X10_kind : Cond.code yX10_kind cX10_kind 2 (some .int) ∈ Tg := tg_in (List.mem_append_right _ (List.mem_append_right _ (List.mem_append_left _ (List.mem_of_getElem? (i := 148) rfl)))) rfl
theorem ml_X10_236 : Cond.methodLink RX10 236 yX3_toldKind ∈ Tg := tg_in (List.mem_append_right _ (List.mem_append_right _ (List.mem_append_left _ (List.mem_of_getElem? (i := 149) rfl)))) rfl
theorem st_X3_toldKind : Cond.static yX3_toldKind ∈ Tg := tg_in (List.mem_append_right _ (List.mem_append_right _ (List.mem_append_left _ (List.mem_of_getElem? (i := 150) rfl)))) rfl
theorem co_X3_toldKind : Cond.code yX3_toldKind cX3_toldKind 1 (some .int) ∈ Tg := tg_in (List.mem_append_right _ (List.mem_append_right _ (List.mem_append_left _ (List.mem_of_getElem? (i := 151) rfl)))) rfl
theorem ml_X3_15 : Cond.methodLink RX3 15 yX3_isEven ∈ Tg := tg_in (List.mem_append_right _ (List.mem_append_right _ (List.mem_append_left _ (List.mem_of_getElem? (i := 152) rfl)))) rfl
theorem ml_X3_19 : Cond.methodLink RX3 19 yX3_row ∈ Tg := tg_in (List.mem_append_right _ (List.mem_append_right _ (List.mem_append_left _ (List.mem_of_getElem? (i := 153) rfl)))) rfl
theorem st_X3_row : Cond.static yX3_row ∈ Tg := tg_in (List.mem_append_right _ (List.mem_append_right _ (List.mem_append_left _ (List.mem_of_getElem? (i := 154) rfl)))) rfl
theorem co_X3_row : Cond.code yX3_row cX3_row 2 (some .int) ∈ Tg := tg_in (List.mem_append_right _ (List.mem_append_right _ (List.mem_append_left _ (List.mem_of_getElem? (i := 155) rfl)))) rfl
theorem ml_L_101 : Cond.methodLink RL 101 yX10_as ∈ Tg := tg_in (List.mem_append_right _ (List.mem_append_right _ (List.mem_append_left _ (List.mem_of_getElem? (i := 156) rfl)))) rfl
theorem im_X10_as : Cond.instanceMethod yX10_as ∈ Tg := tg_in (List.mem_append_right _ (List.mem_append_right _ (List.mem_append_left _ (List.mem_of_getElem? (i := 157) rfl)))) rfl
theorem se_X10_as : Cond.selects RX10 yX10_as yX10_as ∈ Tg := tg_in (List.mem_append_right _ (List.mem_append_right _ (List.mem_append_left _ (List.mem_of_getElem? (i := 158) rfl)))) rfl
theorem co_X10_as : Cond.code yX10_as cX10_as 3 (some .int) ∈ Tg := tg_in (List.mem_append_right _ (List.mem_append_right _ (List.mem_append_left _ (List.mem_of_getElem? (i := 159) rfl)))) rfl
theorem ml_X10_239 : Cond.methodLink RX10 239 yX3_isOfKind ∈ Tg := tg_in (List.mem_append_right _ (List.mem_append_right _ (List.mem_append_left _ (List.mem_of_getElem? (i := 160) rfl)))) rfl
theorem st_X3_isOfKind : Cond.static yX3_isOfKind ∈ Tg := tg_in (List.mem_append_right _ (List.mem_append_right _ (List.mem_append_left _ (List.mem_of_getElem? (i := 161) rfl)))) rfl
theorem co_X3_isOfKind : Cond.code yX3_isOfKind cX3_isOfKind 3 (some .boolean) ∈ Tg := tg_in (List.mem_append_right _ (List.mem_append_right _ (List.mem_append_left _ (List.mem_of_getElem? (i := 162) rfl)))) rfl
theorem ml_X3_23 : Cond.methodLink RX3 23 yX3_toldKind ∈ Tg := tg_in (List.mem_append_right _ (List.mem_append_right _ (List.mem_append_left _ (List.mem_of_getElem? (i := 163) rfl)))) rfl
theorem ml_X10_242 : Cond.methodLink RX10 242 yX3_dots ∈ Tg := tg_in (List.mem_append_right _ (List.mem_append_right _ (List.mem_append_left _ (List.mem_of_getElem? (i := 164) rfl)))) rfl
theorem st_X3_dots : Cond.static yX3_dots ∈ Tg := tg_in (List.mem_append_right _ (List.mem_append_right _ (List.mem_append_left _ (List.mem_of_getElem? (i := 165) rfl)))) rfl
theorem co_X3_dots : Cond.code yX3_dots cX3_dots 1 (some .int) ∈ Tg := tg_in (List.mem_append_right _ (List.mem_append_right _ (List.mem_append_left _ (List.mem_of_getElem? (i := 166) rfl)))) rfl
theorem ml_L_105 : Cond.methodLink RL 105 yX10_ask ∈ Tg := tg_in (List.mem_append_right _ (List.mem_append_right _ (List.mem_append_left _ (List.mem_of_getElem? (i := 167) rfl)))) rfl
theorem im_X10_ask : Cond.instanceMethod yX10_ask ∈ Tg := tg_in (List.mem_append_right _ (List.mem_append_right _ (List.mem_append_left _ (List.mem_of_getElem? (i := 168) rfl)))) rfl
theorem se_X10_ask : Cond.selects RX10 yX10_ask yX10_ask ∈ Tg := tg_in (List.mem_append_right _ (List.mem_append_right _ (List.mem_append_left _ (List.mem_of_getElem? (i := 169) rfl)))) rfl
theorem co_X10_ask : Cond.code yX10_ask cX10_ask 3 (some .int) ∈ Tg := tg_in (List.mem_append_right _ (List.mem_append_right _ (List.mem_append_left _ (List.mem_of_getElem? (i := 170) rfl)))) rfl
theorem ml_X10_245 : Cond.methodLink RX10 245 yX0_emptyTrace ∈ Tg := tg_in (List.mem_append_right _ (List.mem_append_right _ (List.mem_append_left _ (List.mem_of_getElem? (i := 171) rfl)))) rfl
theorem im_X0_emptyTrace : Cond.instanceMethod yX0_emptyTrace ∈ Tg := tg_in (List.mem_append_right _ (List.mem_append_right _ (List.mem_append_left _ (List.mem_of_getElem? (i := 172) rfl)))) rfl
theorem se_X0_emptyTrace : Cond.selects RX0 yX0_emptyTrace yX0_emptyTrace ∈ Tg := tg_in (List.mem_append_right _ (List.mem_append_right _ (List.mem_append_left _ (List.mem_of_getElem? (i := 173) rfl)))) rfl
theorem co_X0_emptyTrace : Cond.code yX0_emptyTrace cX0_emptyTrace 1 none ∈ Tg := tg_in (List.mem_append_right _ (List.mem_append_right _ (List.mem_append_left _ (List.mem_of_getElem? (i := 174) rfl)))) rfl
theorem ml_X10_248 : Cond.methodLink RX10 248 yX0_sizeOf ∈ Tg := tg_in (List.mem_append_right _ (List.mem_append_right _ (List.mem_append_left _ (List.mem_of_getElem? (i := 175) rfl)))) rfl
theorem im_X0_sizeOf : Cond.instanceMethod yX0_sizeOf ∈ Tg := tg_in (List.mem_append_right _ (List.mem_append_right _ (List.mem_append_left _ (List.mem_of_getElem? (i := 176) rfl)))) rfl
theorem se_X0_sizeOf : Cond.selects RX0 yX0_sizeOf yX0_sizeOf ∈ Tg := tg_in (List.mem_append_right _ (List.mem_append_right _ (List.mem_append_left _ (List.mem_of_getElem? (i := 177) rfl)))) rfl
theorem co_X0_sizeOf : Cond.code yX0_sizeOf cX0_sizeOf 2 (some .int) ∈ Tg := tg_in (List.mem_append_right _ (List.mem_append_right _ (List.mem_append_left _ (List.mem_of_getElem? (i := 178) rfl)))) rfl
theorem ml_X0_20 : Cond.methodLink RX0 20 yX3_toldKind ∈ Tg := tg_in (List.mem_append_right _ (List.mem_append_right _ (List.mem_append_left _ (List.mem_of_getElem? (i := 179) rfl)))) rfl
theorem ml_X0_26 : Cond.methodLink RX0 26 yX0_fastSize ∈ Tg := tg_in (List.mem_append_right _ (List.mem_append_right _ (List.mem_append_left _ (List.mem_of_getElem? (i := 180) rfl)))) rfl
theorem im_X0_fastSize : Cond.instanceMethod yX0_fastSize ∈ Tg := tg_in (List.mem_append_right _ (List.mem_append_right _ (List.mem_append_left _ (List.mem_of_getElem? (i := 182) rfl)))) rfl
theorem co_X0_fastSize : Cond.code yX0_fastSize cX0_fastSize 2 (some .int) ∈ Tg := tg_in (List.mem_append_right _ (List.mem_append_right _ (List.mem_append_left _ (List.mem_of_getElem? (i := 183) rfl)))) rfl
theorem ml_X0_44 : Cond.methodLink RX0 44 yX0_begin ∈ Tg := tg_in (List.mem_append_right _ (List.mem_append_right _ (List.mem_append_left _ (List.mem_of_getElem? (i := 184) rfl)))) rfl
theorem im_X0_begin : Cond.instanceMethod yX0_begin ∈ Tg := tg_in (List.mem_append_right _ (List.mem_append_right _ (List.mem_append_left _ (List.mem_of_getElem? (i := 186) rfl)))) rfl
theorem co_X0_begin : Cond.code yX0_begin cX0_begin 2 none ∈ Tg := tg_in (List.mem_append_right _ (List.mem_append_right _ (List.mem_append_left _ (List.mem_of_getElem? (i := 187) rfl)))) rfl
theorem ml_X0_29 : Cond.methodLink RX0 29 yX0_evenSize ∈ Tg := tg_in (List.mem_append_right _ (List.mem_append_right _ (List.mem_append_left _ (List.mem_of_getElem? (i := 188) rfl)))) rfl
theorem im_X0_evenSize : Cond.instanceMethod yX0_evenSize ∈ Tg := tg_in (List.mem_append_right _ (List.mem_append_right _ (List.mem_append_left _ (List.mem_of_getElem? (i := 190) rfl)))) rfl
theorem co_X0_evenSize : Cond.code yX0_evenSize cX0_evenSize 2 (some .int) ∈ Tg := tg_in (List.mem_append_right _ (List.mem_append_right _ (List.mem_append_left _ (List.mem_of_getElem? (i := 191) rfl)))) rfl
theorem ml_X0_51 : Cond.methodLink RX0 51 yX0_lentSize ∈ Tg := tg_in (List.mem_append_right _ (List.mem_append_right _ (List.mem_append_left _ (List.mem_of_getElem? (i := 192) rfl)))) rfl
theorem im_X0_lentSize : Cond.instanceMethod yX0_lentSize ∈ Tg := tg_in (List.mem_append_right _ (List.mem_append_right _ (List.mem_append_left _ (List.mem_of_getElem? (i := 194) rfl)))) rfl
theorem co_X0_lentSize : Cond.code yX0_lentSize cX0_lentSize 2 (some .int) ∈ Tg := tg_in (List.mem_append_right _ (List.mem_append_right _ (List.mem_append_left _ (List.mem_of_getElem? (i := 195) rfl)))) rfl
theorem ml_X0_48 : Cond.methodLink RX0 48 yX3_dots ∈ Tg := tg_in (List.mem_append_right _ (List.mem_append_right _ (List.mem_append_left _ (List.mem_of_getElem? (i := 196) rfl)))) rfl
theorem ml_X0_35 : Cond.methodLink RX0 35 yX0_fastMark ∈ Tg := tg_in (List.mem_append_right _ (List.mem_append_right _ (List.mem_append_left _ (List.mem_of_getElem? (i := 197) rfl)))) rfl
theorem im_X0_fastMark : Cond.instanceMethod yX0_fastMark ∈ Tg := tg_in (List.mem_append_right _ (List.mem_append_right _ (List.mem_append_left _ (List.mem_of_getElem? (i := 199) rfl)))) rfl
theorem co_X0_fastMark : Cond.code yX0_fastMark cX0_fastMark 2 (some .int) ∈ Tg := tg_in (List.mem_append_right _ (List.mem_append_right _ (List.mem_append_left _ (List.mem_of_getElem? (i := 200) rfl)))) rfl
theorem ml_X0_38 : Cond.methodLink RX0 38 yX0_lentMark ∈ Tg := tg_in (List.mem_append_right _ (List.mem_append_right _ (List.mem_append_left _ (List.mem_of_getElem? (i := 201) rfl)))) rfl
theorem im_X0_lentMark : Cond.instanceMethod yX0_lentMark ∈ Tg := tg_in (List.mem_append_right _ (List.mem_append_right _ (List.mem_append_left _ (List.mem_of_getElem? (i := 203) rfl)))) rfl
theorem co_X0_lentMark : Cond.code yX0_lentMark cX0_lentMark 2 (some .int) ∈ Tg := tg_in (List.mem_append_right _ (List.mem_append_right _ (List.mem_append_left _ (List.mem_of_getElem? (i := 204) rfl)))) rfl
theorem ml_X0_32 : Cond.methodLink RX0 32 yX0_oddSize ∈ Tg := tg_in (List.mem_append_right _ (List.mem_append_right _ (List.mem_append_left _ (List.mem_of_getElem? (i := 205) rfl)))) rfl
theorem im_X0_oddSize : Cond.instanceMethod yX0_oddSize ∈ Tg := tg_in (List.mem_append_right _ (List.mem_append_right _ (List.mem_append_left _ (List.mem_of_getElem? (i := 207) rfl)))) rfl
theorem co_X0_oddSize : Cond.code yX0_oddSize cX0_oddSize 2 (some .int) ∈ Tg := tg_in (List.mem_append_right _ (List.mem_append_right _ (List.mem_append_left _ (List.mem_of_getElem? (i := 208) rfl)))) rfl
theorem ml_X10_251 : Cond.methodLink RX10 251 yX0_markOf ∈ Tg := tg_in (List.mem_append_right _ (List.mem_append_right _ (List.mem_append_left _ (List.mem_of_getElem? (i := 209) rfl)))) rfl
theorem im_X0_markOf : Cond.instanceMethod yX0_markOf ∈ Tg := tg_in (List.mem_append_right _ (List.mem_append_right _ (List.mem_append_left _ (List.mem_of_getElem? (i := 210) rfl)))) rfl
theorem se_X0_markOf : Cond.selects RX0 yX0_markOf yX0_markOf ∈ Tg := tg_in (List.mem_append_right _ (List.mem_append_right _ (List.mem_append_left _ (List.mem_of_getElem? (i := 211) rfl)))) rfl
theorem co_X0_markOf : Cond.code yX0_markOf cX0_markOf 2 (some .int) ∈ Tg := tg_in (List.mem_append_right _ (List.mem_append_right _ (List.mem_append_left _ (List.mem_of_getElem? (i := 212) rfl)))) rfl
theorem ml_X0_41 : Cond.methodLink RX0 41 yX0_oddMark ∈ Tg := tg_in (List.mem_append_right _ (List.mem_append_right _ (List.mem_append_left _ (List.mem_of_getElem? (i := 213) rfl)))) rfl
theorem im_X0_oddMark : Cond.instanceMethod yX0_oddMark ∈ Tg := tg_in (List.mem_append_right _ (List.mem_append_right _ (List.mem_append_left _ (List.mem_of_getElem? (i := 215) rfl)))) rfl
theorem co_X0_oddMark : Cond.code yX0_oddMark cX0_oddMark 2 (some .int) ∈ Tg := tg_in (List.mem_append_right _ (List.mem_append_right _ (List.mem_append_left _ (List.mem_of_getElem? (i := 216) rfl)))) rfl
theorem ml_L_109 : Cond.methodLink RL 109 yX10_trace ∈ Tg := tg_in (List.mem_append_right _ (List.mem_append_right _ (List.mem_append_left _ (List.mem_of_getElem? (i := 217) rfl)))) rfl
theorem im_X10_trace : Cond.instanceMethod yX10_trace ∈ Tg := tg_in (List.mem_append_right _ (List.mem_append_right _ (List.mem_append_left _ (List.mem_of_getElem? (i := 218) rfl)))) rfl
theorem se_X10_trace : Cond.selects RX10 yX10_trace yX10_trace ∈ Tg := tg_in (List.mem_append_right _ (List.mem_append_right _ (List.mem_append_left _ (List.mem_of_getElem? (i := 219) rfl)))) rfl
theorem co_X10_trace : Cond.code yX10_trace cX10_trace 2 (some .int) ∈ Tg := tg_in (List.mem_append_right _ (List.mem_append_right _ (List.mem_append_left _ (List.mem_of_getElem? (i := 220) rfl)))) rfl
theorem ml_X10_254 : Cond.methodLink RX10 254 yX0_traced ∈ Tg := tg_in (List.mem_append_right _ (List.mem_append_right _ (List.mem_append_left _ (List.mem_of_getElem? (i := 221) rfl)))) rfl
theorem im_X0_traced : Cond.instanceMethod yX0_traced ∈ Tg := tg_in (List.mem_append_right _ (List.mem_append_right _ (List.mem_append_left _ (List.mem_of_getElem? (i := 222) rfl)))) rfl
theorem se_X0_traced : Cond.selects RX0 yX0_traced yX0_traced ∈ Tg := tg_in (List.mem_append_right _ (List.mem_append_right _ (List.mem_append_left _ (List.mem_of_getElem? (i := 223) rfl)))) rfl
theorem co_X0_traced : Cond.code yX0_traced cX0_traced 2 (some .int) ∈ Tg := tg_in (List.mem_append_right _ (List.mem_append_right _ (List.mem_append_left _ (List.mem_of_getElem? (i := 224) rfl)))) rfl
theorem cn_X0_19 : Cond.constant RX0 19 (-1000000) ∈ Tg := tg_in (List.mem_append_right _ (List.mem_append_right _ (List.mem_append_left _ (List.mem_of_getElem? (i := 225) rfl)))) rfl
theorem ml_L_113 : Cond.methodLink RL 113 yX10_count ∈ Tg := tg_in (List.mem_append_right _ (List.mem_append_right _ (List.mem_append_left _ (List.mem_of_getElem? (i := 226) rfl)))) rfl
theorem im_X10_count : Cond.instanceMethod yX10_count ∈ Tg := tg_in (List.mem_append_right _ (List.mem_append_right _ (List.mem_append_left _ (List.mem_of_getElem? (i := 227) rfl)))) rfl
theorem se_X10_count : Cond.selects RX10 yX10_count yX10_count ∈ Tg := tg_in (List.mem_append_right _ (List.mem_append_right _ (List.mem_append_left _ (List.mem_of_getElem? (i := 228) rfl)))) rfl
theorem co_X10_count : Cond.code yX10_count cX10_count 2 (some .int) ∈ Tg := tg_in (List.mem_append_right _ (List.mem_append_right _ (List.mem_append_left _ (List.mem_of_getElem? (i := 229) rfl)))) rfl
theorem ml_X10_257 : Cond.methodLink RX10 257 yX10_sheetsThere ∈ Tg := tg_in (List.mem_append_right _ (List.mem_append_right _ (List.mem_append_left _ (List.mem_of_getElem? (i := 230) rfl)))) rfl
theorem im_X10_sheetsThere : Cond.instanceMethod yX10_sheetsThere ∈ Tg := tg_in (List.mem_append_right _ (List.mem_append_right _ (List.mem_append_left _ (List.mem_of_getElem? (i := 232) rfl)))) rfl
theorem co_X10_sheetsThere : Cond.code yX10_sheetsThere cX10_sheetsThere 3 (some .int) ∈ Tg := tg_in (List.mem_append_right _ (List.mem_append_right _ (List.mem_append_left _ (List.mem_of_getElem? (i := 233) rfl)))) rfl
theorem ml_X10_260 : Cond.methodLink RX10 260 yX1_casesKnown ∈ Tg := tg_in (List.mem_append_right _ (List.mem_append_right _ (List.mem_append_left _ (List.mem_of_getElem? (i := 234) rfl)))) rfl
theorem ml_X10_263 : Cond.methodLink RX10 263 yX1_casesYes ∈ Tg := tg_in (List.mem_append_right _ (List.mem_append_right _ (List.mem_append_left _ (List.mem_of_getElem? (i := 235) rfl)))) rfl
theorem ml_L_117 : Cond.methodLink RL 117 yX10_status ∈ Tg := tg_in (List.mem_append_right _ (List.mem_append_right _ (List.mem_append_left _ (List.mem_of_getElem? (i := 236) rfl)))) rfl
theorem im_X10_status : Cond.instanceMethod yX10_status ∈ Tg := tg_in (List.mem_append_right _ (List.mem_append_right _ (List.mem_append_left _ (List.mem_of_getElem? (i := 237) rfl)))) rfl
theorem se_X10_status : Cond.selects RX10 yX10_status yX10_status ∈ Tg := tg_in (List.mem_append_right _ (List.mem_append_right _ (List.mem_append_left _ (List.mem_of_getElem? (i := 238) rfl)))) rfl
theorem co_X10_status : Cond.code yX10_status cX10_status 1 (some .int) ∈ Tg := tg_in (List.mem_append_right _ (List.mem_append_right _ (List.mem_append_left _ (List.mem_of_getElem? (i := 239) rfl)))) rfl
theorem kl_L_10 : Cond.classLink RL 10 RX11 ∈ Tg := tg_in (List.mem_append_right _ (List.mem_append_right _ (List.mem_append_right _ (List.mem_append_left _ (List.mem_of_getElem? (i := 0) rfl))))) rfl
theorem ib_X11 : Cond.instantiable RX11 30 ∈ Tg := tg_in (List.mem_append_right _ (List.mem_append_right _ (List.mem_append_right _ (List.mem_append_left _ (List.mem_of_getElem? (i := 1) rfl))))) rfl
theorem ml_L_12 : Cond.methodLink RL 12 yX11_init ∈ Tg := tg_in (List.mem_append_right _ (List.mem_append_right _ (List.mem_append_right _ (List.mem_append_left _ (List.mem_of_getElem? (i := 2) rfl))))) rfl
theorem im_X11_init : Cond.instanceMethod yX11_init ∈ Tg := tg_in (List.mem_append_right _ (List.mem_append_right _ (List.mem_append_right _ (List.mem_append_left _ (List.mem_of_getElem? (i := 3) rfl))))) rfl
theorem co_X11_init : Cond.code yX11_init cX11_init 1 none ∈ Tg := tg_in (List.mem_append_right _ (List.mem_append_right _ (List.mem_append_right _ (List.mem_append_left _ (List.mem_of_getElem? (i := 4) rfl))))) rfl
theorem ml_X11_1 : Cond.methodLink RX11 1 objectInit ∈ Tg := tg_in (List.mem_append_right _ (List.mem_append_right _ (List.mem_append_right _ (List.mem_append_left _ (List.mem_of_getElem? (i := 5) rfl))))) rfl
theorem fl_X11_52 : Cond.fieldLink RX11 52 RX11 "thrown" "I" ∈ Tg := tg_in (List.mem_append_right _ (List.mem_append_right _ (List.mem_append_right _ (List.mem_append_left _ (List.mem_of_getElem? (i := 6) rfl))))) rfl
theorem fl_X11_56 : Cond.fieldLink RX11 56 RX11 "status" "I" ∈ Tg := tg_in (List.mem_append_right _ (List.mem_append_right _ (List.mem_append_right _ (List.mem_append_left _ (List.mem_of_getElem? (i := 7) rfl))))) rfl
theorem fl_X11_7 : Cond.fieldLink RX11 7 RX11 "lane" "[I" ∈ Tg := tg_in (List.mem_append_right _ (List.mem_append_right _ (List.mem_append_right _ (List.mem_append_left _ (List.mem_of_getElem? (i := 8) rfl))))) rfl
theorem fl_X11_13 : Cond.fieldLink RX11 13 RX11 "many" "[I" ∈ Tg := tg_in (List.mem_append_right _ (List.mem_append_right _ (List.mem_append_right _ (List.mem_append_left _ (List.mem_of_getElem? (i := 9) rfl))))) rfl
theorem fl_X11_16 : Cond.fieldLink RX11 16 RX11 "item" "[I" ∈ Tg := tg_in (List.mem_append_right _ (List.mem_append_right _ (List.mem_append_right _ (List.mem_append_left _ (List.mem_of_getElem? (i := 10) rfl))))) rfl
theorem fl_X11_81 : Cond.fieldLink RX11 81 RX11 "code" "I" ∈ Tg := tg_in (List.mem_append_right _ (List.mem_append_right _ (List.mem_append_right _ (List.mem_append_left _ (List.mem_of_getElem? (i := 11) rfl))))) rfl
theorem fl_X11_19 : Cond.fieldLink RX11 19 RX11 "place" "[I" ∈ Tg := tg_in (List.mem_append_right _ (List.mem_append_right _ (List.mem_append_right _ (List.mem_append_left _ (List.mem_of_getElem? (i := 12) rfl))))) rfl
theorem fl_X11_189 : Cond.fieldLink RX11 189 RX11 "rules" "I" ∈ Tg := tg_in (List.mem_append_right _ (List.mem_append_right _ (List.mem_append_right _ (List.mem_append_left _ (List.mem_of_getElem? (i := 13) rfl))))) rfl
theorem fl_X11_22 : Cond.fieldLink RX11 22 RX11 "tests" "[I" ∈ Tg := tg_in (List.mem_append_right _ (List.mem_append_right _ (List.mem_append_right _ (List.mem_append_left _ (List.mem_of_getElem? (i := 14) rfl))))) rfl
theorem fl_X11_25 : Cond.fieldLink RX11 25 RX11 "test" "[I" ∈ Tg := tg_in (List.mem_append_right _ (List.mem_append_right _ (List.mem_append_right _ (List.mem_append_left _ (List.mem_of_getElem? (i := 15) rfl))))) rfl
theorem fl_X11_28 : Cond.fieldLink RX11 28 RX11 "says" "[I" ∈ Tg := tg_in (List.mem_append_right _ (List.mem_append_right _ (List.mem_append_right _ (List.mem_append_left _ (List.mem_of_getElem? (i := 16) rfl))))) rfl
theorem fl_X11_153 : Cond.fieldLink RX11 153 RX11 "read" "I" ∈ Tg := tg_in (List.mem_append_right _ (List.mem_append_right _ (List.mem_append_right _ (List.mem_append_left _ (List.mem_of_getElem? (i := 17) rfl))))) rfl
theorem fl_X11_31 : Cond.fieldLink RX11 31 RX11 "readTests" "[I" ∈ Tg := tg_in (List.mem_append_right _ (List.mem_append_right _ (List.mem_append_right _ (List.mem_append_left _ (List.mem_of_getElem? (i := 18) rfl))))) rfl
theorem fl_X11_34 : Cond.fieldLink RX11 34 RX11 "readTest" "[I" ∈ Tg := tg_in (List.mem_append_right _ (List.mem_append_right _ (List.mem_append_right _ (List.mem_append_left _ (List.mem_of_getElem? (i := 19) rfl))))) rfl
theorem fl_X11_37 : Cond.fieldLink RX11 37 RX11 "readSays" "[I" ∈ Tg := tg_in (List.mem_append_right _ (List.mem_append_right _ (List.mem_append_right _ (List.mem_append_left _ (List.mem_of_getElem? (i := 20) rfl))))) rfl
theorem fl_X11_40 : Cond.fieldLink RX11 40 RX11 "tape" "[I" ∈ Tg := tg_in (List.mem_append_right _ (List.mem_append_right _ (List.mem_append_right _ (List.mem_append_left _ (List.mem_of_getElem? (i := 21) rfl))))) rfl
theorem fl_X11_107 : Cond.fieldLink RX11 107 RX11 "taped" "I" ∈ Tg := tg_in (List.mem_append_right _ (List.mem_append_right _ (List.mem_append_right _ (List.mem_append_left _ (List.mem_of_getElem? (i := 22) rfl))))) rfl
theorem fl_X11_185 : Cond.fieldLink RX11 185 RX11 "latest" "I" ∈ Tg := tg_in (List.mem_append_right _ (List.mem_append_right _ (List.mem_append_right _ (List.mem_append_left _ (List.mem_of_getElem? (i := 23) rfl))))) rfl
theorem fl_X11_113 : Cond.fieldLink RX11 113 RX11 "size" "I" ∈ Tg := tg_in (List.mem_append_right _ (List.mem_append_right _ (List.mem_append_right _ (List.mem_append_left _ (List.mem_of_getElem? (i := 24) rfl))))) rfl
theorem fl_X11_116 : Cond.fieldLink RX11 116 RX11 "cursor" "I" ∈ Tg := tg_in (List.mem_append_right _ (List.mem_append_right _ (List.mem_append_right _ (List.mem_append_left _ (List.mem_of_getElem? (i := 25) rfl))))) rfl
theorem fl_X11_125 : Cond.fieldLink RX11 125 RX11 "sort" "I" ∈ Tg := tg_in (List.mem_append_right _ (List.mem_append_right _ (List.mem_append_right _ (List.mem_append_left _ (List.mem_of_getElem? (i := 26) rfl))))) rfl
theorem fl_X11_122 : Cond.fieldLink RX11 122 RX11 "from" "I" ∈ Tg := tg_in (List.mem_append_right _ (List.mem_append_right _ (List.mem_append_right _ (List.mem_append_left _ (List.mem_of_getElem? (i := 27) rfl))))) rfl
theorem fl_X11_134 : Cond.fieldLink RX11 134 RX11 "till" "I" ∈ Tg := tg_in (List.mem_append_right _ (List.mem_append_right _ (List.mem_append_right _ (List.mem_append_left _ (List.mem_of_getElem? (i := 28) rfl))))) rfl
theorem fl_X11_137 : Cond.fieldLink RX11 137 RX11 "fault" "I" ∈ Tg := tg_in (List.mem_append_right _ (List.mem_append_right _ (List.mem_append_right _ (List.mem_append_left _ (List.mem_of_getElem? (i := 29) rfl))))) rfl
theorem fl_X11_140 : Cond.fieldLink RX11 140 RX11 "faultAt" "I" ∈ Tg := tg_in (List.mem_append_right _ (List.mem_append_right _ (List.mem_append_right _ (List.mem_append_left _ (List.mem_of_getElem? (i := 30) rfl))))) rfl
theorem fl_X11_198 : Cond.fieldLink RX11 198 RX11 "cases" "I" ∈ Tg := tg_in (List.mem_append_right _ (List.mem_append_right _ (List.mem_append_right _ (List.mem_append_left _ (List.mem_of_getElem? (i := 31) rfl))))) rfl
theorem fl_X11_43 : Cond.fieldLink RX11 43 RX11 "caseCode" "[I" ∈ Tg := tg_in (List.mem_append_right _ (List.mem_append_right _ (List.mem_append_right _ (List.mem_append_left _ (List.mem_of_getElem? (i := 32) rfl))))) rfl
theorem fl_X11_46 : Cond.fieldLink RX11 46 RX11 "caseCame" "[I" ∈ Tg := tg_in (List.mem_append_right _ (List.mem_append_right _ (List.mem_append_right _ (List.mem_append_left _ (List.mem_of_getElem? (i := 33) rfl))))) rfl
theorem fl_X11_49 : Cond.fieldLink RX11 49 RX11 "trace" "[I" ∈ Tg := tg_in (List.mem_append_right _ (List.mem_append_right _ (List.mem_append_right _ (List.mem_append_left _ (List.mem_of_getElem? (i := 34) rfl))))) rfl
theorem fl_X11_215 : Cond.fieldLink RX11 215 RX11 "traced" "I" ∈ Tg := tg_in (List.mem_append_right _ (List.mem_append_right _ (List.mem_append_right _ (List.mem_append_left _ (List.mem_of_getElem? (i := 35) rfl))))) rfl
theorem ml_L_17 : Cond.methodLink RL 17 yX11_sheet ∈ Tg := tg_in (List.mem_append_right _ (List.mem_append_right _ (List.mem_append_right _ (List.mem_append_left _ (List.mem_of_getElem? (i := 97) rfl))))) rfl
theorem im_X11_sheet : Cond.instanceMethod yX11_sheet ∈ Tg := tg_in (List.mem_append_right _ (List.mem_append_right _ (List.mem_append_right _ (List.mem_append_left _ (List.mem_of_getElem? (i := 98) rfl))))) rfl
theorem se_X11_sheet : Cond.selects RX11 yX11_sheet yX11_sheet ∈ Tg := tg_in (List.mem_append_right _ (List.mem_append_right _ (List.mem_append_right _ (List.mem_append_left _ (List.mem_of_getElem? (i := 99) rfl))))) rfl
theorem co_X11_sheet : Cond.code yX11_sheet cX11_sheet 5 (some .int) ∈ Tg := tg_in (List.mem_append_right _ (List.mem_append_right _ (List.mem_append_right _ (List.mem_append_left _ (List.mem_of_getElem? (i := 100) rfl))))) rfl
theorem ml_X11_66 : Cond.methodLink RX11 66 yX11_isSheet ∈ Tg := tg_in (List.mem_append_right _ (List.mem_append_right _ (List.mem_append_right _ (List.mem_append_left _ (List.mem_of_getElem? (i := 101) rfl))))) rfl
theorem st_X11_isSheet : Cond.static yX11_isSheet ∈ Tg := tg_in (List.mem_append_right _ (List.mem_append_right _ (List.mem_append_right _ (List.mem_append_left _ (List.mem_of_getElem? (i := 102) rfl))))) rfl
theorem co_X11_isSheet : Cond.code yX11_isSheet cX11_isSheet 1 (some .boolean) ∈ Tg := tg_in (List.mem_append_right _ (List.mem_append_right _ (List.mem_append_right _ (List.mem_append_left _ (List.mem_of_getElem? (i := 103) rfl))))) rfl
theorem cn_X11_60 : Cond.constantLong RX11 60 (7) ∈ Tg := tg_in (List.mem_append_right _ (List.mem_append_right _ (List.mem_append_right _ (List.mem_append_left _ (List.mem_of_getElem? (i := 104) rfl))))) rfl
theorem ml_X11_62 : Cond.methodLink RX11 62 yX11_in ∈ Tg := tg_in (List.mem_append_right _ (List.mem_append_right _ (List.mem_append_right _ (List.mem_append_left _ (List.mem_of_getElem? (i := 105) rfl))))) rfl
theorem st_X11_in : Cond.static yX11_in ∈ Tg := tg_in (List.mem_append_right _ (List.mem_append_right _ (List.mem_append_right _ (List.mem_append_left _ (List.mem_of_getElem? (i := 106) rfl))))) rfl
theorem co_X11_in : Cond.code yX11_in cX11_in 6 (some .boolean) ∈ Tg := tg_in (List.mem_append_right _ (List.mem_append_right _ (List.mem_append_right _ (List.mem_append_left _ (List.mem_of_getElem? (i := 107) rfl))))) rfl
theorem cn_X11_70 : Cond.constantLong RX11 70 (2) ∈ Tg := tg_in (List.mem_append_right _ (List.mem_append_right _ (List.mem_append_right _ (List.mem_append_left _ (List.mem_of_getElem? (i := 108) rfl))))) rfl
theorem cn_X11_72 : Cond.constant RX11 72 (-1000001) ∈ Tg := tg_in (List.mem_append_right _ (List.mem_append_right _ (List.mem_append_right _ (List.mem_append_left _ (List.mem_of_getElem? (i := 109) rfl))))) rfl
theorem ml_X11_73 : Cond.methodLink RX11 73 yX11_found ∈ Tg := tg_in (List.mem_append_right _ (List.mem_append_right _ (List.mem_append_right _ (List.mem_append_left _ (List.mem_of_getElem? (i := 110) rfl))))) rfl
theorem im_X11_found : Cond.instanceMethod yX11_found ∈ Tg := tg_in (List.mem_append_right _ (List.mem_append_right _ (List.mem_append_right _ (List.mem_append_left _ (List.mem_of_getElem? (i := 112) rfl))))) rfl
theorem co_X11_found : Cond.code yX11_found cX11_found 2 (some .int) ∈ Tg := tg_in (List.mem_append_right _ (List.mem_append_right _ (List.mem_append_right _ (List.mem_append_left _ (List.mem_of_getElem? (i := 113) rfl))))) rfl
theorem cn_X11_59 : Cond.constant RX11 59 (-1000010) ∈ Tg := tg_in (List.mem_append_right _ (List.mem_append_right _ (List.mem_append_right _ (List.mem_append_left _ (List.mem_of_getElem? (i := 114) rfl))))) rfl
theorem ml_L_21 : Cond.methodLink RL 21 yX11_set ∈ Tg := tg_in (List.mem_append_right _ (List.mem_append_right _ (List.mem_append_right _ (List.mem_append_left _ (List.mem_of_getElem? (i := 115) rfl))))) rfl
theorem im_X11_set : Cond.instanceMethod yX11_set ∈ Tg := tg_in (List.mem_append_right _ (List.mem_append_right _ (List.mem_append_right _ (List.mem_append_left _ (List.mem_of_getElem? (i := 116) rfl))))) rfl
theorem se_X11_set : Cond.selects RX11 yX11_set yX11_set ∈ Tg := tg_in (List.mem_append_right _ (List.mem_append_right _ (List.mem_append_right _ (List.mem_append_left _ (List.mem_of_getElem? (i := 117) rfl))))) rfl
theorem co_X11_set : Cond.code yX11_set cX11_set 4 (some .int) ∈ Tg := tg_in (List.mem_append_right _ (List.mem_append_right _ (List.mem_append_right _ (List.mem_append_left _ (List.mem_of_getElem? (i := 118) rfl))))) rfl
theorem ml_L_26 : Cond.methodLink RL 26 yX11_copy ∈ Tg := tg_in (List.mem_append_right _ (List.mem_append_right _ (List.mem_append_right _ (List.mem_append_left _ (List.mem_of_getElem? (i := 119) rfl))))) rfl
theorem im_X11_copy : Cond.instanceMethod yX11_copy ∈ Tg := tg_in (List.mem_append_right _ (List.mem_append_right _ (List.mem_append_right _ (List.mem_append_left _ (List.mem_of_getElem? (i := 120) rfl))))) rfl
theorem se_X11_copy : Cond.selects RX11 yX11_copy yX11_copy ∈ Tg := tg_in (List.mem_append_right _ (List.mem_append_right _ (List.mem_append_right _ (List.mem_append_left _ (List.mem_of_getElem? (i := 121) rfl))))) rfl
theorem co_X11_copy : Cond.code yX11_copy cX11_copy 9 (some .int) ∈ Tg := tg_in (List.mem_append_right _ (List.mem_append_right _ (List.mem_append_right _ (List.mem_append_left _ (List.mem_of_getElem? (i := 122) rfl))))) rfl
theorem ml_L_31 : Cond.methodLink RL 31 yX11_drop ∈ Tg := tg_in (List.mem_append_right _ (List.mem_append_right _ (List.mem_append_right _ (List.mem_append_left _ (List.mem_of_getElem? (i := 123) rfl))))) rfl
theorem im_X11_drop : Cond.instanceMethod yX11_drop ∈ Tg := tg_in (List.mem_append_right _ (List.mem_append_right _ (List.mem_append_right _ (List.mem_append_left _ (List.mem_of_getElem? (i := 124) rfl))))) rfl
theorem se_X11_drop : Cond.selects RX11 yX11_drop yX11_drop ∈ Tg := tg_in (List.mem_append_right _ (List.mem_append_right _ (List.mem_append_right _ (List.mem_append_left _ (List.mem_of_getElem? (i := 125) rfl))))) rfl
theorem co_X11_drop : Cond.code yX11_drop cX11_drop 2 (some .int) ∈ Tg := tg_in (List.mem_append_right _ (List.mem_append_right _ (List.mem_append_right _ (List.mem_append_left _ (List.mem_of_getElem? (i := 126) rfl))))) rfl
theorem ml_L_36 : Cond.methodLink RL 36 yX11_cast ∈ Tg := tg_in (List.mem_append_right _ (List.mem_append_right _ (List.mem_append_right _ (List.mem_append_left _ (List.mem_of_getElem? (i := 127) rfl))))) rfl
theorem im_X11_cast : Cond.instanceMethod yX11_cast ∈ Tg := tg_in (List.mem_append_right _ (List.mem_append_right _ (List.mem_append_right _ (List.mem_append_left _ (List.mem_of_getElem? (i := 128) rfl))))) rfl
theorem se_X11_cast : Cond.selects RX11 yX11_cast yX11_cast ∈ Tg := tg_in (List.mem_append_right _ (List.mem_append_right _ (List.mem_append_right _ (List.mem_append_left _ (List.mem_of_getElem? (i := 129) rfl))))) rfl
theorem co_X11_cast : Cond.code yX11_cast cX11_cast 6 (some .int) ∈ Tg := tg_in (List.mem_append_right _ (List.mem_append_right _ (List.mem_append_right _ (List.mem_append_left _ (List.mem_of_getElem? (i := 130) rfl))))) rfl
theorem cn_X11_79 : Cond.constantLong RX11 79 (16) ∈ Tg := tg_in (List.mem_append_right _ (List.mem_append_right _ (List.mem_append_right _ (List.mem_append_left _ (List.mem_of_getElem? (i := 131) rfl))))) rfl
theorem ml_L_40 : Cond.methodLink RL 40 yX11_chart ∈ Tg := tg_in (List.mem_append_right _ (List.mem_append_right _ (List.mem_append_right _ (List.mem_append_left _ (List.mem_of_getElem? (i := 132) rfl))))) rfl
theorem im_X11_chart : Cond.instanceMethod yX11_chart ∈ Tg := tg_in (List.mem_append_right _ (List.mem_append_right _ (List.mem_append_right _ (List.mem_append_left _ (List.mem_of_getElem? (i := 133) rfl))))) rfl
theorem se_X11_chart : Cond.selects RX11 yX11_chart yX11_chart ∈ Tg := tg_in (List.mem_append_right _ (List.mem_append_right _ (List.mem_append_right _ (List.mem_append_left _ (List.mem_of_getElem? (i := 134) rfl))))) rfl
theorem co_X11_chart : Cond.code yX11_chart cX11_chart 3 (some .int) ∈ Tg := tg_in (List.mem_append_right _ (List.mem_append_right _ (List.mem_append_right _ (List.mem_append_left _ (List.mem_of_getElem? (i := 135) rfl))))) rfl
theorem cn_X11_84 : Cond.constantLong RX11 84 (65535) ∈ Tg := tg_in (List.mem_append_right _ (List.mem_append_right _ (List.mem_append_right _ (List.mem_append_left _ (List.mem_of_getElem? (i := 136) rfl))))) rfl
theorem ml_L_44 : Cond.methodLink RL 44 yX11_at ∈ Tg := tg_in (List.mem_append_right _ (List.mem_append_right _ (List.mem_append_right _ (List.mem_append_left _ (List.mem_of_getElem? (i := 137) rfl))))) rfl
theorem im_X11_at : Cond.instanceMethod yX11_at ∈ Tg := tg_in (List.mem_append_right _ (List.mem_append_right _ (List.mem_append_right _ (List.mem_append_left _ (List.mem_of_getElem? (i := 138) rfl))))) rfl
theorem se_X11_at : Cond.selects RX11 yX11_at yX11_at ∈ Tg := tg_in (List.mem_append_right _ (List.mem_append_right _ (List.mem_append_right _ (List.mem_append_left _ (List.mem_of_getElem? (i := 139) rfl))))) rfl
theorem co_X11_at : Cond.code yX11_at cX11_at 2 (some .int) ∈ Tg := tg_in (List.mem_append_right _ (List.mem_append_right _ (List.mem_append_right _ (List.mem_append_left _ (List.mem_of_getElem? (i := 140) rfl))))) rfl
theorem ml_X11_86 : Cond.methodLink RX11 86 yX11_lay ∈ Tg := tg_in (List.mem_append_right _ (List.mem_append_right _ (List.mem_append_right _ (List.mem_append_left _ (List.mem_of_getElem? (i := 141) rfl))))) rfl
theorem im_X11_lay : Cond.instanceMethod yX11_lay ∈ Tg := tg_in (List.mem_append_right _ (List.mem_append_right _ (List.mem_append_right _ (List.mem_append_left _ (List.mem_of_getElem? (i := 143) rfl))))) rfl
theorem co_X11_lay : Cond.code yX11_lay cX11_lay 4 none ∈ Tg := tg_in (List.mem_append_right _ (List.mem_append_right _ (List.mem_append_right _ (List.mem_append_left _ (List.mem_of_getElem? (i := 144) rfl))))) rfl
theorem ml_X11_90 : Cond.methodLink RX11 90 yX11_isFigure16 ∈ Tg := tg_in (List.mem_append_right _ (List.mem_append_right _ (List.mem_append_right _ (List.mem_append_left _ (List.mem_of_getElem? (i := 145) rfl))))) rfl
theorem st_X11_isFigure16 : Cond.static yX11_isFigure16 ∈ Tg := tg_in (List.mem_append_right _ (List.mem_append_right _ (List.mem_append_right _ (List.mem_append_left _ (List.mem_of_getElem? (i := 146) rfl))))) rfl
theorem co_X11_isFigure16 : Cond.code yX11_isFigure16 cX11_isFigure16 1 (some .boolean) ∈ Tg := tg_in (List.mem_append_right _ (List.mem_append_right _ (List.mem_append_right _ (List.mem_append_left _ (List.mem_of_getElem? (i := 147) rfl))))) rfl
theorem cn_X11_77 : Cond.constantLong RX11 77 (15) ∈ Tg := tg_in (List.mem_append_right _ (List.mem_append_right _ (List.mem_append_right _ (List.mem_append_left _ (List.mem_of_getElem? (i := 148) rfl))))) rfl
theorem ml_L_48 : Cond.methodLink RL 48 yX11_add ∈ Tg := tg_in (List.mem_append_right _ (List.mem_append_right _ (List.mem_append_right _ (List.mem_append_left _ (List.mem_of_getElem? (i := 149) rfl))))) rfl
theorem im_X11_add : Cond.instanceMethod yX11_add ∈ Tg := tg_in (List.mem_append_right _ (List.mem_append_right _ (List.mem_append_right _ (List.mem_append_left _ (List.mem_of_getElem? (i := 150) rfl))))) rfl
theorem se_X11_add : Cond.selects RX11 yX11_add yX11_add ∈ Tg := tg_in (List.mem_append_right _ (List.mem_append_right _ (List.mem_append_right _ (List.mem_append_left _ (List.mem_of_getElem? (i := 151) rfl))))) rfl
theorem co_X11_add : Cond.code yX11_add cX11_add 3 (some .int) ∈ Tg := tg_in (List.mem_append_right _ (List.mem_append_right _ (List.mem_append_right _ (List.mem_append_left _ (List.mem_of_getElem? (i := 152) rfl))))) rfl
theorem ml_L_52 : Cond.methodLink RL 52 yX11_seen ∈ Tg := tg_in (List.mem_append_right _ (List.mem_append_right _ (List.mem_append_right _ (List.mem_append_left _ (List.mem_of_getElem? (i := 153) rfl))))) rfl
theorem im_X11_seen : Cond.instanceMethod yX11_seen ∈ Tg := tg_in (List.mem_append_right _ (List.mem_append_right _ (List.mem_append_right _ (List.mem_append_left _ (List.mem_of_getElem? (i := 154) rfl))))) rfl
theorem se_X11_seen : Cond.selects RX11 yX11_seen yX11_seen ∈ Tg := tg_in (List.mem_append_right _ (List.mem_append_right _ (List.mem_append_right _ (List.mem_append_left _ (List.mem_of_getElem? (i := 155) rfl))))) rfl
theorem co_X11_seen : Cond.code yX11_seen cX11_seen 4 (some .int) ∈ Tg := tg_in (List.mem_append_right _ (List.mem_append_right _ (List.mem_append_right _ (List.mem_append_left _ (List.mem_of_getElem? (i := 156) rfl))))) rfl
theorem ml_L_57 : Cond.methodLink RL 57 yX11_point ∈ Tg := tg_in (List.mem_append_right _ (List.mem_append_right _ (List.mem_append_right _ (List.mem_append_left _ (List.mem_of_getElem? (i := 157) rfl))))) rfl
theorem im_X11_point : Cond.instanceMethod yX11_point ∈ Tg := tg_in (List.mem_append_right _ (List.mem_append_right _ (List.mem_append_right _ (List.mem_append_left _ (List.mem_of_getElem? (i := 158) rfl))))) rfl
theorem se_X11_point : Cond.selects RX11 yX11_point yX11_point ∈ Tg := tg_in (List.mem_append_right _ (List.mem_append_right _ (List.mem_append_right _ (List.mem_append_left _ (List.mem_of_getElem? (i := 159) rfl))))) rfl
theorem co_X11_point : Cond.code yX11_point cX11_point 7 (some .int) ∈ Tg := tg_in (List.mem_append_right _ (List.mem_append_right _ (List.mem_append_right _ (List.mem_append_left _ (List.mem_of_getElem? (i := 160) rfl))))) rfl
theorem ml_X11_93 : Cond.methodLink RX11 93 yX11_above ∈ Tg := tg_in (List.mem_append_right _ (List.mem_append_right _ (List.mem_append_right _ (List.mem_append_left _ (List.mem_of_getElem? (i := 161) rfl))))) rfl
theorem st_X11_above : Cond.static yX11_above ∈ Tg := tg_in (List.mem_append_right _ (List.mem_append_right _ (List.mem_append_right _ (List.mem_append_left _ (List.mem_of_getElem? (i := 162) rfl))))) rfl
theorem co_X11_above : Cond.code yX11_above cX11_above 1 (some .int) ∈ Tg := tg_in (List.mem_append_right _ (List.mem_append_right _ (List.mem_append_right _ (List.mem_append_left _ (List.mem_of_getElem? (i := 163) rfl))))) rfl
theorem ml_L_61 : Cond.methodLink RL 61 yX11_drawing ∈ Tg := tg_in (List.mem_append_right _ (List.mem_append_right _ (List.mem_append_right _ (List.mem_append_left _ (List.mem_of_getElem? (i := 164) rfl))))) rfl
theorem im_X11_drawing : Cond.instanceMethod yX11_drawing ∈ Tg := tg_in (List.mem_append_right _ (List.mem_append_right _ (List.mem_append_right _ (List.mem_append_left _ (List.mem_of_getElem? (i := 165) rfl))))) rfl
theorem se_X11_drawing : Cond.selects RX11 yX11_drawing yX11_drawing ∈ Tg := tg_in (List.mem_append_right _ (List.mem_append_right _ (List.mem_append_right _ (List.mem_append_left _ (List.mem_of_getElem? (i := 166) rfl))))) rfl
theorem co_X11_drawing : Cond.code yX11_drawing cX11_drawing 14 (some .int) ∈ Tg := tg_in (List.mem_append_right _ (List.mem_append_right _ (List.mem_append_right _ (List.mem_append_left _ (List.mem_of_getElem? (i := 167) rfl))))) rfl
theorem cn_X11_96 : Cond.constantLong RX11 96 (4) ∈ Tg := tg_in (List.mem_append_right _ (List.mem_append_right _ (List.mem_append_right _ (List.mem_append_left _ (List.mem_of_getElem? (i := 168) rfl))))) rfl
theorem cn_X11_98 : Cond.constantLong RX11 98 (-1) ∈ Tg := tg_in (List.mem_append_right _ (List.mem_append_right _ (List.mem_append_right _ (List.mem_append_left _ (List.mem_of_getElem? (i := 169) rfl))))) rfl
theorem cn_X11_100 : Cond.constant RX11 100 (-1000000) ∈ Tg := tg_in (List.mem_append_right _ (List.mem_append_right _ (List.mem_append_right _ (List.mem_append_left _ (List.mem_of_getElem? (i := 170) rfl))))) rfl
theorem cn_X11_101 : Cond.constant RX11 101 (65536) ∈ Tg := tg_in (List.mem_append_right _ (List.mem_append_right _ (List.mem_append_right _ (List.mem_append_left _ (List.mem_of_getElem? (i := 171) rfl))))) rfl
theorem ml_X11_102 : Cond.methodLink RX11 102 yX11_singles ∈ Tg := tg_in (List.mem_append_right _ (List.mem_append_right _ (List.mem_append_right _ (List.mem_append_left _ (List.mem_of_getElem? (i := 172) rfl))))) rfl
theorem st_X11_singles : Cond.static yX11_singles ∈ Tg := tg_in (List.mem_append_right _ (List.mem_append_right _ (List.mem_append_right _ (List.mem_append_left _ (List.mem_of_getElem? (i := 173) rfl))))) rfl
theorem co_X11_singles : Cond.code yX11_singles cX11_singles 1 (some .int) ∈ Tg := tg_in (List.mem_append_right _ (List.mem_append_right _ (List.mem_append_right _ (List.mem_append_left _ (List.mem_of_getElem? (i := 174) rfl))))) rfl
theorem ml_L_68 : Cond.methodLink RL 68 yX11_feed ∈ Tg := tg_in (List.mem_append_right _ (List.mem_append_right _ (List.mem_append_right _ (List.mem_append_left _ (List.mem_of_getElem? (i := 175) rfl))))) rfl
theorem im_X11_feed : Cond.instanceMethod yX11_feed ∈ Tg := tg_in (List.mem_append_right _ (List.mem_append_right _ (List.mem_append_right _ (List.mem_append_left _ (List.mem_of_getElem? (i := 176) rfl))))) rfl
theorem se_X11_feed : Cond.selects RX11 yX11_feed yX11_feed ∈ Tg := tg_in (List.mem_append_right _ (List.mem_append_right _ (List.mem_append_right _ (List.mem_append_left _ (List.mem_of_getElem? (i := 177) rfl))))) rfl
theorem co_X11_feed : Cond.code yX11_feed cX11_feed 5 (some .int) ∈ Tg := tg_in (List.mem_append_right _ (List.mem_append_right _ (List.mem_append_right _ (List.mem_append_left _ (List.mem_of_getElem? (i := 178) rfl))))) rfl
theorem cn_X11_105 : Cond.constantLong RX11 105 (8) ∈ Tg := tg_in (List.mem_append_right _ (List.mem_append_right _ (List.mem_append_right _ (List.mem_append_left _ (List.mem_of_getElem? (i := 179) rfl))))) rfl
theorem cn_X11_110 : Cond.constant RX11 110 (-1000003) ∈ Tg := tg_in (List.mem_append_right _ (List.mem_append_right _ (List.mem_append_right _ (List.mem_append_left _ (List.mem_of_getElem? (i := 180) rfl))))) rfl
theorem cn_X11_111 : Cond.constantLong RX11 111 (255) ∈ Tg := tg_in (List.mem_append_right _ (List.mem_append_right _ (List.mem_append_right _ (List.mem_append_left _ (List.mem_of_getElem? (i := 181) rfl))))) rfl
theorem ml_L_72 : Cond.methodLink RL 72 yX11_rules ∈ Tg := tg_in (List.mem_append_right _ (List.mem_append_right _ (List.mem_append_right _ (List.mem_append_left _ (List.mem_of_getElem? (i := 182) rfl))))) rfl
theorem im_X11_rules : Cond.instanceMethod yX11_rules ∈ Tg := tg_in (List.mem_append_right _ (List.mem_append_right _ (List.mem_append_right _ (List.mem_append_left _ (List.mem_of_getElem? (i := 183) rfl))))) rfl
theorem se_X11_rules : Cond.selects RX11 yX11_rules yX11_rules ∈ Tg := tg_in (List.mem_append_right _ (List.mem_append_right _ (List.mem_append_right _ (List.mem_append_left _ (List.mem_of_getElem? (i := 184) rfl))))) rfl
theorem co_X11_rules : Cond.code yX11_rules cX11_rules 3 (some .int) ∈ Tg := tg_in (List.mem_append_right _ (List.mem_append_right _ (List.mem_append_right _ (List.mem_append_left _ (List.mem_of_getElem? (i := 185) rfl))))) rfl
theorem ml_X11_146 : Cond.methodLink RX11 146 yX11_step ∈ Tg := tg_in (List.mem_append_right _ (List.mem_append_right _ (List.mem_append_right _ (List.mem_append_left _ (List.mem_of_getElem? (i := 186) rfl))))) rfl
theorem im_X11_step : Cond.instanceMethod yX11_step ∈ Tg := tg_in (List.mem_append_right _ (List.mem_append_right _ (List.mem_append_right _ (List.mem_append_left _ (List.mem_of_getElem? (i := 188) rfl))))) rfl
theorem co_X11_step : Cond.code yX11_step cX11_step 2 none ∈ Tg := tg_in (List.mem_append_right _ (List.mem_append_right _ (List.mem_append_right _ (List.mem_append_left _ (List.mem_of_getElem? (i := 189) rfl))))) rfl
theorem ml_X11_119 : Cond.methodLink RX11 119 yX11_byteAt ∈ Tg := tg_in (List.mem_append_right _ (List.mem_append_right _ (List.mem_append_right _ (List.mem_append_left _ (List.mem_of_getElem? (i := 190) rfl))))) rfl
theorem im_X11_byteAt : Cond.instanceMethod yX11_byteAt ∈ Tg := tg_in (List.mem_append_right _ (List.mem_append_right _ (List.mem_append_right _ (List.mem_append_left _ (List.mem_of_getElem? (i := 192) rfl))))) rfl
theorem co_X11_byteAt : Cond.code yX11_byteAt cX11_byteAt 2 (some .int) ∈ Tg := tg_in (List.mem_append_right _ (List.mem_append_right _ (List.mem_append_right _ (List.mem_append_left _ (List.mem_of_getElem? (i := 193) rfl))))) rfl
theorem ml_X11_128 : Cond.methodLink RX11 128 yX11_isLetter ∈ Tg := tg_in (List.mem_append_right _ (List.mem_append_right _ (List.mem_append_right _ (List.mem_append_left _ (List.mem_of_getElem? (i := 194) rfl))))) rfl
theorem st_X11_isLetter : Cond.static yX11_isLetter ∈ Tg := tg_in (List.mem_append_right _ (List.mem_append_right _ (List.mem_append_right _ (List.mem_append_left _ (List.mem_of_getElem? (i := 195) rfl))))) rfl
theorem co_X11_isLetter : Cond.code yX11_isLetter cX11_isLetter 1 (some .boolean) ∈ Tg := tg_in (List.mem_append_right _ (List.mem_append_right _ (List.mem_append_right _ (List.mem_append_left _ (List.mem_of_getElem? (i := 196) rfl))))) rfl
theorem ml_X11_131 : Cond.methodLink RX11 131 yX11_isFigure ∈ Tg := tg_in (List.mem_append_right _ (List.mem_append_right _ (List.mem_append_right _ (List.mem_append_left _ (List.mem_of_getElem? (i := 197) rfl))))) rfl
theorem st_X11_isFigure : Cond.static yX11_isFigure ∈ Tg := tg_in (List.mem_append_right _ (List.mem_append_right _ (List.mem_append_right _ (List.mem_append_left _ (List.mem_of_getElem? (i := 198) rfl))))) rfl
theorem co_X11_isFigure : Cond.code yX11_isFigure cX11_isFigure 1 (some .boolean) ∈ Tg := tg_in (List.mem_append_right _ (List.mem_append_right _ (List.mem_append_right _ (List.mem_append_left _ (List.mem_of_getElem? (i := 199) rfl))))) rfl
theorem ml_X11_182 : Cond.methodLink RX11 182 yX11_readRule ∈ Tg := tg_in (List.mem_append_right _ (List.mem_append_right _ (List.mem_append_right _ (List.mem_append_left _ (List.mem_of_getElem? (i := 200) rfl))))) rfl
theorem im_X11_readRule : Cond.instanceMethod yX11_readRule ∈ Tg := tg_in (List.mem_append_right _ (List.mem_append_right _ (List.mem_append_right _ (List.mem_append_left _ (List.mem_of_getElem? (i := 202) rfl))))) rfl
theorem co_X11_readRule : Cond.code yX11_readRule cX11_readRule 3 none ∈ Tg := tg_in (List.mem_append_right _ (List.mem_append_right _ (List.mem_append_right _ (List.mem_append_left _ (List.mem_of_getElem? (i := 203) rfl))))) rfl
theorem ml_X11_156 : Cond.methodLink RX11 156 yX11_word ∈ Tg := tg_in (List.mem_append_right _ (List.mem_append_right _ (List.mem_append_right _ (List.mem_append_left _ (List.mem_of_getElem? (i := 204) rfl))))) rfl
theorem im_X11_word : Cond.instanceMethod yX11_word ∈ Tg := tg_in (List.mem_append_right _ (List.mem_append_right _ (List.mem_append_right _ (List.mem_append_left _ (List.mem_of_getElem? (i := 206) rfl))))) rfl
theorem co_X11_word : Cond.code yX11_word cX11_word 4 (some .long) ∈ Tg := tg_in (List.mem_append_right _ (List.mem_append_right _ (List.mem_append_right _ (List.mem_append_left _ (List.mem_of_getElem? (i := 207) rfl))))) rfl
theorem cn_X11_174 : Cond.constantLong RX11 174 (26982) ∈ Tg := tg_in (List.mem_append_right _ (List.mem_append_right _ (List.mem_append_right _ (List.mem_append_left _ (List.mem_of_getElem? (i := 208) rfl))))) rfl
theorem ml_X11_143 : Cond.methodLink RX11 143 yX11_bad ∈ Tg := tg_in (List.mem_append_right _ (List.mem_append_right _ (List.mem_append_right _ (List.mem_append_left _ (List.mem_of_getElem? (i := 209) rfl))))) rfl
theorem im_X11_bad : Cond.instanceMethod yX11_bad ∈ Tg := tg_in (List.mem_append_right _ (List.mem_append_right _ (List.mem_append_right _ (List.mem_append_left _ (List.mem_of_getElem? (i := 211) rfl))))) rfl
theorem co_X11_bad : Cond.code yX11_bad cX11_bad 2 none ∈ Tg := tg_in (List.mem_append_right _ (List.mem_append_right _ (List.mem_append_right _ (List.mem_append_left _ (List.mem_of_getElem? (i := 212) rfl))))) rfl
theorem ml_X11_149 : Cond.methodLink RX11 149 yX11_need ∈ Tg := tg_in (List.mem_append_right _ (List.mem_append_right _ (List.mem_append_right _ (List.mem_append_left _ (List.mem_of_getElem? (i := 213) rfl))))) rfl
theorem im_X11_need : Cond.instanceMethod yX11_need ∈ Tg := tg_in (List.mem_append_right _ (List.mem_append_right _ (List.mem_append_right _ (List.mem_append_left _ (List.mem_of_getElem? (i := 215) rfl))))) rfl
theorem co_X11_need : Cond.code yX11_need cX11_need 2 none ∈ Tg := tg_in (List.mem_append_right _ (List.mem_append_right _ (List.mem_append_right _ (List.mem_append_left _ (List.mem_of_getElem? (i := 216) rfl))))) rfl
theorem ml_X11_176 : Cond.methodLink RX11 176 yX11_readTest ∈ Tg := tg_in (List.mem_append_right _ (List.mem_append_right _ (List.mem_append_right _ (List.mem_append_left _ (List.mem_of_getElem? (i := 217) rfl))))) rfl
theorem im_X11_readTest : Cond.instanceMethod yX11_readTest ∈ Tg := tg_in (List.mem_append_right _ (List.mem_append_right _ (List.mem_append_right _ (List.mem_append_left _ (List.mem_of_getElem? (i := 219) rfl))))) rfl
theorem co_X11_readTest : Cond.code yX11_readTest cX11_readTest 6 none ∈ Tg := tg_in (List.mem_append_right _ (List.mem_append_right _ (List.mem_append_right _ (List.mem_append_left _ (List.mem_of_getElem? (i := 220) rfl))))) rfl
theorem cn_X11_160 : Cond.constantLong RX11 160 (6711655) ∈ Tg := tg_in (List.mem_append_right _ (List.mem_append_right _ (List.mem_append_right _ (List.mem_append_left _ (List.mem_of_getElem? (i := 221) rfl))))) rfl
theorem cn_X11_162 : Cond.constantLong RX11 162 (1935764837) ∈ Tg := tg_in (List.mem_append_right _ (List.mem_append_right _ (List.mem_append_right _ (List.mem_append_left _ (List.mem_of_getElem? (i := 222) rfl))))) rfl
theorem cn_X11_164 : Cond.constantLong RX11 164 (1885434739) ∈ Tg := tg_in (List.mem_append_right _ (List.mem_append_right _ (List.mem_append_right _ (List.mem_append_left _ (List.mem_of_getElem? (i := 223) rfl))))) rfl
theorem cn_X11_166 : Cond.constantLong RX11 166 (1702258030) ∈ Tg := tg_in (List.mem_append_right _ (List.mem_append_right _ (List.mem_append_right _ (List.mem_append_left _ (List.mem_of_getElem? (i := 224) rfl))))) rfl
theorem ml_X11_168 : Cond.methodLink RX11 168 yX11_numberIn ∈ Tg := tg_in (List.mem_append_right _ (List.mem_append_right _ (List.mem_append_right _ (List.mem_append_left _ (List.mem_of_getElem? (i := 225) rfl))))) rfl
theorem im_X11_numberIn : Cond.instanceMethod yX11_numberIn ∈ Tg := tg_in (List.mem_append_right _ (List.mem_append_right _ (List.mem_append_right _ (List.mem_append_left _ (List.mem_of_getElem? (i := 227) rfl))))) rfl
theorem co_X11_numberIn : Cond.code yX11_numberIn cX11_numberIn 5 (some .int) ∈ Tg := tg_in (List.mem_append_right _ (List.mem_append_right _ (List.mem_append_right _ (List.mem_append_left _ (List.mem_of_getElem? (i := 228) rfl))))) rfl
theorem cn_X11_172 : Cond.constantLong RX11 172 (24948) ∈ Tg := tg_in (List.mem_append_right _ (List.mem_append_right _ (List.mem_append_right _ (List.mem_append_left _ (List.mem_of_getElem? (i := 229) rfl))))) rfl
theorem cn_X11_178 : Cond.constantLong RX11 178 (6385252) ∈ Tg := tg_in (List.mem_append_right _ (List.mem_append_right _ (List.mem_append_right _ (List.mem_append_left _ (List.mem_of_getElem? (i := 230) rfl))))) rfl
theorem cn_X11_180 : Cond.constantLong RX11 180 (7561593) ∈ Tg := tg_in (List.mem_append_right _ (List.mem_append_right _ (List.mem_append_right _ (List.mem_append_left _ (List.mem_of_getElem? (i := 231) rfl))))) rfl
theorem cn_X11_188 : Cond.constant RX11 188 (-1000100) ∈ Tg := tg_in (List.mem_append_right _ (List.mem_append_right _ (List.mem_append_right _ (List.mem_append_left _ (List.mem_of_getElem? (i := 232) rfl))))) rfl
theorem ml_L_76 : Cond.methodLink RL 76 yX11_fault ∈ Tg := tg_in (List.mem_append_right _ (List.mem_append_right _ (List.mem_append_right _ (List.mem_append_left _ (List.mem_of_getElem? (i := 233) rfl))))) rfl
theorem im_X11_fault : Cond.instanceMethod yX11_fault ∈ Tg := tg_in (List.mem_append_right _ (List.mem_append_right _ (List.mem_append_right _ (List.mem_append_left _ (List.mem_of_getElem? (i := 234) rfl))))) rfl
theorem se_X11_fault : Cond.selects RX11 yX11_fault yX11_fault ∈ Tg := tg_in (List.mem_append_right _ (List.mem_append_right _ (List.mem_append_right _ (List.mem_append_left _ (List.mem_of_getElem? (i := 235) rfl))))) rfl
theorem co_X11_fault : Cond.code yX11_fault cX11_fault 1 (some .int) ∈ Tg := tg_in (List.mem_append_right _ (List.mem_append_right _ (List.mem_append_right _ (List.mem_append_left _ (List.mem_of_getElem? (i := 236) rfl))))) rfl
theorem ml_L_80 : Cond.methodLink RL 80 yX11_said ∈ Tg := tg_in (List.mem_append_right _ (List.mem_append_right _ (List.mem_append_right _ (List.mem_append_left _ (List.mem_of_getElem? (i := 237) rfl))))) rfl
theorem im_X11_said : Cond.instanceMethod yX11_said ∈ Tg := tg_in (List.mem_append_right _ (List.mem_append_right _ (List.mem_append_right _ (List.mem_append_left _ (List.mem_of_getElem? (i := 238) rfl))))) rfl
theorem se_X11_said : Cond.selects RX11 yX11_said yX11_said ∈ Tg := tg_in (List.mem_append_right _ (List.mem_append_right _ (List.mem_append_right _ (List.mem_append_left _ (List.mem_of_getElem? (i := 239) rfl))))) rfl
theorem co_X11_said : Cond.code yX11_said cX11_said 3 (some .int) ∈ Tg := tg_in (List.mem_append_right _ (List.mem_append_right _ (List.mem_append_right _ (List.mem_append_right _ (List.mem_of_getElem? (i := 0) rfl))))) rfl
theorem ml_X11_192 : Cond.methodLink RX11 192 yX11_isTrue ∈ Tg := tg_in (List.mem_append_right _ (List.mem_append_right _ (List.mem_append_right _ (List.mem_append_right _ (List.mem_of_getElem? (i := 1) rfl))))) rfl
theorem im_X11_isTrue : Cond.instanceMethod yX11_isTrue ∈ Tg := tg_in (List.mem_append_right _ (List.mem_append_right _ (List.mem_append_right _ (List.mem_append_right _ (List.mem_of_getElem? (i := 3) rfl))))) rfl
theorem co_X11_isTrue : Cond.code yX11_isTrue cX11_isTrue 9 (some .boolean) ∈ Tg := tg_in (List.mem_append_right _ (List.mem_append_right _ (List.mem_append_right _ (List.mem_append_right _ (List.mem_of_getElem? (i := 4) rfl))))) rfl
theorem ml_L_84 : Cond.methodLink RL 84 yX11_holds ∈ Tg := tg_in (List.mem_append_right _ (List.mem_append_right _ (List.mem_append_right _ (List.mem_append_right _ (List.mem_of_getElem? (i := 5) rfl))))) rfl
theorem im_X11_holds : Cond.instanceMethod yX11_holds ∈ Tg := tg_in (List.mem_append_right _ (List.mem_append_right _ (List.mem_append_right _ (List.mem_append_right _ (List.mem_of_getElem? (i := 6) rfl))))) rfl
theorem se_X11_holds : Cond.selects RX11 yX11_holds yX11_holds ∈ Tg := tg_in (List.mem_append_right _ (List.mem_append_right _ (List.mem_append_right _ (List.mem_append_right _ (List.mem_of_getElem? (i := 7) rfl))))) rfl
theorem co_X11_holds : Cond.code yX11_holds cX11_holds 2 (some .int) ∈ Tg := tg_in (List.mem_append_right _ (List.mem_append_right _ (List.mem_append_right _ (List.mem_append_right _ (List.mem_of_getElem? (i := 8) rfl))))) rfl
theorem ml_X11_195 : Cond.methodLink RX11 195 yX11_isRule ∈ Tg := tg_in (List.mem_append_right _ (List.mem_append_right _ (List.mem_append_right _ (List.mem_append_right _ (List.mem_of_getElem? (i := 9) rfl))))) rfl
theorem im_X11_isRule : Cond.instanceMethod yX11_isRule ∈ Tg := tg_in (List.mem_append_right _ (List.mem_append_right _ (List.mem_append_right _ (List.mem_append_right _ (List.mem_of_getElem? (i := 11) rfl))))) rfl
theorem co_X11_isRule : Cond.code yX11_isRule cX11_isRule 2 (some .boolean) ∈ Tg := tg_in (List.mem_append_right _ (List.mem_append_right _ (List.mem_append_right _ (List.mem_append_right _ (List.mem_of_getElem? (i := 12) rfl))))) rfl
theorem ml_L_88 : Cond.methodLink RL 88 yX11_record ∈ Tg := tg_in (List.mem_append_right _ (List.mem_append_right _ (List.mem_append_right _ (List.mem_append_right _ (List.mem_of_getElem? (i := 13) rfl))))) rfl
theorem im_X11_record : Cond.instanceMethod yX11_record ∈ Tg := tg_in (List.mem_append_right _ (List.mem_append_right _ (List.mem_append_right _ (List.mem_append_right _ (List.mem_of_getElem? (i := 14) rfl))))) rfl
theorem se_X11_record : Cond.selects RX11 yX11_record yX11_record ∈ Tg := tg_in (List.mem_append_right _ (List.mem_append_right _ (List.mem_append_right _ (List.mem_append_right _ (List.mem_of_getElem? (i := 15) rfl))))) rfl
theorem co_X11_record : Cond.code yX11_record cX11_record 2 (some .int) ∈ Tg := tg_in (List.mem_append_right _ (List.mem_append_right _ (List.mem_append_right _ (List.mem_append_right _ (List.mem_of_getElem? (i := 16) rfl))))) rfl
theorem ml_L_92 : Cond.methodLink RL 92 yX11_worth ∈ Tg := tg_in (List.mem_append_right _ (List.mem_append_right _ (List.mem_append_right _ (List.mem_append_right _ (List.mem_of_getElem? (i := 17) rfl))))) rfl
theorem im_X11_worth : Cond.instanceMethod yX11_worth ∈ Tg := tg_in (List.mem_append_right _ (List.mem_append_right _ (List.mem_append_right _ (List.mem_append_right _ (List.mem_of_getElem? (i := 18) rfl))))) rfl
theorem se_X11_worth : Cond.selects RX11 yX11_worth yX11_worth ∈ Tg := tg_in (List.mem_append_right _ (List.mem_append_right _ (List.mem_append_right _ (List.mem_append_right _ (List.mem_of_getElem? (i := 19) rfl))))) rfl
theorem co_X11_worth : Cond.code yX11_worth cX11_worth 3 (some .int) ∈ Tg := tg_in (List.mem_append_right _ (List.mem_append_right _ (List.mem_append_right _ (List.mem_append_right _ (List.mem_of_getElem? (i := 20) rfl))))) rfl
theorem cn_X11_207 : Cond.constantLong RX11 207 (3) ∈ Tg := tg_in (List.mem_append_right _ (List.mem_append_right _ (List.mem_append_right _ (List.mem_append_right _ (List.mem_of_getElem? (i := 21) rfl))))) rfl
theorem ml_X11_201 : Cond.methodLink RX11 201 yX11_holdsIn ∈ Tg := tg_in (List.mem_append_right _ (List.mem_append_right _ (List.mem_append_right _ (List.mem_append_right _ (List.mem_of_getElem? (i := 22) rfl))))) rfl
theorem im_X11_holdsIn : Cond.instanceMethod yX11_holdsIn ∈ Tg := tg_in (List.mem_append_right _ (List.mem_append_right _ (List.mem_append_right _ (List.mem_append_right _ (List.mem_of_getElem? (i := 24) rfl))))) rfl
theorem co_X11_holdsIn : Cond.code yX11_holdsIn cX11_holdsIn 5 (some .int) ∈ Tg := tg_in (List.mem_append_right _ (List.mem_append_right _ (List.mem_append_right _ (List.mem_append_right _ (List.mem_of_getElem? (i := 25) rfl))))) rfl
theorem ml_X11_209 : Cond.methodLink RX11 209 yX11_worthOf ∈ Tg := tg_in (List.mem_append_right _ (List.mem_append_right _ (List.mem_append_right _ (List.mem_append_right _ (List.mem_of_getElem? (i := 26) rfl))))) rfl
theorem im_X11_worthOf : Cond.instanceMethod yX11_worthOf ∈ Tg := tg_in (List.mem_append_right _ (List.mem_append_right _ (List.mem_append_right _ (List.mem_append_right _ (List.mem_of_getElem? (i := 28) rfl))))) rfl
theorem co_X11_worthOf : Cond.code yX11_worthOf cX11_worthOf 4 (some .int) ∈ Tg := tg_in (List.mem_append_right _ (List.mem_append_right _ (List.mem_append_right _ (List.mem_append_right _ (List.mem_of_getElem? (i := 29) rfl))))) rfl
theorem ml_X11_204 : Cond.methodLink RX11 204 yX11_cameSo ∈ Tg := tg_in (List.mem_append_right _ (List.mem_append_right _ (List.mem_append_right _ (List.mem_append_right _ (List.mem_of_getElem? (i := 30) rfl))))) rfl
theorem im_X11_cameSo : Cond.instanceMethod yX11_cameSo ∈ Tg := tg_in (List.mem_append_right _ (List.mem_append_right _ (List.mem_append_right _ (List.mem_append_right _ (List.mem_of_getElem? (i := 32) rfl))))) rfl
theorem co_X11_cameSo : Cond.code yX11_cameSo cX11_cameSo 4 (some .int) ∈ Tg := tg_in (List.mem_append_right _ (List.mem_append_right _ (List.mem_append_right _ (List.mem_append_right _ (List.mem_of_getElem? (i := 33) rfl))))) rfl
theorem ml_L_96 : Cond.methodLink RL 96 yX11_best ∈ Tg := tg_in (List.mem_append_right _ (List.mem_append_right _ (List.mem_append_right _ (List.mem_append_right _ (List.mem_of_getElem? (i := 34) rfl))))) rfl
theorem im_X11_best : Cond.instanceMethod yX11_best ∈ Tg := tg_in (List.mem_append_right _ (List.mem_append_right _ (List.mem_append_right _ (List.mem_append_right _ (List.mem_of_getElem? (i := 35) rfl))))) rfl
theorem se_X11_best : Cond.selects RX11 yX11_best yX11_best ∈ Tg := tg_in (List.mem_append_right _ (List.mem_append_right _ (List.mem_append_right _ (List.mem_append_right _ (List.mem_of_getElem? (i := 36) rfl))))) rfl
theorem co_X11_best : Cond.code yX11_best cX11_best 5 (some .int) ∈ Tg := tg_in (List.mem_append_right _ (List.mem_append_right _ (List.mem_append_right _ (List.mem_append_right _ (List.mem_of_getElem? (i := 37) rfl))))) rfl
theorem ml_L_100 : Cond.methodLink RL 100 yX11_kind ∈ Tg := tg_in (List.mem_append_right _ (List.mem_append_right _ (List.mem_append_right _ (List.mem_append_right _ (List.mem_of_getElem? (i := 38) rfl))))) rfl
theorem im_X11_kind : Cond.instanceMethod yX11_kind ∈ Tg := tg_in (List.mem_append_right _ (List.mem_append_right _ (List.mem_append_right _ (List.mem_append_right _ (List.mem_of_getElem? (i := 39) rfl))))) rfl
theorem se_X11_kind : Cond.selects RX11 yX11_kind yX11_kind ∈ Tg := tg_in (List.mem_append_right _ (List.mem_append_right _ (List.mem_append_right _ (List.mem_append_right _ (List.mem_of_getElem? (i := 40) rfl))))) rfl
theorem co_X11_kind : Cond.code yX11_kind cX11_kind 2 (some .int) ∈ Tg := tg_in (List.mem_append_right _ (List.mem_append_right _ (List.mem_append_right _ (List.mem_append_right _ (List.mem_of_getElem? (i := 41) rfl))))) rfl
theorem ml_X11_212 : Cond.methodLink RX11 212 yX11_kindOf ∈ Tg := tg_in (List.mem_append_right _ (List.mem_append_right _ (List.mem_append_right _ (List.mem_append_right _ (List.mem_of_getElem? (i := 42) rfl))))) rfl
theorem st_X11_kindOf : Cond.static yX11_kindOf ∈ Tg := tg_in (List.mem_append_right _ (List.mem_append_right _ (List.mem_append_right _ (List.mem_append_right _ (List.mem_of_getElem? (i := 43) rfl))))) rfl
theorem co_X11_kindOf : Cond.code yX11_kindOf cX11_kindOf 2 (some .int) ∈ Tg := tg_in (List.mem_append_right _ (List.mem_append_right _ (List.mem_append_right _ (List.mem_append_right _ (List.mem_of_getElem? (i := 44) rfl))))) rfl
theorem ml_L_104 : Cond.methodLink RL 104 yX11_as ∈ Tg := tg_in (List.mem_append_right _ (List.mem_append_right _ (List.mem_append_right _ (List.mem_append_right _ (List.mem_of_getElem? (i := 45) rfl))))) rfl
theorem im_X11_as : Cond.instanceMethod yX11_as ∈ Tg := tg_in (List.mem_append_right _ (List.mem_append_right _ (List.mem_append_right _ (List.mem_append_right _ (List.mem_of_getElem? (i := 46) rfl))))) rfl
theorem se_X11_as : Cond.selects RX11 yX11_as yX11_as ∈ Tg := tg_in (List.mem_append_right _ (List.mem_append_right _ (List.mem_append_right _ (List.mem_append_right _ (List.mem_of_getElem? (i := 47) rfl))))) rfl
theorem co_X11_as : Cond.code yX11_as cX11_as 4 (some .int) ∈ Tg := tg_in (List.mem_append_right _ (List.mem_append_right _ (List.mem_append_right _ (List.mem_append_right _ (List.mem_of_getElem? (i := 48) rfl))))) rfl
theorem ml_L_108 : Cond.methodLink RL 108 yX11_ask ∈ Tg := tg_in (List.mem_append_right _ (List.mem_append_right _ (List.mem_append_right _ (List.mem_append_right _ (List.mem_of_getElem? (i := 49) rfl))))) rfl
theorem im_X11_ask : Cond.instanceMethod yX11_ask ∈ Tg := tg_in (List.mem_append_right _ (List.mem_append_right _ (List.mem_append_right _ (List.mem_append_right _ (List.mem_of_getElem? (i := 50) rfl))))) rfl
theorem se_X11_ask : Cond.selects RX11 yX11_ask yX11_ask ∈ Tg := tg_in (List.mem_append_right _ (List.mem_append_right _ (List.mem_append_right _ (List.mem_append_right _ (List.mem_of_getElem? (i := 51) rfl))))) rfl
theorem co_X11_ask : Cond.code yX11_ask cX11_ask 3 (some .int) ∈ Tg := tg_in (List.mem_append_right _ (List.mem_append_right _ (List.mem_append_right _ (List.mem_append_right _ (List.mem_of_getElem? (i := 52) rfl))))) rfl
theorem ml_X11_227 : Cond.methodLink RX11 227 yX11_sized ∈ Tg := tg_in (List.mem_append_right _ (List.mem_append_right _ (List.mem_append_right _ (List.mem_append_right _ (List.mem_of_getElem? (i := 53) rfl))))) rfl
theorem im_X11_sized : Cond.instanceMethod yX11_sized ∈ Tg := tg_in (List.mem_append_right _ (List.mem_append_right _ (List.mem_append_right _ (List.mem_append_right _ (List.mem_of_getElem? (i := 55) rfl))))) rfl
theorem co_X11_sized : Cond.code yX11_sized cX11_sized 4 (some .int) ∈ Tg := tg_in (List.mem_append_right _ (List.mem_append_right _ (List.mem_append_right _ (List.mem_append_right _ (List.mem_of_getElem? (i := 56) rfl))))) rfl
theorem ml_X11_221 : Cond.methodLink RX11 221 yX11_oddSize ∈ Tg := tg_in (List.mem_append_right _ (List.mem_append_right _ (List.mem_append_right _ (List.mem_append_right _ (List.mem_of_getElem? (i := 57) rfl))))) rfl
theorem im_X11_oddSize : Cond.instanceMethod yX11_oddSize ∈ Tg := tg_in (List.mem_append_right _ (List.mem_append_right _ (List.mem_append_right _ (List.mem_append_right _ (List.mem_of_getElem? (i := 59) rfl))))) rfl
theorem co_X11_oddSize : Cond.code yX11_oddSize cX11_oddSize 2 (some .int) ∈ Tg := tg_in (List.mem_append_right _ (List.mem_append_right _ (List.mem_append_right _ (List.mem_append_right _ (List.mem_of_getElem? (i := 60) rfl))))) rfl
theorem ml_X11_218 : Cond.methodLink RX11 218 yX11_began ∈ Tg := tg_in (List.mem_append_right _ (List.mem_append_right _ (List.mem_append_right _ (List.mem_append_right _ (List.mem_of_getElem? (i := 61) rfl))))) rfl
theorem im_X11_began : Cond.instanceMethod yX11_began ∈ Tg := tg_in (List.mem_append_right _ (List.mem_append_right _ (List.mem_append_right _ (List.mem_append_right _ (List.mem_of_getElem? (i := 63) rfl))))) rfl
theorem co_X11_began : Cond.code yX11_began cX11_began 2 none ∈ Tg := tg_in (List.mem_append_right _ (List.mem_append_right _ (List.mem_append_right _ (List.mem_append_right _ (List.mem_of_getElem? (i := 64) rfl))))) rfl
theorem ml_X11_224 : Cond.methodLink RX11 224 yX11_marked ∈ Tg := tg_in (List.mem_append_right _ (List.mem_append_right _ (List.mem_append_right _ (List.mem_append_right _ (List.mem_of_getElem? (i := 65) rfl))))) rfl
theorem im_X11_marked : Cond.instanceMethod yX11_marked ∈ Tg := tg_in (List.mem_append_right _ (List.mem_append_right _ (List.mem_append_right _ (List.mem_append_right _ (List.mem_of_getElem? (i := 67) rfl))))) rfl
theorem co_X11_marked : Cond.code yX11_marked cX11_marked 3 (some .int) ∈ Tg := tg_in (List.mem_append_right _ (List.mem_append_right _ (List.mem_append_right _ (List.mem_append_right _ (List.mem_of_getElem? (i := 68) rfl))))) rfl
theorem ml_L_112 : Cond.methodLink RL 112 yX11_trace ∈ Tg := tg_in (List.mem_append_right _ (List.mem_append_right _ (List.mem_append_right _ (List.mem_append_right _ (List.mem_of_getElem? (i := 69) rfl))))) rfl
theorem im_X11_trace : Cond.instanceMethod yX11_trace ∈ Tg := tg_in (List.mem_append_right _ (List.mem_append_right _ (List.mem_append_right _ (List.mem_append_right _ (List.mem_of_getElem? (i := 70) rfl))))) rfl
theorem se_X11_trace : Cond.selects RX11 yX11_trace yX11_trace ∈ Tg := tg_in (List.mem_append_right _ (List.mem_append_right _ (List.mem_append_right _ (List.mem_append_right _ (List.mem_of_getElem? (i := 71) rfl))))) rfl
theorem co_X11_trace : Cond.code yX11_trace cX11_trace 2 (some .int) ∈ Tg := tg_in (List.mem_append_right _ (List.mem_append_right _ (List.mem_append_right _ (List.mem_append_right _ (List.mem_of_getElem? (i := 72) rfl))))) rfl
theorem ml_L_116 : Cond.methodLink RL 116 yX11_count ∈ Tg := tg_in (List.mem_append_right _ (List.mem_append_right _ (List.mem_append_right _ (List.mem_append_right _ (List.mem_of_getElem? (i := 73) rfl))))) rfl
theorem im_X11_count : Cond.instanceMethod yX11_count ∈ Tg := tg_in (List.mem_append_right _ (List.mem_append_right _ (List.mem_append_right _ (List.mem_append_right _ (List.mem_of_getElem? (i := 74) rfl))))) rfl
theorem se_X11_count : Cond.selects RX11 yX11_count yX11_count ∈ Tg := tg_in (List.mem_append_right _ (List.mem_append_right _ (List.mem_append_right _ (List.mem_append_right _ (List.mem_of_getElem? (i := 75) rfl))))) rfl
theorem co_X11_count : Cond.code yX11_count cX11_count 4 (some .int) ∈ Tg := tg_in (List.mem_append_right _ (List.mem_append_right _ (List.mem_append_right _ (List.mem_append_right _ (List.mem_of_getElem? (i := 76) rfl))))) rfl
theorem ml_L_120 : Cond.methodLink RL 120 yX11_status ∈ Tg := tg_in (List.mem_append_right _ (List.mem_append_right _ (List.mem_append_right _ (List.mem_append_right _ (List.mem_of_getElem? (i := 77) rfl))))) rfl
theorem im_X11_status : Cond.instanceMethod yX11_status ∈ Tg := tg_in (List.mem_append_right _ (List.mem_append_right _ (List.mem_append_right _ (List.mem_append_right _ (List.mem_of_getElem? (i := 78) rfl))))) rfl
theorem se_X11_status : Cond.selects RX11 yX11_status yX11_status ∈ Tg := tg_in (List.mem_append_right _ (List.mem_append_right _ (List.mem_append_right _ (List.mem_append_right _ (List.mem_of_getElem? (i := 79) rfl))))) rfl
theorem co_X11_status : Cond.code yX11_status cX11_status 1 (some .int) ∈ Tg := tg_in (List.mem_append_right _ (List.mem_append_right _ (List.mem_append_right _ (List.mem_append_right _ (List.mem_of_getElem? (i := 80) rfl))))) rfl
theorem cn_L_62 : Cond.constantLong RL 62 (4294967295) ∈ Tg := tg_in (List.mem_append_right _ (List.mem_append_right _ (List.mem_append_right _ (List.mem_append_right _ (List.mem_of_getElem? (i := 81) rfl))))) rfl
theorem se_X10_found : Cond.selects RX10 yX10_found yX10_found ∈ Tg := tg_sel (List.mem_append_left _ (List.mem_of_getElem? (i := 0) rfl))
theorem se_X10_done : Cond.selects RX10 yX10_done yX10_done ∈ Tg := tg_sel (List.mem_append_left _ (List.mem_of_getElem? (i := 1) rfl))
theorem se_X7_narrowed : Cond.selects RX7 yX7_narrowed yX7_narrowed ∈ Tg := tg_sel (List.mem_append_left _ (List.mem_of_getElem? (i := 2) rfl))
theorem se_X10_tellChart : Cond.selects RX10 yX10_tellChart yX10_tellChart ∈ Tg := tg_sel (List.mem_append_left _ (List.mem_of_getElem? (i := 3) rfl))
theorem se_X4_mayTellMore : Cond.selects RX4 yX4_mayTellMore yX4_mayTellMore ∈ Tg := tg_sel (List.mem_append_left _ (List.mem_of_getElem? (i := 4) rfl))
theorem se_X4_lookThrough : Cond.selects RX4 yX4_lookThrough yX4_lookThrough ∈ Tg := tg_sel (List.mem_append_left _ (List.mem_of_getElem? (i := 5) rfl))
theorem se_X9_place : Cond.selects RX9 yX9_place yX9_place ∈ Tg := tg_sel (List.mem_append_left _ (List.mem_of_getElem? (i := 6) rfl))
theorem se_X9_name : Cond.selects RX9 yX9_name yX9_name ∈ Tg := tg_sel (List.mem_append_left _ (List.mem_of_getElem? (i := 7) rfl))
theorem se_X9_joined : Cond.selects RX9 yX9_joined yX9_joined ∈ Tg := tg_sel (List.mem_append_left _ (List.mem_of_getElem? (i := 8) rfl))
theorem se_X5_readRule : Cond.selects RX5 yX5_readRule yX5_readRule ∈ Tg := tg_sel (List.mem_append_left _ (List.mem_of_getElem? (i := 9) rfl))
theorem se_X5_faultHere : Cond.selects RX5 yX5_faultHere yX5_faultHere ∈ Tg := tg_sel (List.mem_append_left _ (List.mem_of_getElem? (i := 10) rfl))
theorem se_X5_take : Cond.selects RX5 yX5_take yX5_take ∈ Tg := tg_sel (List.mem_append_left _ (List.mem_of_getElem? (i := 11) rfl))
theorem se_X5_readTest : Cond.selects RX5 yX5_readTest yX5_readTest ∈ Tg := tg_sel (List.mem_append_left _ (List.mem_of_getElem? (i := 12) rfl))
theorem se_X5_takeNumber : Cond.selects RX5 yX5_takeNumber yX5_takeNumber ∈ Tg := tg_sel (List.mem_append_left _ (List.mem_of_getElem? (i := 13) rfl))
theorem se_X0_fastSize : Cond.selects RX0 yX0_fastSize yX0_fastSize ∈ Tg := tg_sel (List.mem_append_left _ (List.mem_of_getElem? (i := 14) rfl))
theorem se_X0_begin : Cond.selects RX0 yX0_begin yX0_begin ∈ Tg := tg_sel (List.mem_append_left _ (List.mem_of_getElem? (i := 15) rfl))
theorem se_X0_evenSize : Cond.selects RX0 yX0_evenSize yX0_evenSize ∈ Tg := tg_sel (List.mem_append_right _ (List.mem_append_left _ (List.mem_of_getElem? (i := 0) rfl)))
theorem se_X0_lentSize : Cond.selects RX0 yX0_lentSize yX0_lentSize ∈ Tg := tg_sel (List.mem_append_right _ (List.mem_append_left _ (List.mem_of_getElem? (i := 1) rfl)))
theorem se_X0_fastMark : Cond.selects RX0 yX0_fastMark yX0_fastMark ∈ Tg := tg_sel (List.mem_append_right _ (List.mem_append_left _ (List.mem_of_getElem? (i := 2) rfl)))
theorem se_X0_lentMark : Cond.selects RX0 yX0_lentMark yX0_lentMark ∈ Tg := tg_sel (List.mem_append_right _ (List.mem_append_left _ (List.mem_of_getElem? (i := 3) rfl)))
theorem se_X0_oddSize : Cond.selects RX0 yX0_oddSize yX0_oddSize ∈ Tg := tg_sel (List.mem_append_right _ (List.mem_append_left _ (List.mem_of_getElem? (i := 4) rfl)))
theorem se_X0_oddMark : Cond.selects RX0 yX0_oddMark yX0_oddMark ∈ Tg := tg_sel (List.mem_append_right _ (List.mem_append_left _ (List.mem_of_getElem? (i := 5) rfl)))
theorem se_X10_sheetsThere : Cond.selects RX10 yX10_sheetsThere yX10_sheetsThere ∈ Tg := tg_sel (List.mem_append_right _ (List.mem_append_left _ (List.mem_of_getElem? (i := 6) rfl)))
theorem se_X11_found : Cond.selects RX11 yX11_found yX11_found ∈ Tg := tg_sel (List.mem_append_right _ (List.mem_append_left _ (List.mem_of_getElem? (i := 7) rfl)))
theorem se_X11_lay : Cond.selects RX11 yX11_lay yX11_lay ∈ Tg := tg_sel (List.mem_append_right _ (List.mem_append_left _ (List.mem_of_getElem? (i := 8) rfl)))
theorem se_X11_step : Cond.selects RX11 yX11_step yX11_step ∈ Tg := tg_sel (List.mem_append_right _ (List.mem_append_left _ (List.mem_of_getElem? (i := 9) rfl)))
theorem se_X11_byteAt : Cond.selects RX11 yX11_byteAt yX11_byteAt ∈ Tg := tg_sel (List.mem_append_right _ (List.mem_append_left _ (List.mem_of_getElem? (i := 10) rfl)))
theorem se_X11_readRule : Cond.selects RX11 yX11_readRule yX11_readRule ∈ Tg := tg_sel (List.mem_append_right _ (List.mem_append_left _ (List.mem_of_getElem? (i := 11) rfl)))
theorem se_X11_word : Cond.selects RX11 yX11_word yX11_word ∈ Tg := tg_sel (List.mem_append_right _ (List.mem_append_left _ (List.mem_of_getElem? (i := 12) rfl)))
theorem se_X11_bad : Cond.selects RX11 yX11_bad yX11_bad ∈ Tg := tg_sel (List.mem_append_right _ (List.mem_append_left _ (List.mem_of_getElem? (i := 13) rfl)))
theorem se_X11_need : Cond.selects RX11 yX11_need yX11_need ∈ Tg := tg_sel (List.mem_append_right _ (List.mem_append_left _ (List.mem_of_getElem? (i := 14) rfl)))
theorem se_X11_readTest : Cond.selects RX11 yX11_readTest yX11_readTest ∈ Tg := tg_sel (List.mem_append_right _ (List.mem_append_left _ (List.mem_of_getElem? (i := 15) rfl)))
theorem se_X11_numberIn : Cond.selects RX11 yX11_numberIn yX11_numberIn ∈ Tg := tg_sel (List.mem_append_right _ (List.mem_append_right _ (List.mem_of_getElem? (i := 0) rfl)))
theorem se_X11_isTrue : Cond.selects RX11 yX11_isTrue yX11_isTrue ∈ Tg := tg_sel (List.mem_append_right _ (List.mem_append_right _ (List.mem_of_getElem? (i := 1) rfl)))
theorem se_X11_isRule : Cond.selects RX11 yX11_isRule yX11_isRule ∈ Tg := tg_sel (List.mem_append_right _ (List.mem_append_right _ (List.mem_of_getElem? (i := 2) rfl)))
theorem se_X11_holdsIn : Cond.selects RX11 yX11_holdsIn yX11_holdsIn ∈ Tg := tg_sel (List.mem_append_right _ (List.mem_append_right _ (List.mem_of_getElem? (i := 3) rfl)))
theorem se_X11_worthOf : Cond.selects RX11 yX11_worthOf yX11_worthOf ∈ Tg := tg_sel (List.mem_append_right _ (List.mem_append_right _ (List.mem_of_getElem? (i := 4) rfl)))
theorem se_X11_cameSo : Cond.selects RX11 yX11_cameSo yX11_cameSo ∈ Tg := tg_sel (List.mem_append_right _ (List.mem_append_right _ (List.mem_of_getElem? (i := 5) rfl)))
theorem se_X11_sized : Cond.selects RX11 yX11_sized yX11_sized ∈ Tg := tg_sel (List.mem_append_right _ (List.mem_append_right _ (List.mem_of_getElem? (i := 6) rfl)))
theorem se_X11_oddSize : Cond.selects RX11 yX11_oddSize yX11_oddSize ∈ Tg := tg_sel (List.mem_append_right _ (List.mem_append_right _ (List.mem_of_getElem? (i := 7) rfl)))
theorem se_X11_began : Cond.selects RX11 yX11_began yX11_began ∈ Tg := tg_sel (List.mem_append_right _ (List.mem_append_right _ (List.mem_of_getElem? (i := 8) rfl)))
theorem se_X11_marked : Cond.selects RX11 yX11_marked yX11_marked ∈ Tg := tg_sel (List.mem_append_right _ (List.mem_append_right _ (List.mem_of_getElem? (i := 9) rfl)))
theorem uw_X0 : ∀ w ∈ u_ws RX0 TX0 2, w ∈ Tg := by
  have h : (u_ws RX0 TX0 2).all (fun w => decide (w ∈ tables_1) && goodWord w) = true := by decide +kernel
  intro w hw
  have h1 := List.all_eq_true.mp h w hw
  simp only [Bool.and_eq_true, decide_eq_true_eq] at h1
  exact tg_in h1.1 h1.2
theorem uw_X1 : ∀ w ∈ u_ws RX1 TX1 5, w ∈ Tg := by
  have h : (u_ws RX1 TX1 5).all (fun w => decide (w ∈ tables_1) && goodWord w) = true := by decide +kernel
  intro w hw
  have h1 := List.all_eq_true.mp h w hw
  simp only [Bool.and_eq_true, decide_eq_true_eq] at h1
  exact tg_in h1.1 h1.2
theorem uw_X4 : ∀ w ∈ u_ws RX4 TX4 10, w ∈ Tg := by
  have h : (u_ws RX4 TX4 10).all (fun w => decide (w ∈ tables_1) && goodWord w) = true := by decide +kernel
  intro w hw
  have h1 := List.all_eq_true.mp h w hw
  simp only [Bool.and_eq_true, decide_eq_true_eq] at h1
  exact tg_in h1.1 h1.2
theorem uw_X5 : ∀ w ∈ u_ws RX5 TX5 5, w ∈ Tg := by
  have h : (u_ws RX5 TX5 5).all (fun w => decide (w ∈ tables_1) && goodWord w) = true := by decide +kernel
  intro w hw
  have h1 := List.all_eq_true.mp h w hw
  simp only [Bool.and_eq_true, decide_eq_true_eq] at h1
  exact tg_in h1.1 h1.2
theorem uw_X6 : ∀ w ∈ u_ws RX6 TX6 6, w ∈ Tg := by
  have h : (u_ws RX6 TX6 6).all (fun w => decide (w ∈ tables_1) && goodWord w) = true := by decide +kernel
  intro w hw
  have h1 := List.all_eq_true.mp h w hw
  simp only [Bool.and_eq_true, decide_eq_true_eq] at h1
  exact tg_in h1.1 h1.2
theorem uw_X7 : ∀ w ∈ u_ws RX7 TX7 3, w ∈ Tg := by
  have h : (u_ws RX7 TX7 3).all (fun w => decide (w ∈ tables_1) && goodWord w) = true := by decide +kernel
  intro w hw
  have h1 := List.all_eq_true.mp h w hw
  simp only [Bool.and_eq_true, decide_eq_true_eq] at h1
  exact tg_in h1.1 h1.2
theorem uw_X8 : ∀ w ∈ u_ws RX8 TX8 2, w ∈ Tg := by
  have h : (u_ws RX8 TX8 2).all (fun w => decide (w ∈ tables_1) && goodWord w) = true := by decide +kernel
  intro w hw
  have h1 := List.all_eq_true.mp h w hw
  simp only [Bool.and_eq_true, decide_eq_true_eq] at h1
  exact tg_in h1.1 h1.2
theorem uw_X9 : ∀ w ∈ u_ws RX9 TX9 7, w ∈ Tg := by
  have h : (u_ws RX9 TX9 7).all (fun w => decide (w ∈ tables_1) && goodWord w) = true := by decide +kernel
  intro w hw
  have h1 := List.all_eq_true.mp h w hw
  simp only [Bool.and_eq_true, decide_eq_true_eq] at h1
  exact tg_in h1.1 h1.2
theorem uw_X10 : ∀ w ∈ u_ws RX10 TX10 12, w ∈ Tg := by
  have h : (u_ws RX10 TX10 12).all (fun w => decide (w ∈ tables_1) && goodWord w) = true := by decide +kernel
  intro w hw
  have h1 := List.all_eq_true.mp h w hw
  simp only [Bool.and_eq_true, decide_eq_true_eq] at h1
  exact tg_in h1.1 h1.2
theorem uw_X11 : ∀ w ∈ u_ws RX11 TX11 30, w ∈ Tg := by
  have h : (u_ws RX11 TX11 30).all (fun w => decide (w ∈ tables_1) && goodWord w) = true := by decide +kernel
  intro w hw
  have h1 := List.all_eq_true.mp h w hw
  simp only [Bool.and_eq_true, decide_eq_true_eq] at h1
  exact tg_in h1.1 h1.2
def MI (y : MethodName) (cc : ByteArray) (maxL : Nat) (ret : Option FieldType) (n : Nat) : Prop := Cond.code y cc maxL ret ∈ Tg ∧ Cond.initialized y.cls ∈ Tg ∧ y.cls ≠ "java/lang/invoke/MethodHandle" ∧ y.cls ≠ "java/lang/invoke/VarHandle" ∧ (parseMethodDescriptor y.desc).map (fun d => d.parameters.length) = some n ∧ plainName y.cls = true
theorem mi_X10_init : MI yX10_init cX10_init 2 none 0 := ⟨co_X10_init, in_X10, by decide +kernel, by decide +kernel, by decide +kernel, by decide +kernel⟩
theorem mi_X10_add : MI yX10_add cX10_add 3 (some .int) 2 := ⟨co_X10_add, in_X10, by decide +kernel, by decide +kernel, by decide +kernel, by decide +kernel⟩
theorem mi_X10_as : MI yX10_as cX10_as 3 (some .int) 2 := ⟨co_X10_as, in_X10, by decide +kernel, by decide +kernel, by decide +kernel, by decide +kernel⟩
theorem mi_X10_ask : MI yX10_ask cX10_ask 3 (some .int) 2 := ⟨co_X10_ask, in_X10, by decide +kernel, by decide +kernel, by decide +kernel, by decide +kernel⟩
theorem mi_X10_at : MI yX10_at cX10_at 2 (some .int) 1 := ⟨co_X10_at, in_X10, by decide +kernel, by decide +kernel, by decide +kernel, by decide +kernel⟩
theorem mi_X10_best : MI yX10_best cX10_best 5 (some .int) 0 := ⟨co_X10_best, in_X10, by decide +kernel, by decide +kernel, by decide +kernel, by decide +kernel⟩
theorem mi_X10_cast : MI yX10_cast cX10_cast 4 (some .int) 2 := ⟨co_X10_cast, in_X10, by decide +kernel, by decide +kernel, by decide +kernel, by decide +kernel⟩
theorem mi_X10_chart : MI yX10_chart cX10_chart 3 (some .int) 1 := ⟨co_X10_chart, in_X10, by decide +kernel, by decide +kernel, by decide +kernel, by decide +kernel⟩
theorem mi_X10_copy : MI yX10_copy cX10_copy 8 (some .int) 5 := ⟨co_X10_copy, in_X10, by decide +kernel, by decide +kernel, by decide +kernel, by decide +kernel⟩
theorem mi_X10_count : MI yX10_count cX10_count 2 (some .int) 1 := ⟨co_X10_count, in_X10, by decide +kernel, by decide +kernel, by decide +kernel, by decide +kernel⟩
theorem mi_X10_done : MI yX10_done cX10_done 2 (some .int) 1 := ⟨co_X10_done, in_X10, by decide +kernel, by decide +kernel, by decide +kernel, by decide +kernel⟩
theorem mi_X10_drawing : MI yX10_drawing cX10_drawing 6 (some .int) 3 := ⟨co_X10_drawing, in_X10, by decide +kernel, by decide +kernel, by decide +kernel, by decide +kernel⟩
theorem mi_X10_drop : MI yX10_drop cX10_drop 3 (some .int) 1 := ⟨co_X10_drop, in_X10, by decide +kernel, by decide +kernel, by decide +kernel, by decide +kernel⟩
theorem mi_X10_fault : MI yX10_fault cX10_fault 1 (some .int) 0 := ⟨co_X10_fault, in_X10, by decide +kernel, by decide +kernel, by decide +kernel, by decide +kernel⟩
theorem mi_X10_feed : MI yX10_feed cX10_feed 4 (some .int) 2 := ⟨co_X10_feed, in_X10, by decide +kernel, by decide +kernel, by decide +kernel, by decide +kernel⟩
theorem mi_X10_found : MI yX10_found cX10_found 2 (some .int) 1 := ⟨co_X10_found, in_X10, by decide +kernel, by decide +kernel, by decide +kernel, by decide +kernel⟩
theorem mi_X10_holds : MI yX10_holds cX10_holds 2 (some .int) 1 := ⟨co_X10_holds, in_X10, by decide +kernel, by decide +kernel, by decide +kernel, by decide +kernel⟩
theorem mi_X10_isPlace : MI yX10_isPlace cX10_isPlace 1 (some .boolean) 1 := ⟨co_X10_isPlace, in_X10, by decide +kernel, by decide +kernel, by decide +kernel, by decide +kernel⟩
theorem mi_X10_isSheet : MI yX10_isSheet cX10_isSheet 1 (some .boolean) 1 := ⟨co_X10_isSheet, in_X10, by decide +kernel, by decide +kernel, by decide +kernel, by decide +kernel⟩
theorem mi_X10_kind : MI yX10_kind cX10_kind 2 (some .int) 1 := ⟨co_X10_kind, in_X10, by decide +kernel, by decide +kernel, by decide +kernel, by decide +kernel⟩
theorem mi_X10_point : MI yX10_point cX10_point 1 (some .int) 0 := ⟨co_X10_point, in_X10, by decide +kernel, by decide +kernel, by decide +kernel, by decide +kernel⟩
theorem mi_X10_record : MI yX10_record cX10_record 2 (some .int) 1 := ⟨co_X10_record, in_X10, by decide +kernel, by decide +kernel, by decide +kernel, by decide +kernel⟩
theorem mi_X10_rules : MI yX10_rules cX10_rules 3 (some .int) 0 := ⟨co_X10_rules, in_X10, by decide +kernel, by decide +kernel, by decide +kernel, by decide +kernel⟩
theorem mi_X10_said : MI yX10_said cX10_said 3 (some .int) 1 := ⟨co_X10_said, in_X10, by decide +kernel, by decide +kernel, by decide +kernel, by decide +kernel⟩
theorem mi_X10_seen : MI yX10_seen cX10_seen 2 (some .int) 1 := ⟨co_X10_seen, in_X10, by decide +kernel, by decide +kernel, by decide +kernel, by decide +kernel⟩
theorem mi_X10_set : MI yX10_set cX10_set 5 (some .int) 3 := ⟨co_X10_set, in_X10, by decide +kernel, by decide +kernel, by decide +kernel, by decide +kernel⟩
theorem mi_X10_sheet : MI yX10_sheet cX10_sheet 4 (some .int) 3 := ⟨co_X10_sheet, in_X10, by decide +kernel, by decide +kernel, by decide +kernel, by decide +kernel⟩
theorem mi_X10_sheetsThere : MI yX10_sheetsThere cX10_sheetsThere 3 (some .int) 0 := ⟨co_X10_sheetsThere, in_X10, by decide +kernel, by decide +kernel, by decide +kernel, by decide +kernel⟩
theorem mi_X10_status : MI yX10_status cX10_status 1 (some .int) 0 := ⟨co_X10_status, in_X10, by decide +kernel, by decide +kernel, by decide +kernel, by decide +kernel⟩
theorem mi_X10_tellChart : MI yX10_tellChart cX10_tellChart 2 none 1 := ⟨co_X10_tellChart, in_X10, by decide +kernel, by decide +kernel, by decide +kernel, by decide +kernel⟩
theorem mi_X10_trace : MI yX10_trace cX10_trace 2 (some .int) 1 := ⟨co_X10_trace, in_X10, by decide +kernel, by decide +kernel, by decide +kernel, by decide +kernel⟩
theorem mi_X10_worth : MI yX10_worth cX10_worth 3 (some .int) 2 := ⟨co_X10_worth, in_X10, by decide +kernel, by decide +kernel, by decide +kernel, by decide +kernel⟩
theorem mi_X0_init : MI yX0_init cX0_init 1 none 0 := ⟨co_X0_init, in_X0, by decide +kernel, by decide +kernel, by decide +kernel, by decide +kernel⟩
theorem mi_X0_begin : MI yX0_begin cX0_begin 2 none 1 := ⟨co_X0_begin, in_X0, by decide +kernel, by decide +kernel, by decide +kernel, by decide +kernel⟩
theorem mi_X0_emptyTrace : MI yX0_emptyTrace cX0_emptyTrace 1 none 0 := ⟨co_X0_emptyTrace, in_X0, by decide +kernel, by decide +kernel, by decide +kernel, by decide +kernel⟩
theorem mi_X0_evenSize : MI yX0_evenSize cX0_evenSize 2 (some .int) 1 := ⟨co_X0_evenSize, in_X0, by decide +kernel, by decide +kernel, by decide +kernel, by decide +kernel⟩
theorem mi_X0_fastMark : MI yX0_fastMark cX0_fastMark 2 (some .int) 1 := ⟨co_X0_fastMark, in_X0, by decide +kernel, by decide +kernel, by decide +kernel, by decide +kernel⟩
theorem mi_X0_fastSize : MI yX0_fastSize cX0_fastSize 2 (some .int) 1 := ⟨co_X0_fastSize, in_X0, by decide +kernel, by decide +kernel, by decide +kernel, by decide +kernel⟩
theorem mi_X0_lentMark : MI yX0_lentMark cX0_lentMark 2 (some .int) 1 := ⟨co_X0_lentMark, in_X0, by decide +kernel, by decide +kernel, by decide +kernel, by decide +kernel⟩
theorem mi_X0_lentSize : MI yX0_lentSize cX0_lentSize 2 (some .int) 1 := ⟨co_X0_lentSize, in_X0, by decide +kernel, by decide +kernel, by decide +kernel, by decide +kernel⟩
theorem mi_X0_markOf : MI yX0_markOf cX0_markOf 2 (some .int) 1 := ⟨co_X0_markOf, in_X0, by decide +kernel, by decide +kernel, by decide +kernel, by decide +kernel⟩
theorem mi_X0_oddMark : MI yX0_oddMark cX0_oddMark 2 (some .int) 1 := ⟨co_X0_oddMark, in_X0, by decide +kernel, by decide +kernel, by decide +kernel, by decide +kernel⟩
theorem mi_X0_oddSize : MI yX0_oddSize cX0_oddSize 2 (some .int) 1 := ⟨co_X0_oddSize, in_X0, by decide +kernel, by decide +kernel, by decide +kernel, by decide +kernel⟩
theorem mi_X0_sizeOf : MI yX0_sizeOf cX0_sizeOf 2 (some .int) 1 := ⟨co_X0_sizeOf, in_X0, by decide +kernel, by decide +kernel, by decide +kernel, by decide +kernel⟩
theorem mi_X0_traced : MI yX0_traced cX0_traced 2 (some .int) 1 := ⟨co_X0_traced, in_X0, by decide +kernel, by decide +kernel, by decide +kernel, by decide +kernel⟩
theorem mi_X1_init : MI yX1_init cX1_init 1 none 0 := ⟨co_X1_init, in_X1, by decide +kernel, by decide +kernel, by decide +kernel, by decide +kernel⟩
theorem mi_X1_answerTo : MI yX1_answerTo cX1_answerTo 2 (some .int) 1 := ⟨co_X1_answerTo, in_X1, by decide +kernel, by decide +kernel, by decide +kernel, by decide +kernel⟩
theorem mi_X1_casesKnown : MI yX1_casesKnown cX1_casesKnown 1 (some .int) 0 := ⟨co_X1_casesKnown, in_X1, by decide +kernel, by decide +kernel, by decide +kernel, by decide +kernel⟩
theorem mi_X1_casesYes : MI yX1_casesYes cX1_casesYes 1 (some .int) 0 := ⟨co_X1_casesYes, in_X1, by decide +kernel, by decide +kernel, by decide +kernel, by decide +kernel⟩
theorem mi_X1_holdAgainst : MI yX1_holdAgainst cX1_holdAgainst 4 none 2 := ⟨co_X1_holdAgainst, in_X1, by decide +kernel, by decide +kernel, by decide +kernel, by decide +kernel⟩
theorem mi_X1_isEnd : MI yX1_isEnd cX1_isEnd 1 (some .boolean) 1 := ⟨co_X1_isEnd, in_X1, by decide +kernel, by decide +kernel, by decide +kernel, by decide +kernel⟩
theorem mi_X1_isFull : MI yX1_isFull cX1_isFull 1 (some .boolean) 0 := ⟨co_X1_isFull, in_X1, by decide +kernel, by decide +kernel, by decide +kernel, by decide +kernel⟩
theorem mi_X1_worthHeld : MI yX1_worthHeld cX1_worthHeld 1 (some .int) 0 := ⟨co_X1_worthHeld, in_X1, by decide +kernel, by decide +kernel, by decide +kernel, by decide +kernel⟩
theorem mi_X1_write : MI yX1_write cX1_write 4 none 2 := ⟨co_X1_write, in_X1, by decide +kernel, by decide +kernel, by decide +kernel, by decide +kernel⟩
theorem mi_X2_daughterOf : MI yX2_daughterOf cX2_daughterOf 4 (some .int) 2 := ⟨co_X2_daughterOf, in_X2, by decide +kernel, by decide +kernel, by decide +kernel, by decide +kernel⟩
theorem mi_X2_endsOfPoint : MI yX2_endsOfPoint cX2_endsOfPoint 6 (some .int) 1 := ⟨co_X2_endsOfPoint, in_X2, by decide +kernel, by decide +kernel, by decide +kernel, by decide +kernel⟩
theorem mi_X2_figureAt : MI yX2_figureAt cX2_figureAt 3 (some .int) 2 := ⟨co_X2_figureAt, in_X2, by decide +kernel, by decide +kernel, by decide +kernel, by decide +kernel⟩
theorem mi_X2_firstAbove : MI yX2_firstAbove cX2_firstAbove 1 (some .int) 1 := ⟨co_X2_firstAbove, in_X2, by decide +kernel, by decide +kernel, by decide +kernel, by decide +kernel⟩
theorem mi_X2_ofCode : MI yX2_ofCode cX2_ofCode 5 (some .long) 1 := ⟨co_X2_ofCode, in_X2, by decide +kernel, by decide +kernel, by decide +kernel, by decide +kernel⟩
theorem mi_X2_timesSeen : MI yX2_timesSeen cX2_timesSeen 7 (some .int) 4 := ⟨co_X2_timesSeen, in_X2, by decide +kernel, by decide +kernel, by decide +kernel, by decide +kernel⟩
theorem mi_X2_wayUp : MI yX2_wayUp cX2_wayUp 5 (some .int) 2 := ⟨co_X2_wayUp, in_X2, by decide +kernel, by decide +kernel, by decide +kernel, by decide +kernel⟩
theorem mi_X2_withFigure : MI yX2_withFigure cX2_withFigure 4 (some .long) 3 := ⟨co_X2_withFigure, in_X2, by decide +kernel, by decide +kernel, by decide +kernel, by decide +kernel⟩
theorem mi_X3_dots : MI yX3_dots cX3_dots 1 (some .int) 1 := ⟨co_X3_dots, in_X3, by decide +kernel, by decide +kernel, by decide +kernel, by decide +kernel⟩
theorem mi_X3_isEven : MI yX3_isEven cX3_isEven 1 (some .boolean) 1 := ⟨co_X3_isEven, in_X3, by decide +kernel, by decide +kernel, by decide +kernel, by decide +kernel⟩
theorem mi_X3_isFigure : MI yX3_isFigure cX3_isFigure 1 (some .boolean) 1 := ⟨co_X3_isFigure, in_X3, by decide +kernel, by decide +kernel, by decide +kernel, by decide +kernel⟩
theorem mi_X3_isOfKind : MI yX3_isOfKind cX3_isOfKind 3 (some .boolean) 2 := ⟨co_X3_isOfKind, in_X3, by decide +kernel, by decide +kernel, by decide +kernel, by decide +kernel⟩
theorem mi_X3_row : MI yX3_row cX3_row 2 (some .int) 2 := ⟨co_X3_row, in_X3, by decide +kernel, by decide +kernel, by decide +kernel, by decide +kernel⟩
theorem mi_X3_toldKind : MI yX3_toldKind cX3_toldKind 1 (some .int) 1 := ⟨co_X3_toldKind, in_X3, by decide +kernel, by decide +kernel, by decide +kernel, by decide +kernel⟩
theorem mi_X4_init : MI yX4_init cX4_init 4 none 0 := ⟨co_X4_init, in_X4, by decide +kernel, by decide +kernel, by decide +kernel, by decide +kernel⟩
theorem mi_X4_agreesUpTo : MI yX4_agreesUpTo cX4_agreesUpTo 3 (some .boolean) 2 := ⟨co_X4_agreesUpTo, in_X4, by decide +kernel, by decide +kernel, by decide +kernel, by decide +kernel⟩
theorem mi_X4_answerTo : MI yX4_answerTo cX4_answerTo 2 (some .int) 1 := ⟨co_X4_answerTo, in_X4, by decide +kernel, by decide +kernel, by decide +kernel, by decide +kernel⟩
theorem mi_X4_fillWithCharts : MI yX4_fillWithCharts cX4_fillWithCharts 4 none 2 := ⟨co_X4_fillWithCharts, in_X4, by decide +kernel, by decide +kernel, by decide +kernel, by decide +kernel⟩
theorem mi_X4_lookAt : MI yX4_lookAt cX4_lookAt 8 none 2 := ⟨co_X4_lookAt, in_X4, by decide +kernel, by decide +kernel, by decide +kernel, by decide +kernel⟩
theorem mi_X4_lookThrough : MI yX4_lookThrough cX4_lookThrough 8 none 2 := ⟨co_X4_lookThrough, in_X4, by decide +kernel, by decide +kernel, by decide +kernel, by decide +kernel⟩
theorem mi_X4_mayTellMore : MI yX4_mayTellMore cX4_mayTellMore 3 (some .boolean) 1 := ⟨co_X4_mayTellMore, in_X4, by decide +kernel, by decide +kernel, by decide +kernel, by decide +kernel⟩
theorem mi_X5_init : MI yX5_init cX5_init 1 none 0 := ⟨co_X5_init, in_X5, by decide +kernel, by decide +kernel, by decide +kernel, by decide +kernel⟩
theorem mi_X5_faultHere : MI yX5_faultHere cX5_faultHere 2 (some .boolean) 1 := ⟨co_X5_faultHere, in_X5, by decide +kernel, by decide +kernel, by decide +kernel, by decide +kernel⟩
theorem mi_X5_readInto : MI yX5_readInto cX5_readInto 4 (some .boolean) 2 := ⟨co_X5_readInto, in_X5, by decide +kernel, by decide +kernel, by decide +kernel, by decide +kernel⟩
theorem mi_X5_readRule : MI yX5_readRule cX5_readRule 3 (some .boolean) 1 := ⟨co_X5_readRule, in_X5, by decide +kernel, by decide +kernel, by decide +kernel, by decide +kernel⟩
theorem mi_X5_readTest : MI yX5_readTest cX5_readTest 6 (some .boolean) 1 := ⟨co_X5_readTest, in_X5, by decide +kernel, by decide +kernel, by decide +kernel, by decide +kernel⟩
theorem mi_X5_take : MI yX5_take cX5_take 2 (some .boolean) 1 := ⟨co_X5_take, in_X5, by decide +kernel, by decide +kernel, by decide +kernel, by decide +kernel⟩
theorem mi_X5_takeNumber : MI yX5_takeNumber cX5_takeNumber 3 (some .boolean) 2 := ⟨co_X5_takeNumber, in_X5, by decide +kernel, by decide +kernel, by decide +kernel, by decide +kernel⟩
theorem mi_X6_init : MI yX6_init cX6_init 1 none 0 := ⟨co_X6_init, in_X6, by decide +kernel, by decide +kernel, by decide +kernel, by decide +kernel⟩
theorem mi_X6_addTest : MI yX6_addTest cX6_addTest 5 none 3 := ⟨co_X6_addTest, in_X6, by decide +kernel, by decide +kernel, by decide +kernel, by decide +kernel⟩
theorem mi_X6_beginRule : MI yX6_beginRule cX6_beginRule 1 none 0 := ⟨co_X6_beginRule, in_X6, by decide +kernel, by decide +kernel, by decide +kernel, by decide +kernel⟩
theorem mi_X6_endRule : MI yX6_endRule cX6_endRule 2 none 1 := ⟨co_X6_endRule, in_X6, by decide +kernel, by decide +kernel, by decide +kernel, by decide +kernel⟩
theorem mi_X6_firstThatHolds : MI yX6_firstThatHolds cX6_firstThatHolds 4 (some .int) 1 := ⟨co_X6_firstThatHolds, in_X6, by decide +kernel, by decide +kernel, by decide +kernel, by decide +kernel⟩
theorem mi_X6_hasRule : MI yX6_hasRule cX6_hasRule 2 (some .boolean) 1 := ⟨co_X6_hasRule, in_X6, by decide +kernel, by decide +kernel, by decide +kernel, by decide +kernel⟩
theorem mi_X6_isFull : MI yX6_isFull cX6_isFull 1 (some .boolean) 0 := ⟨co_X6_isFull, in_X6, by decide +kernel, by decide +kernel, by decide +kernel, by decide +kernel⟩
theorem mi_X6_isTrueOf : MI yX6_isTrueOf cX6_isTrueOf 6 (some .boolean) 2 := ⟨co_X6_isTrueOf, in_X6, by decide +kernel, by decide +kernel, by decide +kernel, by decide +kernel⟩
theorem mi_X6_numberSaid : MI yX6_numberSaid cX6_numberSaid 2 (some .int) 1 := ⟨co_X6_numberSaid, in_X6, by decide +kernel, by decide +kernel, by decide +kernel, by decide +kernel⟩
theorem mi_X6_testIsTrue : MI yX6_testIsTrue cX6_testIsTrue 5 (some .boolean) 4 := ⟨co_X6_testIsTrue, in_X6, by decide +kernel, by decide +kernel, by decide +kernel, by decide +kernel⟩
theorem mi_X7_init : MI yX7_init cX7_init 1 none 0 := ⟨co_X7_init, in_X7, by decide +kernel, by decide +kernel, by decide +kernel, by decide +kernel⟩
theorem mi_X7_areWithin : MI yX7_areWithin cX7_areWithin 6 (some .boolean) 4 := ⟨co_X7_areWithin, in_X7, by decide +kernel, by decide +kernel, by decide +kernel, by decide +kernel⟩
theorem mi_X7_begin : MI yX7_begin cX7_begin 4 none 2 := ⟨co_X7_begin, in_X7, by decide +kernel, by decide +kernel, by decide +kernel, by decide +kernel⟩
theorem mi_X7_drawnRows : MI yX7_drawnRows cX7_drawnRows 5 (some .long) 1 := ⟨co_X7_drawnRows, in_X7, by decide +kernel, by decide +kernel, by decide +kernel, by decide +kernel⟩
theorem mi_X7_findingOf : MI yX7_findingOf cX7_findingOf 3 (some .int) 2 := ⟨co_X7_findingOf, in_X7, by decide +kernel, by decide +kernel, by decide +kernel, by decide +kernel⟩
theorem mi_X7_forget : MI yX7_forget cX7_forget 1 none 0 := ⟨co_X7_forget, in_X7, by decide +kernel, by decide +kernel, by decide +kernel, by decide +kernel⟩
theorem mi_X7_hasItems : MI yX7_hasItems cX7_hasItems 3 (some .boolean) 2 := ⟨co_X7_hasItems, in_X7, by decide +kernel, by decide +kernel, by decide +kernel, by decide +kernel⟩
theorem mi_X7_isLane : MI yX7_isLane cX7_isLane 1 (some .boolean) 1 := ⟨co_X7_isLane, in_X7, by decide +kernel, by decide +kernel, by decide +kernel, by decide +kernel⟩
theorem mi_X7_isMissing : MI yX7_isMissing cX7_isMissing 1 (some .boolean) 0 := ⟨co_X7_isMissing, in_X7, by decide +kernel, by decide +kernel, by decide +kernel, by decide +kernel⟩
theorem mi_X7_narrowed : MI yX7_narrowed cX7_narrowed 2 (some .int) 1 := ⟨co_X7_narrowed, in_X7, by decide +kernel, by decide +kernel, by decide +kernel, by decide +kernel⟩
theorem mi_X7_oddOnes : MI yX7_oddOnes cX7_oddOnes 4 (some .int) 1 := ⟨co_X7_oddOnes, in_X7, by decide +kernel, by decide +kernel, by decide +kernel, by decide +kernel⟩
theorem mi_X7_put : MI yX7_put cX7_put 3 (some .int) 2 := ⟨co_X7_put, in_X7, by decide +kernel, by decide +kernel, by decide +kernel, by decide +kernel⟩
theorem mi_X7_untornRows : MI yX7_untornRows cX7_untornRows 5 (some .long) 1 := ⟨co_X7_untornRows, in_X7, by decide +kernel, by decide +kernel, by decide +kernel, by decide +kernel⟩
theorem mi_X8_init : MI yX8_init cX8_init 1 none 0 := ⟨co_X8_init, in_X8, by decide +kernel, by decide +kernel, by decide +kernel, by decide +kernel⟩
theorem mi_X8_append : MI yX8_append cX8_append 5 none 2 := ⟨co_X8_append, in_X8, by decide +kernel, by decide +kernel, by decide +kernel, by decide +kernel⟩
theorem mi_X8_byteAt : MI yX8_byteAt cX8_byteAt 2 (some .int) 1 := ⟨co_X8_byteAt, in_X8, by decide +kernel, by decide +kernel, by decide +kernel, by decide +kernel⟩
theorem mi_X8_hasRoom : MI yX8_hasRoom cX8_hasRoom 2 (some .boolean) 1 := ⟨co_X8_hasRoom, in_X8, by decide +kernel, by decide +kernel, by decide +kernel, by decide +kernel⟩
theorem mi_X9_init : MI yX9_init cX9_init 1 none 0 := ⟨co_X9_init, in_X9, by decide +kernel, by decide +kernel, by decide +kernel, by decide +kernel⟩
theorem mi_X9_cut : MI yX9_cut cX9_cut 5 none 1 := ⟨co_X9_cut, in_X9, by decide +kernel, by decide +kernel, by decide +kernel, by decide +kernel⟩
theorem mi_X9_joined : MI yX9_joined cX9_joined 7 (some .int) 4 := ⟨co_X9_joined, in_X9, by decide +kernel, by decide +kernel, by decide +kernel, by decide +kernel⟩
theorem mi_X9_kindOf : MI yX9_kindOf cX9_kindOf 2 (some .int) 1 := ⟨co_X9_kindOf, in_X9, by decide +kernel, by decide +kernel, by decide +kernel, by decide +kernel⟩
theorem mi_X9_name : MI yX9_name cX9_name 3 none 2 := ⟨co_X9_name, in_X9, by decide +kernel, by decide +kernel, by decide +kernel, by decide +kernel⟩
theorem mi_X9_place : MI yX9_place cX9_place 4 none 3 := ⟨co_X9_place, in_X9, by decide +kernel, by decide +kernel, by decide +kernel, by decide +kernel⟩
theorem mi_X9_sortOf : MI yX9_sortOf cX9_sortOf 1 (some .int) 1 := ⟨co_X9_sortOf, in_X9, by decide +kernel, by decide +kernel, by decide +kernel, by decide +kernel⟩
theorem mi_X9_startOf : MI yX9_startOf cX9_startOf 2 (some .int) 1 := ⟨co_X9_startOf, in_X9, by decide +kernel, by decide +kernel, by decide +kernel, by decide +kernel⟩
theorem mi_X9_valueOf : MI yX9_valueOf cX9_valueOf 2 (some .int) 1 := ⟨co_X9_valueOf, in_X9, by decide +kernel, by decide +kernel, by decide +kernel, by decide +kernel⟩
theorem mi_X11_init : MI yX11_init cX11_init 1 none 0 := ⟨co_X11_init, in_X11, by decide +kernel, by decide +kernel, by decide +kernel, by decide +kernel⟩
theorem mi_X11_above : MI yX11_above cX11_above 1 (some .int) 1 := ⟨co_X11_above, in_X11, by decide +kernel, by decide +kernel, by decide +kernel, by decide +kernel⟩
theorem mi_X11_add : MI yX11_add cX11_add 3 (some .int) 2 := ⟨co_X11_add, in_X11, by decide +kernel, by decide +kernel, by decide +kernel, by decide +kernel⟩
theorem mi_X11_as : MI yX11_as cX11_as 4 (some .int) 2 := ⟨co_X11_as, in_X11, by decide +kernel, by decide +kernel, by decide +kernel, by decide +kernel⟩
theorem mi_X11_ask : MI yX11_ask cX11_ask 3 (some .int) 2 := ⟨co_X11_ask, in_X11, by decide +kernel, by decide +kernel, by decide +kernel, by decide +kernel⟩
theorem mi_X11_at : MI yX11_at cX11_at 2 (some .int) 1 := ⟨co_X11_at, in_X11, by decide +kernel, by decide +kernel, by decide +kernel, by decide +kernel⟩
theorem mi_X11_bad : MI yX11_bad cX11_bad 2 none 1 := ⟨co_X11_bad, in_X11, by decide +kernel, by decide +kernel, by decide +kernel, by decide +kernel⟩
theorem mi_X11_began : MI yX11_began cX11_began 2 none 1 := ⟨co_X11_began, in_X11, by decide +kernel, by decide +kernel, by decide +kernel, by decide +kernel⟩
theorem mi_X11_best : MI yX11_best cX11_best 5 (some .int) 0 := ⟨co_X11_best, in_X11, by decide +kernel, by decide +kernel, by decide +kernel, by decide +kernel⟩
theorem mi_X11_byteAt : MI yX11_byteAt cX11_byteAt 2 (some .int) 1 := ⟨co_X11_byteAt, in_X11, by decide +kernel, by decide +kernel, by decide +kernel, by decide +kernel⟩
theorem mi_X11_cameSo : MI yX11_cameSo cX11_cameSo 4 (some .int) 1 := ⟨co_X11_cameSo, in_X11, by decide +kernel, by decide +kernel, by decide +kernel, by decide +kernel⟩
theorem mi_X11_cast : MI yX11_cast cX11_cast 6 (some .int) 2 := ⟨co_X11_cast, in_X11, by decide +kernel, by decide +kernel, by decide +kernel, by decide +kernel⟩
theorem mi_X11_chart : MI yX11_chart cX11_chart 3 (some .int) 1 := ⟨co_X11_chart, in_X11, by decide +kernel, by decide +kernel, by decide +kernel, by decide +kernel⟩
theorem mi_X11_copy : MI yX11_copy cX11_copy 9 (some .int) 5 := ⟨co_X11_copy, in_X11, by decide +kernel, by decide +kernel, by decide +kernel, by decide +kernel⟩
theorem mi_X11_count : MI yX11_count cX11_count 4 (some .int) 1 := ⟨co_X11_count, in_X11, by decide +kernel, by decide +kernel, by decide +kernel, by decide +kernel⟩
theorem mi_X11_drawing : MI yX11_drawing cX11_drawing 14 (some .int) 3 := ⟨co_X11_drawing, in_X11, by decide +kernel, by decide +kernel, by decide +kernel, by decide +kernel⟩
theorem mi_X11_drop : MI yX11_drop cX11_drop 2 (some .int) 1 := ⟨co_X11_drop, in_X11, by decide +kernel, by decide +kernel, by decide +kernel, by decide +kernel⟩
theorem mi_X11_fault : MI yX11_fault cX11_fault 1 (some .int) 0 := ⟨co_X11_fault, in_X11, by decide +kernel, by decide +kernel, by decide +kernel, by decide +kernel⟩
theorem mi_X11_feed : MI yX11_feed cX11_feed 5 (some .int) 2 := ⟨co_X11_feed, in_X11, by decide +kernel, by decide +kernel, by decide +kernel, by decide +kernel⟩
theorem mi_X11_found : MI yX11_found cX11_found 2 (some .int) 1 := ⟨co_X11_found, in_X11, by decide +kernel, by decide +kernel, by decide +kernel, by decide +kernel⟩
theorem mi_X11_holds : MI yX11_holds cX11_holds 2 (some .int) 1 := ⟨co_X11_holds, in_X11, by decide +kernel, by decide +kernel, by decide +kernel, by decide +kernel⟩
theorem mi_X11_holdsIn : MI yX11_holdsIn cX11_holdsIn 5 (some .int) 2 := ⟨co_X11_holdsIn, in_X11, by decide +kernel, by decide +kernel, by decide +kernel, by decide +kernel⟩
theorem mi_X11_in : MI yX11_in cX11_in 6 (some .boolean) 3 := ⟨co_X11_in, in_X11, by decide +kernel, by decide +kernel, by decide +kernel, by decide +kernel⟩
theorem mi_X11_isFigure : MI yX11_isFigure cX11_isFigure 1 (some .boolean) 1 := ⟨co_X11_isFigure, in_X11, by decide +kernel, by decide +kernel, by decide +kernel, by decide +kernel⟩
theorem mi_X11_isFigure16 : MI yX11_isFigure16 cX11_isFigure16 1 (some .boolean) 1 := ⟨co_X11_isFigure16, in_X11, by decide +kernel, by decide +kernel, by decide +kernel, by decide +kernel⟩
theorem mi_X11_isLetter : MI yX11_isLetter cX11_isLetter 1 (some .boolean) 1 := ⟨co_X11_isLetter, in_X11, by decide +kernel, by decide +kernel, by decide +kernel, by decide +kernel⟩
theorem mi_X11_isRule : MI yX11_isRule cX11_isRule 2 (some .boolean) 1 := ⟨co_X11_isRule, in_X11, by decide +kernel, by decide +kernel, by decide +kernel, by decide +kernel⟩
theorem mi_X11_isSheet : MI yX11_isSheet cX11_isSheet 1 (some .boolean) 1 := ⟨co_X11_isSheet, in_X11, by decide +kernel, by decide +kernel, by decide +kernel, by decide +kernel⟩
theorem mi_X11_isTrue : MI yX11_isTrue cX11_isTrue 9 (some .boolean) 1 := ⟨co_X11_isTrue, in_X11, by decide +kernel, by decide +kernel, by decide +kernel, by decide +kernel⟩
theorem mi_X11_kind : MI yX11_kind cX11_kind 2 (some .int) 1 := ⟨co_X11_kind, in_X11, by decide +kernel, by decide +kernel, by decide +kernel, by decide +kernel⟩
theorem mi_X11_kindOf : MI yX11_kindOf cX11_kindOf 2 (some .int) 1 := ⟨co_X11_kindOf, in_X11, by decide +kernel, by decide +kernel, by decide +kernel, by decide +kernel⟩
theorem mi_X11_lay : MI yX11_lay cX11_lay 4 none 1 := ⟨co_X11_lay, in_X11, by decide +kernel, by decide +kernel, by decide +kernel, by decide +kernel⟩
theorem mi_X11_marked : MI yX11_marked cX11_marked 3 (some .int) 1 := ⟨co_X11_marked, in_X11, by decide +kernel, by decide +kernel, by decide +kernel, by decide +kernel⟩
theorem mi_X11_need : MI yX11_need cX11_need 2 none 1 := ⟨co_X11_need, in_X11, by decide +kernel, by decide +kernel, by decide +kernel, by decide +kernel⟩
theorem mi_X11_numberIn : MI yX11_numberIn cX11_numberIn 5 (some .int) 2 := ⟨co_X11_numberIn, in_X11, by decide +kernel, by decide +kernel, by decide +kernel, by decide +kernel⟩
theorem mi_X11_oddSize : MI yX11_oddSize cX11_oddSize 2 (some .int) 1 := ⟨co_X11_oddSize, in_X11, by decide +kernel, by decide +kernel, by decide +kernel, by decide +kernel⟩
theorem mi_X11_point : MI yX11_point cX11_point 7 (some .int) 0 := ⟨co_X11_point, in_X11, by decide +kernel, by decide +kernel, by decide +kernel, by decide +kernel⟩
theorem mi_X11_readRule : MI yX11_readRule cX11_readRule 3 none 0 := ⟨co_X11_readRule, in_X11, by decide +kernel, by decide +kernel, by decide +kernel, by decide +kernel⟩
theorem mi_X11_readTest : MI yX11_readTest cX11_readTest 6 none 1 := ⟨co_X11_readTest, in_X11, by decide +kernel, by decide +kernel, by decide +kernel, by decide +kernel⟩
theorem mi_X11_record : MI yX11_record cX11_record 2 (some .int) 1 := ⟨co_X11_record, in_X11, by decide +kernel, by decide +kernel, by decide +kernel, by decide +kernel⟩
theorem mi_X11_rules : MI yX11_rules cX11_rules 3 (some .int) 0 := ⟨co_X11_rules, in_X11, by decide +kernel, by decide +kernel, by decide +kernel, by decide +kernel⟩
theorem mi_X11_said : MI yX11_said cX11_said 3 (some .int) 1 := ⟨co_X11_said, in_X11, by decide +kernel, by decide +kernel, by decide +kernel, by decide +kernel⟩
theorem mi_X11_seen : MI yX11_seen cX11_seen 4 (some .int) 1 := ⟨co_X11_seen, in_X11, by decide +kernel, by decide +kernel, by decide +kernel, by decide +kernel⟩
theorem mi_X11_set : MI yX11_set cX11_set 4 (some .int) 3 := ⟨co_X11_set, in_X11, by decide +kernel, by decide +kernel, by decide +kernel, by decide +kernel⟩
theorem mi_X11_sheet : MI yX11_sheet cX11_sheet 5 (some .int) 3 := ⟨co_X11_sheet, in_X11, by decide +kernel, by decide +kernel, by decide +kernel, by decide +kernel⟩
theorem mi_X11_singles : MI yX11_singles cX11_singles 1 (some .int) 1 := ⟨co_X11_singles, in_X11, by decide +kernel, by decide +kernel, by decide +kernel, by decide +kernel⟩
theorem mi_X11_sized : MI yX11_sized cX11_sized 4 (some .int) 1 := ⟨co_X11_sized, in_X11, by decide +kernel, by decide +kernel, by decide +kernel, by decide +kernel⟩
theorem mi_X11_status : MI yX11_status cX11_status 1 (some .int) 0 := ⟨co_X11_status, in_X11, by decide +kernel, by decide +kernel, by decide +kernel, by decide +kernel⟩
theorem mi_X11_step : MI yX11_step cX11_step 2 none 0 := ⟨co_X11_step, in_X11, by decide +kernel, by decide +kernel, by decide +kernel, by decide +kernel⟩
theorem mi_X11_trace : MI yX11_trace cX11_trace 2 (some .int) 1 := ⟨co_X11_trace, in_X11, by decide +kernel, by decide +kernel, by decide +kernel, by decide +kernel⟩
theorem mi_X11_word : MI yX11_word cX11_word 4 (some .long) 0 := ⟨co_X11_word, in_X11, by decide +kernel, by decide +kernel, by decide +kernel, by decide +kernel⟩
theorem mi_X11_worth : MI yX11_worth cX11_worth 3 (some .int) 2 := ⟨co_X11_worth, in_X11, by decide +kernel, by decide +kernel, by decide +kernel, by decide +kernel⟩
theorem mi_X11_worthOf : MI yX11_worthOf cX11_worthOf 4 (some .int) 1 := ⟨co_X11_worthOf, in_X11, by decide +kernel, by decide +kernel, by decide +kernel, by decide +kernel⟩
theorem mi_J6_bitCount_0f7a4 : MI yJ6_bitCount_0f7a4 cJ6_bitCount_0f7a4 1 (some .int) 1 := ⟨co_J6_bitCount_0f7a4, in_J6, by decide +kernel, by decide +kernel, by decide +kernel, by decide +kernel⟩
theorem mi_J13_bitCount_95d88 : MI yJ13_bitCount_95d88 cJ13_bitCount_95d88 2 (some .int) 1 := ⟨co_J13_bitCount_95d88, in_J13, by decide +kernel, by decide +kernel, by decide +kernel, by decide +kernel⟩
