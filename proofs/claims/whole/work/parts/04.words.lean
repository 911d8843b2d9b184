theorem tb1 {w : Cond} (h : w ∈ tables_1_1) : w ∈ lw_tbl := List.mem_append_right _ (List.mem_append_left _ h)
theorem tb2 {w : Cond} (h : w ∈ tables_1_2) : w ∈ lw_tbl := List.mem_append_right _ (List.mem_append_right _ (List.mem_append_left _ h))
theorem tb3 {w : Cond} (h : w ∈ tables_1_3) : w ∈ lw_tbl := List.mem_append_right _ (List.mem_append_right _ (List.mem_append_right _ (List.mem_append_left _ h)))
theorem tb4 {w : Cond} (h : w ∈ tables_1_4) : w ∈ lw_tbl := List.mem_append_right _ (List.mem_append_right _ (List.mem_append_right _ (List.mem_append_right _ (List.mem_append_left _ h))))
theorem tb5 {w : Cond} (h : w ∈ tables_1_5) : w ∈ lw_tbl := List.mem_append_right _ (List.mem_append_right _ (List.mem_append_right _ (List.mem_append_right _ (List.mem_append_right _ h))))
theorem tbs {q : MethodName × Nat} (h : q ∈ lw_privs) : Cond.selects q.1.cls q.1 q.1 ∈ lw_tbl := List.mem_append_left _ (List.mem_map.mpr ⟨q, h, rfl⟩)
theorem pv1 {q : MethodName × Nat} (h : q ∈ lw_privs_1) : q ∈ lw_privs := (List.mem_append_left _ h)
theorem pv2 {q : MethodName × Nat} (h : q ∈ lw_privs_2) : q ∈ lw_privs := (List.mem_append_right _ (List.mem_append_left _ h))
theorem pv3 {q : MethodName × Nat} (h : q ∈ lw_privs_3) : q ∈ lw_privs := (List.mem_append_right _ (List.mem_append_right _ h))
theorem ini_L : Cond.initialized RL ∈ G := mG (tb1 (List.mem_of_getElem? (i := 0) rfl)) rfl
theorem ini_X3 : Cond.initialized RX3 ∈ G := mG (tb1 (List.mem_of_getElem? (i := 1) rfl)) rfl
theorem ini_X1 : Cond.initialized RX1 ∈ G := mG (tb1 (List.mem_of_getElem? (i := 2) rfl)) rfl
theorem ini_J7 : Cond.initialized RJ7 ∈ G := mG (tb1 (List.mem_of_getElem? (i := 3) rfl)) rfl
theorem ini_X2 : Cond.initialized RX2 ∈ G := mG (tb1 (List.mem_of_getElem? (i := 4) rfl)) rfl
theorem ini_X0 : Cond.initialized RX0 ∈ G := mG (tb1 (List.mem_of_getElem? (i := 5) rfl)) rfl
theorem ini_X4 : Cond.initialized RX4 ∈ G := mG (tb1 (List.mem_of_getElem? (i := 6) rfl)) rfl
theorem ini_J9 : Cond.initialized "java/lang/Math" ∈ G := mG (tb1 (List.mem_of_getElem? (i := 17) rfl)) rfl
theorem ini_J6 : Cond.initialized RJ6 ∈ G := mG (tb1 (List.mem_of_getElem? (i := 21) rfl)) rfl
theorem cl_L_8 : Cond.classLink RL 8 "CallShaper" ∈ G := mG (tb1 (List.mem_of_getElem? (i := 23) rfl)) rfl
theorem ib_X3 : Cond.instantiable RX3 3 ∈ G := mG (tb1 (List.mem_of_getElem? (i := 24) rfl)) rfl
theorem ml_L_41 : Cond.methodLink RL 41 yX3_init ∈ G := mG (tb1 (List.mem_of_getElem? (i := 25) rfl)) rfl
theorem im_X3_init : Cond.instanceMethod yX3_init ∈ G := mG (tb1 (List.mem_of_getElem? (i := 26) rfl)) rfl
theorem co_X3_init : Cond.code yX3_init cX3_init 1 none ∈ G := mG (tb1 (List.mem_of_getElem? (i := 27) rfl)) rfl
theorem ml_X3_3 : Cond.methodLink RX3 3 objectInit ∈ G := mG (tb1 (List.mem_of_getElem? (i := 28) rfl)) rfl
theorem im_objInit : Cond.instanceMethod objectInit ∈ G := mG (tb1 (List.mem_of_getElem? (i := 29) rfl)) rfl
theorem co_objInit : Cond.code objectInit ⟨#[0xb1]⟩ 1 none ∈ G := mG (tb1 (List.mem_of_getElem? (i := 30) rfl)) rfl
theorem cl_X3_9 : Cond.classLink RX3 9 "CallShaper$Program" ∈ G := mG (tb1 (List.mem_of_getElem? (i := 31) rfl)) rfl
theorem ib_X1 : Cond.instantiable RX1 7 ∈ G := mG (tb1 (List.mem_of_getElem? (i := 32) rfl)) rfl
theorem ml_X3_11 : Cond.methodLink RX3 11 yX1_init ∈ G := mG (tb1 (List.mem_of_getElem? (i := 33) rfl)) rfl
theorem im_X1_init : Cond.instanceMethod yX1_init ∈ G := mG (tb1 (List.mem_of_getElem? (i := 34) rfl)) rfl
theorem co_X1_init : Cond.code yX1_init cX1_init 1 none ∈ G := mG (tb1 (List.mem_of_getElem? (i := 35) rfl)) rfl
theorem ml_X1_3 : Cond.methodLink RX1 3 objectInit ∈ G := mG (tb1 (List.mem_of_getElem? (i := 36) rfl)) rfl
theorem ml_X1_30 : Cond.methodLink RX1 30 yJ7_fill_53178 ∈ G := mG (tb1 (List.mem_of_getElem? (i := 37) rfl)) rfl
theorem st_J7_fill_53178 : Cond.static yJ7_fill_53178 ∈ G := mG (tb1 (List.mem_of_getElem? (i := 38) rfl)) rfl
theorem co_J7_fill_53178 : Cond.code yJ7_fill_53178 cJ7_fill_53178 4 none ∈ G := mG (tb1 (List.mem_of_getElem? (i := 39) rfl)) rfl
theorem fl_X1_9 : Cond.fieldLink RX1 9 "CallShaper$Program" "parents" "[I" ∈ G := mG (tb1 (List.mem_of_getElem? (i := 40) rfl)) rfl
theorem fl_X1_15 : Cond.fieldLink RX1 15 "CallShaper$Program" "lengths" "[I" ∈ G := mG (tb1 (List.mem_of_getElem? (i := 41) rfl)) rfl
theorem fl_X1_18 : Cond.fieldLink RX1 18 "CallShaper$Program" "kinds" "[I" ∈ G := mG (tb1 (List.mem_of_getElem? (i := 42) rfl)) rfl
theorem fl_X1_21 : Cond.fieldLink RX1 21 "CallShaper$Program" "xs" "[I" ∈ G := mG (tb1 (List.mem_of_getElem? (i := 43) rfl)) rfl
theorem fl_X1_24 : Cond.fieldLink RX1 24 "CallShaper$Program" "ys" "[I" ∈ G := mG (tb1 (List.mem_of_getElem? (i := 44) rfl)) rfl
theorem fl_X1_27 : Cond.fieldLink RX1 27 "CallShaper$Program" "zs" "[I" ∈ G := mG (tb1 (List.mem_of_getElem? (i := 45) rfl)) rfl
theorem fl_X1_36 : Cond.fieldLink RX1 36 "CallShaper$Program" "classes" "I" ∈ G := mG (tb1 (List.mem_of_getElem? (i := 46) rfl)) rfl
theorem ar_int : Cond.arrayClass .int ∈ G := mG (tb1 (List.mem_of_getElem? (i := 62) rfl)) rfl
theorem cl_X3_16 : Cond.classLink RX3 16 "CallShaper$Shaping" ∈ G := mG (tb1 (List.mem_of_getElem? (i := 63) rfl)) rfl
theorem ib_X2 : Cond.instantiable RX2 6 ∈ G := mG (tb1 (List.mem_of_getElem? (i := 64) rfl)) rfl
theorem ml_X3_18 : Cond.methodLink RX3 18 yX2_init ∈ G := mG (tb1 (List.mem_of_getElem? (i := 65) rfl)) rfl
theorem im_X2_init : Cond.instanceMethod yX2_init ∈ G := mG (tb1 (List.mem_of_getElem? (i := 66) rfl)) rfl
theorem co_X2_init : Cond.code yX2_init cX2_init 2 none ∈ G := mG (tb1 (List.mem_of_getElem? (i := 67) rfl)) rfl
theorem ml_X2_3 : Cond.methodLink RX2 3 objectInit ∈ G := mG (tb1 (List.mem_of_getElem? (i := 68) rfl)) rfl
theorem fl_X2_18 : Cond.fieldLink RX2 18 "CallShaper$Shaping" "program" "LCallShaper$Program;" ∈ G := mG (tb1 (List.mem_of_getElem? (i := 69) rfl)) rfl
theorem fl_X2_9 : Cond.fieldLink RX2 9 "CallShaper$Shaping" "verdicts" "[I" ∈ G := mG (tb1 (List.mem_of_getElem? (i := 70) rfl)) rfl
theorem fl_X2_15 : Cond.fieldLink RX2 15 "CallShaper$Shaping" "callVerdicts" "[I" ∈ G := mG (tb1 (List.mem_of_getElem? (i := 71) rfl)) rfl
theorem fl_X2_22 : Cond.fieldLink RX2 22 "CallShaper$Shaping" "made" "I" ∈ G := mG (tb1 (List.mem_of_getElem? (i := 72) rfl)) rfl
theorem fl_X2_26 : Cond.fieldLink RX2 26 "CallShaper$Shaping" "reached" "I" ∈ G := mG (tb1 (List.mem_of_getElem? (i := 73) rfl)) rfl
theorem fl_X2_64 : Cond.fieldLink RX2 64 "CallShaper$Shaping" "called" "I" ∈ G := mG (tb1 (List.mem_of_getElem? (i := 74) rfl)) rfl
theorem cl_X3_25 : Cond.classLink RX3 25 "CallShaper$Machine" ∈ G := mG (tb1 (List.mem_of_getElem? (i := 88) rfl)) rfl
theorem ib_X0 : Cond.instantiable RX0 15 ∈ G := mG (tb1 (List.mem_of_getElem? (i := 89) rfl)) rfl
theorem ml_X3_27 : Cond.methodLink RX3 27 yX0_init ∈ G := mG (tb1 (List.mem_of_getElem? (i := 90) rfl)) rfl
theorem im_X0_init : Cond.instanceMethod yX0_init ∈ G := mG (tb1 (List.mem_of_getElem? (i := 91) rfl)) rfl
theorem co_X0_init : Cond.code yX0_init cX0_init 3 none ∈ G := mG (tb1 (List.mem_of_getElem? (i := 92) rfl)) rfl
theorem ml_X0_3 : Cond.methodLink RX0 3 objectInit ∈ G := mG (tb1 (List.mem_of_getElem? (i := 93) rfl)) rfl
theorem fl_X0_37 : Cond.fieldLink RX0 37 "CallShaper$Machine" "program" "LCallShaper$Program;" ∈ G := mG (tb1 (List.mem_of_getElem? (i := 94) rfl)) rfl
theorem fl_X0_41 : Cond.fieldLink RX0 41 "CallShaper$Machine" "shaping" "LCallShaper$Shaping;" ∈ G := mG (tb1 (List.mem_of_getElem? (i := 95) rfl)) rfl
theorem fl_X0_9 : Cond.fieldLink RX0 9 "CallShaper$Machine" "registers" "[J" ∈ G := mG (tb1 (List.mem_of_getElem? (i := 96) rfl)) rfl
theorem fl_X0_15 : Cond.fieldLink RX0 15 "CallShaper$Machine" "bodies" "[I" ∈ G := mG (tb1 (List.mem_of_getElem? (i := 97) rfl)) rfl
theorem fl_X0_19 : Cond.fieldLink RX0 19 "CallShaper$Machine" "nexts" "[I" ∈ G := mG (tb1 (List.mem_of_getElem? (i := 98) rfl)) rfl
theorem fl_X0_22 : Cond.fieldLink RX0 22 "CallShaper$Machine" "answersTo" "[I" ∈ G := mG (tb1 (List.mem_of_getElem? (i := 99) rfl)) rfl
theorem fl_X0_25 : Cond.fieldLink RX0 25 "CallShaper$Machine" "classes" "[I" ∈ G := mG (tb1 (List.mem_of_getElem? (i := 100) rfl)) rfl
theorem fl_X0_28 : Cond.fieldLink RX0 28 "CallShaper$Machine" "fields" "[J" ∈ G := mG (tb1 (List.mem_of_getElem? (i := 101) rfl)) rfl
theorem fl_X0_31 : Cond.fieldLink RX0 31 "CallShaper$Machine" "putOut" "[I" ∈ G := mG (tb1 (List.mem_of_getElem? (i := 102) rfl)) rfl
theorem fl_X0_34 : Cond.fieldLink RX0 34 "CallShaper$Machine" "counts" "[I" ∈ G := mG (tb1 (List.mem_of_getElem? (i := 103) rfl)) rfl
theorem fl_X0_45 : Cond.fieldLink RX0 45 "CallShaper$Machine" "asShaped" "Z" ∈ G := mG (tb1 (List.mem_of_getElem? (i := 104) rfl)) rfl
theorem fl_X0_49 : Cond.fieldLink RX0 49 "CallShaper$Machine" "room" "I" ∈ G := mG (tb1 (List.mem_of_getElem? (i := 105) rfl)) rfl
theorem fl_X0_53 : Cond.fieldLink RX0 53 "CallShaper$Machine" "frames" "I" ∈ G := mG (tb1 (List.mem_of_getElem? (i := 106) rfl)) rfl
theorem fl_X0_56 : Cond.fieldLink RX0 56 "CallShaper$Machine" "objects" "I" ∈ G := mG (tb1 (List.mem_of_getElem? (i := 107) rfl)) rfl
theorem fl_X0_59 : Cond.fieldLink RX0 59 "CallShaper$Machine" "trap" "I" ∈ G := mG (tb1 (List.mem_of_getElem? (i := 108) rfl)) rfl
theorem ar_long : Cond.arrayClass .long ∈ G := mG (tb1 (List.mem_of_getElem? (i := 140) rfl)) rfl
theorem fl_X3_12 : Cond.fieldLink RX3 12 "CallShaper" "program" "LCallShaper$Program;" ∈ G := mG (tb1 (List.mem_of_getElem? (i := 141) rfl)) rfl
theorem fl_X3_21 : Cond.fieldLink RX3 21 "CallShaper" "shaping" "LCallShaper$Shaping;" ∈ G := mG (tb1 (List.mem_of_getElem? (i := 142) rfl)) rfl
theorem fl_X3_30 : Cond.fieldLink RX3 30 "CallShaper" "machine" "LCallShaper$Machine;" ∈ G := mG (tb1 (List.mem_of_getElem? (i := 143) rfl)) rfl
theorem ml_L_63 : Cond.methodLink RL 63 yX3_shape ∈ G := mG (tb1 (List.mem_of_getElem? (i := 151) rfl)) rfl
theorem im_X3_shape : Cond.instanceMethod yX3_shape ∈ G := mG (tb1 (List.mem_of_getElem? (i := 152) rfl)) rfl
theorem se_X3_shape : Cond.selects RX3 yX3_shape yX3_shape ∈ G := mG (tb1 (List.mem_of_getElem? (i := 153) rfl)) rfl
theorem co_X3_shape : Cond.code yX3_shape cX3_shape 1 (some .int) ∈ G := mG (tb1 (List.mem_of_getElem? (i := 154) rfl)) rfl
theorem ml_X3_90 : Cond.methodLink RX3 90 yX2_renew ∈ G := mG (tb1 (List.mem_of_getElem? (i := 155) rfl)) rfl
theorem im_X2_renew : Cond.instanceMethod yX2_renew ∈ G := mG (tb1 (List.mem_of_getElem? (i := 156) rfl)) rfl
theorem se_X2_renew : Cond.selects RX2 yX2_renew yX2_renew ∈ G := mG (tb1 (List.mem_of_getElem? (i := 157) rfl)) rfl
theorem co_X2_renew : Cond.code yX2_renew cX2_renew 2 (some .int) ∈ G := mG (tb1 (List.mem_of_getElem? (i := 158) rfl)) rfl
theorem ml_X2_41 : Cond.methodLink RX2 41 yJ7_fill_53178 ∈ G := mG (tb1 (List.mem_of_getElem? (i := 159) rfl)) rfl
theorem ml_X2_44 : Cond.methodLink RX2 44 yX2_findReached ∈ G := mG (tb1 (List.mem_of_getElem? (i := 160) rfl)) rfl
theorem im_X2_findReached : Cond.instanceMethod yX2_findReached ∈ G := mG (tb1 (List.mem_of_getElem? (i := 162) rfl)) rfl
theorem co_X2_findReached : Cond.code yX2_findReached cX2_findReached 4 none ∈ G := mG (tb1 (List.mem_of_getElem? (i := 163) rfl)) rfl
theorem ml_X2_67 : Cond.methodLink RX2 67 yX2_targetSet ∈ G := mG (tb1 (List.mem_of_getElem? (i := 164) rfl)) rfl
theorem im_X2_targetSet : Cond.instanceMethod yX2_targetSet ∈ G := mG (tb1 (List.mem_of_getElem? (i := 166) rfl)) rfl
theorem co_X2_targetSet : Cond.code yX2_targetSet cX2_targetSet 4 (some .int) ∈ G := mG (tb1 (List.mem_of_getElem? (i := 167) rfl)) rfl
theorem ml_X2_76 : Cond.methodLink RX2 76 yX1_target ∈ G := mG (tb1 (List.mem_of_getElem? (i := 168) rfl)) rfl
theorem im_X1_target : Cond.instanceMethod yX1_target ∈ G := mG (tb1 (List.mem_of_getElem? (i := 169) rfl)) rfl
theorem se_X1_target : Cond.selects RX1 yX1_target yX1_target ∈ G := mG (tb1 (List.mem_of_getElem? (i := 170) rfl)) rfl
theorem co_X1_target : Cond.code yX1_target cX1_target 6 (some .int) ∈ G := mG (tb1 (List.mem_of_getElem? (i := 171) rfl)) rfl
theorem ml_X1_52 : Cond.methodLink RX1 52 yX1_bodyOf ∈ G := mG (tb1 (List.mem_of_getElem? (i := 172) rfl)) rfl
theorem st_X1_bodyOf : Cond.static yX1_bodyOf ∈ G := mG (tb1 (List.mem_of_getElem? (i := 173) rfl)) rfl
theorem co_X1_bodyOf : Cond.code yX1_bodyOf cX1_bodyOf 2 (some .int) ∈ G := mG (tb1 (List.mem_of_getElem? (i := 174) rfl)) rfl
theorem ml_X2_70 : Cond.methodLink RX2 70 yX2_readBodies ∈ G := mG (tb1 (List.mem_of_getElem? (i := 175) rfl)) rfl
theorem im_X2_readBodies : Cond.instanceMethod yX2_readBodies ∈ G := mG (tb1 (List.mem_of_getElem? (i := 177) rfl)) rfl
theorem co_X2_readBodies : Cond.code yX2_readBodies cX2_readBodies 3 none ∈ G := mG (tb1 (List.mem_of_getElem? (i := 178) rfl)) rfl
theorem ml_X2_51 : Cond.methodLink RX2 51 yX2_isIn ∈ G := mG (tb1 (List.mem_of_getElem? (i := 179) rfl)) rfl
theorem st_X2_isIn : Cond.static yX2_isIn ∈ G := mG (tb1 (List.mem_of_getElem? (i := 180) rfl)) rfl
theorem co_X2_isIn : Cond.code yX2_isIn cX2_isIn 2 (some .boolean) ∈ G := mG (tb1 (List.mem_of_getElem? (i := 181) rfl)) rfl
theorem ml_X2_79 : Cond.methodLink RX2 79 yX2_readBody ∈ G := mG (tb1 (List.mem_of_getElem? (i := 182) rfl)) rfl
theorem im_X2_readBody : Cond.instanceMethod yX2_readBody ∈ G := mG (tb1 (List.mem_of_getElem? (i := 184) rfl)) rfl
theorem co_X2_readBody : Cond.code yX2_readBody cX2_readBody 4 none ∈ G := mG (tb1 (List.mem_of_getElem? (i := 185) rfl)) rfl
theorem ml_X2_82 : Cond.methodLink RX2 82 yX1_length ∈ G := mG (tb1 (List.mem_of_getElem? (i := 186) rfl)) rfl
theorem im_X1_length : Cond.instanceMethod yX1_length ∈ G := mG (tb1 (List.mem_of_getElem? (i := 187) rfl)) rfl
theorem se_X1_length : Cond.selects RX1 yX1_length yX1_length ∈ G := mG (tb1 (List.mem_of_getElem? (i := 188) rfl)) rfl
theorem co_X1_length : Cond.code yX1_length cX1_length 2 (some .int) ∈ G := mG (tb1 (List.mem_of_getElem? (i := 189) rfl)) rfl
theorem ml_X2_29 : Cond.methodLink RX2 29 yX1_placeOf ∈ G := mG (tb1 (List.mem_of_getElem? (i := 190) rfl)) rfl
theorem st_X1_placeOf : Cond.static yX1_placeOf ∈ G := mG (tb1 (List.mem_of_getElem? (i := 191) rfl)) rfl
theorem co_X1_placeOf : Cond.code yX1_placeOf cX1_placeOf 2 (some .int) ∈ G := mG (tb1 (List.mem_of_getElem? (i := 192) rfl)) rfl
theorem ml_X2_85 : Cond.methodLink RX2 85 yX1_kind ∈ G := mG (tb1 (List.mem_of_getElem? (i := 193) rfl)) rfl
theorem im_X1_kind : Cond.instanceMethod yX1_kind ∈ G := mG (tb1 (List.mem_of_getElem? (i := 194) rfl)) rfl
theorem se_X1_kind : Cond.selects RX1 yX1_kind yX1_kind ∈ G := mG (tb1 (List.mem_of_getElem? (i := 195) rfl)) rfl
theorem co_X1_kind : Cond.code yX1_kind cX1_kind 2 (some .int) ∈ G := mG (tb1 (List.mem_of_getElem? (i := 196) rfl)) rfl
theorem ml_X2_88 : Cond.methodLink RX2 88 yX1_y ∈ G := mG (tb1 (List.mem_of_getElem? (i := 197) rfl)) rfl
theorem im_X1_y : Cond.instanceMethod yX1_y ∈ G := mG (tb1 (List.mem_of_getElem? (i := 198) rfl)) rfl
theorem se_X1_y : Cond.selects RX1 yX1_y yX1_y ∈ G := mG (tb1 (List.mem_of_getElem? (i := 199) rfl)) rfl
theorem co_X1_y : Cond.code yX1_y cX1_y 2 (some .int) ∈ G := mG (tb1 (List.mem_of_getElem? (i := 200) rfl)) rfl
theorem ml_X2_91 : Cond.methodLink RX2 91 yX1_z ∈ G := mG (tb1 (List.mem_of_getElem? (i := 201) rfl)) rfl
theorem im_X1_z : Cond.instanceMethod yX1_z ∈ G := mG (tb1 (List.mem_of_getElem? (i := 202) rfl)) rfl
theorem se_X1_z : Cond.selects RX1 yX1_z yX1_z ∈ G := mG (tb1 (List.mem_of_getElem? (i := 203) rfl)) rfl
theorem co_X1_z : Cond.code yX1_z cX1_z 2 (some .int) ∈ G := mG (tb1 (List.mem_of_getElem? (i := 204) rfl)) rfl
theorem ml_X2_73 : Cond.methodLink RX2 73 yX2_reachTargets ∈ G := mG (tb1 (List.mem_of_getElem? (i := 205) rfl)) rfl
theorem im_X2_reachTargets : Cond.instanceMethod yX2_reachTargets ∈ G := mG (tb1 (List.mem_of_getElem? (i := 207) rfl)) rfl
theorem co_X2_reachTargets : Cond.code yX2_reachTargets cX2_reachTargets 3 none ∈ G := mG (tb1 (List.mem_of_getElem? (i := 208) rfl)) rfl
theorem ml_X2_47 : Cond.methodLink RX2 47 yX2_verdictOfCalls ∈ G := mG (tb1 (List.mem_of_getElem? (i := 209) rfl)) rfl
theorem im_X2_verdictOfCalls : Cond.instanceMethod yX2_verdictOfCalls ∈ G := mG (tb1 (List.mem_of_getElem? (i := 211) rfl)) rfl
theorem co_X2_verdictOfCalls : Cond.code yX2_verdictOfCalls cX2_verdictOfCalls 5 (some .int) ∈ G := mG (tb1 (List.mem_of_getElem? (i := 212) rfl)) rfl
theorem ml_X2_94 : Cond.methodLink RX2 94 yX1_fitsInPlace ∈ G := mG (tb1 (List.mem_of_getElem? (i := 213) rfl)) rfl
theorem im_X1_fitsInPlace : Cond.instanceMethod yX1_fitsInPlace ∈ G := mG (tb1 (List.mem_of_getElem? (i := 214) rfl)) rfl
theorem se_X1_fitsInPlace : Cond.selects RX1 yX1_fitsInPlace yX1_fitsInPlace ∈ G := mG (tb1 (List.mem_of_getElem? (i := 215) rfl)) rfl
theorem co_X1_fitsInPlace : Cond.code yX1_fitsInPlace cX1_fitsInPlace 4 (some .boolean) ∈ G := mG (tb1 (List.mem_of_getElem? (i := 216) rfl)) rfl
theorem ml_X1_48 : Cond.methodLink RX1 48 yX1_placeOf ∈ G := mG (tb1 (List.mem_of_getElem? (i := 217) rfl)) rfl
theorem ml_X2_55 : Cond.methodLink RX2 55 yX2_judge ∈ G := mG (tb1 (List.mem_of_getElem? (i := 218) rfl)) rfl
theorem im_X2_judge : Cond.instanceMethod yX2_judge ∈ G := mG (tb1 (List.mem_of_getElem? (i := 220) rfl)) rfl
theorem co_X2_judge : Cond.code yX2_judge cX2_judge 6 none ∈ G := mG (tb1 (List.mem_of_getElem? (i := 221) rfl)) rfl
theorem ml_X2_98 : Cond.methodLink RX2 98 yX2_waysOut ∈ G := mG (tb1 (List.mem_of_getElem? (i := 222) rfl)) rfl
theorem im_X2_waysOut : Cond.instanceMethod yX2_waysOut ∈ G := mG (tb1 (List.mem_of_getElem? (i := 224) rfl)) rfl
theorem co_X2_waysOut : Cond.code yX2_waysOut cX2_waysOut 6 (some .int) ∈ G := mG (tb1 (List.mem_of_getElem? (i := 225) rfl)) rfl
theorem ml_X2_101 : Cond.methodLink RX2 101 yX1_x ∈ G := mG (tb1 (List.mem_of_getElem? (i := 226) rfl)) rfl
theorem im_X1_x : Cond.instanceMethod yX1_x ∈ G := mG (tb1 (List.mem_of_getElem? (i := 227) rfl)) rfl
theorem se_X1_x : Cond.selects RX1 yX1_x yX1_x ∈ G := mG (tb1 (List.mem_of_getElem? (i := 228) rfl)) rfl
theorem co_X1_x : Cond.code yX1_x cX1_x 2 (some .int) ∈ G := mG (tb1 (List.mem_of_getElem? (i := 229) rfl)) rfl
theorem ml_X2_104 : Cond.methodLink RX2 104 yX2_holders ∈ G := mG (tb1 (List.mem_of_getElem? (i := 230) rfl)) rfl
theorem im_X2_holders : Cond.instanceMethod yX2_holders ∈ G := mG (tb1 (List.mem_of_getElem? (i := 232) rfl)) rfl
theorem co_X2_holders : Cond.code yX2_holders cX2_holders 7 (some .int) ∈ G := mG (tb1 (List.mem_of_getElem? (i := 233) rfl)) rfl
theorem ml_X2_59 : Cond.methodLink RX2 59 yJ6_bitCount_0f7a4 ∈ G := mG (tb1 (List.mem_of_getElem? (i := 234) rfl)) rfl
theorem st_J6_bitCount_0f7a4 : Cond.static yJ6_bitCount_0f7a4 ∈ G := mG (tb1 (List.mem_of_getElem? (i := 235) rfl)) rfl
theorem co_J6_bitCount_0f7a4 : Cond.code yJ6_bitCount_0f7a4 cJ6_bitCount_0f7a4 1 (some .int) ∈ G := mG (tb1 (List.mem_of_getElem? (i := 236) rfl)) rfl
theorem kc_J6_265 : Cond.constant RJ6 265 (1431655765 : Int32) ∈ G := mG (tb1 (List.mem_of_getElem? (i := 237) rfl)) rfl
theorem kc_J6_266 : Cond.constant RJ6 266 (858993459 : Int32) ∈ G := mG (tb1 (List.mem_of_getElem? (i := 238) rfl)) rfl
theorem kc_J6_267 : Cond.constant RJ6 267 (252645135 : Int32) ∈ G := mG (tb1 (List.mem_of_getElem? (i := 239) rfl)) rfl
theorem ml_L_67 : Cond.methodLink RL 67 yX3_reach ∈ G := mG (tb2 (List.mem_of_getElem? (i := 0) rfl)) rfl
theorem im_X3_reach : Cond.instanceMethod yX3_reach ∈ G := mG (tb2 (List.mem_of_getElem? (i := 1) rfl)) rfl
theorem se_X3_reach : Cond.selects RX3 yX3_reach yX3_reach ∈ G := mG (tb2 (List.mem_of_getElem? (i := 2) rfl)) rfl
theorem co_X3_reach : Cond.code yX3_reach cX3_reach 1 (some .int) ∈ G := mG (tb2 (List.mem_of_getElem? (i := 3) rfl)) rfl
theorem ml_X3_94 : Cond.methodLink RX3 94 yX2_bits ∈ G := mG (tb2 (List.mem_of_getElem? (i := 4) rfl)) rfl
theorem im_X2_bits : Cond.instanceMethod yX2_bits ∈ G := mG (tb2 (List.mem_of_getElem? (i := 5) rfl)) rfl
theorem se_X2_bits : Cond.selects RX2 yX2_bits yX2_bits ∈ G := mG (tb2 (List.mem_of_getElem? (i := 6) rfl)) rfl
theorem co_X2_bits : Cond.code yX2_bits cX2_bits 1 (some .int) ∈ G := mG (tb2 (List.mem_of_getElem? (i := 7) rfl)) rfl
theorem ml_L_45 : Cond.methodLink RL 45 yL_type ∈ G := mG (tb2 (List.mem_of_getElem? (i := 8) rfl)) rfl
theorem st_L_type : Cond.static yL_type ∈ G := mG (tb2 (List.mem_of_getElem? (i := 9) rfl)) rfl
theorem cl_L_13 : Cond.classLink RL 13 "java/lang/IllegalArgumentException" ∈ G := mG (tb2 (List.mem_of_getElem? (i := 11) rfl)) rfl
theorem cl_L_15 : Cond.classLink RL 15 "java/lang/IllegalStateException" ∈ G := mG (tb2 (List.mem_of_getElem? (i := 12) rfl)) rfl
theorem ml_L_7 : Cond.methodLink RL 7 yX3_type ∈ G := mG (tb2 (List.mem_of_getElem? (i := 13) rfl)) rfl
theorem im_X3_type : Cond.instanceMethod yX3_type ∈ G := mG (tb2 (List.mem_of_getElem? (i := 14) rfl)) rfl
theorem se_X3_type : Cond.selects RX3 yX3_type yX3_type ∈ G := mG (tb2 (List.mem_of_getElem? (i := 15) rfl)) rfl
theorem co_X3_type : Cond.code yX3_type cX3_type 2 (some .int) ∈ G := mG (tb2 (List.mem_of_getElem? (i := 16) rfl)) rfl
theorem ml_X3_34 : Cond.methodLink RX3 34 yX1_hasClass ∈ G := mG (tb2 (List.mem_of_getElem? (i := 17) rfl)) rfl
theorem im_X1_hasClass : Cond.instanceMethod yX1_hasClass ∈ G := mG (tb2 (List.mem_of_getElem? (i := 18) rfl)) rfl
theorem se_X1_hasClass : Cond.selects RX1 yX1_hasClass yX1_hasClass ∈ G := mG (tb2 (List.mem_of_getElem? (i := 19) rfl)) rfl
theorem co_X1_hasClass : Cond.code yX1_hasClass cX1_hasClass 2 (some .boolean) ∈ G := mG (tb2 (List.mem_of_getElem? (i := 20) rfl)) rfl
theorem ml_X1_40 : Cond.methodLink RX1 40 yX1_isWithin ∈ G := mG (tb2 (List.mem_of_getElem? (i := 21) rfl)) rfl
theorem st_X1_isWithin : Cond.static yX1_isWithin ∈ G := mG (tb2 (List.mem_of_getElem? (i := 22) rfl)) rfl
theorem co_X1_isWithin : Cond.code yX1_isWithin cX1_isWithin 2 (some .boolean) ∈ G := mG (tb2 (List.mem_of_getElem? (i := 23) rfl)) rfl
theorem cl_X3_38 : Cond.classLink RX3 38 "java/lang/IllegalArgumentException" ∈ G := mG (tb2 (List.mem_of_getElem? (i := 24) rfl)) rfl
theorem ar_byte : Cond.arrayClass .byte ∈ G := mG (tb2 (List.mem_of_getElem? (i := 91) rfl)) rfl
theorem ml_X3_45 : Cond.methodLink RX3 45 yX1_isFullOfClasses ∈ G := mG (tb2 (List.mem_of_getElem? (i := 92) rfl)) rfl
theorem im_X1_isFullOfClasses : Cond.instanceMethod yX1_isFullOfClasses ∈ G := mG (tb2 (List.mem_of_getElem? (i := 93) rfl)) rfl
theorem se_X1_isFullOfClasses : Cond.selects RX1 yX1_isFullOfClasses yX1_isFullOfClasses ∈ G := mG (tb2 (List.mem_of_getElem? (i := 94) rfl)) rfl
theorem co_X1_isFullOfClasses : Cond.code yX1_isFullOfClasses cX1_isFullOfClasses 1 (some .boolean) ∈ G := mG (tb2 (List.mem_of_getElem? (i := 95) rfl)) rfl
theorem cl_X3_49 : Cond.classLink RX3 49 "java/lang/IllegalStateException" ∈ G := mG (tb2 (List.mem_of_getElem? (i := 96) rfl)) rfl
theorem ml_X3_54 : Cond.methodLink RX3 54 yX1_addClass ∈ G := mG (tb2 (List.mem_of_getElem? (i := 112) rfl)) rfl
theorem im_X1_addClass : Cond.instanceMethod yX1_addClass ∈ G := mG (tb2 (List.mem_of_getElem? (i := 113) rfl)) rfl
theorem se_X1_addClass : Cond.selects RX1 yX1_addClass yX1_addClass ∈ G := mG (tb2 (List.mem_of_getElem? (i := 114) rfl)) rfl
theorem co_X1_addClass : Cond.code yX1_addClass cX1_addClass 3 (some .int) ∈ G := mG (tb2 (List.mem_of_getElem? (i := 115) rfl)) rfl
theorem ml_L_55 : Cond.methodLink RL 55 yL_operation ∈ G := mG (tb2 (List.mem_of_getElem? (i := 116) rfl)) rfl
theorem st_L_operation : Cond.static yL_operation ∈ G := mG (tb2 (List.mem_of_getElem? (i := 117) rfl)) rfl
theorem ml_L_17 : Cond.methodLink RL 17 yX3_operation ∈ G := mG (tb2 (List.mem_of_getElem? (i := 119) rfl)) rfl
theorem im_X3_operation : Cond.instanceMethod yX3_operation ∈ G := mG (tb2 (List.mem_of_getElem? (i := 120) rfl)) rfl
theorem se_X3_operation : Cond.selects RX3 yX3_operation yX3_operation ∈ G := mG (tb2 (List.mem_of_getElem? (i := 121) rfl)) rfl
theorem co_X3_operation : Cond.code yX3_operation cX3_operation 8 (some .int) ∈ G := mG (tb2 (List.mem_of_getElem? (i := 122) rfl)) rfl
theorem ml_X3_58 : Cond.methodLink RX3 58 yX1_hasPlaceFor ∈ G := mG (tb2 (List.mem_of_getElem? (i := 123) rfl)) rfl
theorem im_X1_hasPlaceFor : Cond.instanceMethod yX1_hasPlaceFor ∈ G := mG (tb2 (List.mem_of_getElem? (i := 124) rfl)) rfl
theorem se_X1_hasPlaceFor : Cond.selects RX1 yX1_hasPlaceFor yX1_hasPlaceFor ∈ G := mG (tb2 (List.mem_of_getElem? (i := 125) rfl)) rfl
theorem co_X1_hasPlaceFor : Cond.code yX1_hasPlaceFor cX1_hasPlaceFor 3 (some .boolean) ∈ G := mG (tb2 (List.mem_of_getElem? (i := 126) rfl)) rfl
theorem ml_X1_44 : Cond.methodLink RX1 44 yX1_hasClass ∈ G := mG (tb2 (List.mem_of_getElem? (i := 127) rfl)) rfl
theorem ml_X3_64 : Cond.methodLink RX3 64 yX1_isWellFormed ∈ G := mG (tb2 (List.mem_of_getElem? (i := 129) rfl)) rfl
theorem st_X1_isWellFormed : Cond.static yX1_isWellFormed ∈ G := mG (tb2 (List.mem_of_getElem? (i := 130) rfl)) rfl
theorem co_X1_isWellFormed : Cond.code yX1_isWellFormed cX1_isWellFormed 4 (some .boolean) ∈ G := mG (tb2 (List.mem_of_getElem? (i := 131) rfl)) rfl
theorem ml_X3_70 : Cond.methodLink RX3 70 yX1_bodyOf ∈ G := mG (tb2 (List.mem_of_getElem? (i := 133) rfl)) rfl
theorem ml_X3_74 : Cond.methodLink RX3 74 yX1_isFull ∈ G := mG (tb2 (List.mem_of_getElem? (i := 134) rfl)) rfl
theorem im_X1_isFull : Cond.instanceMethod yX1_isFull ∈ G := mG (tb2 (List.mem_of_getElem? (i := 135) rfl)) rfl
theorem se_X1_isFull : Cond.selects RX1 yX1_isFull yX1_isFull ∈ G := mG (tb2 (List.mem_of_getElem? (i := 136) rfl)) rfl
theorem co_X1_isFull : Cond.code yX1_isFull cX1_isFull 2 (some .boolean) ∈ G := mG (tb2 (List.mem_of_getElem? (i := 137) rfl)) rfl
theorem ml_X3_79 : Cond.methodLink RX3 79 yX2_forget ∈ G := mG (tb2 (List.mem_of_getElem? (i := 139) rfl)) rfl
theorem im_X2_forget : Cond.instanceMethod yX2_forget ∈ G := mG (tb2 (List.mem_of_getElem? (i := 140) rfl)) rfl
theorem se_X2_forget : Cond.selects RX2 yX2_forget yX2_forget ∈ G := mG (tb2 (List.mem_of_getElem? (i := 141) rfl)) rfl
theorem co_X2_forget : Cond.code yX2_forget cX2_forget 3 none ∈ G := mG (tb2 (List.mem_of_getElem? (i := 142) rfl)) rfl
theorem ml_X2_35 : Cond.methodLink RX2 35 yJ7_fill_fda19 ∈ G := mG (tb2 (List.mem_of_getElem? (i := 143) rfl)) rfl
theorem st_J7_fill_fda19 : Cond.static yJ7_fill_fda19 ∈ G := mG (tb2 (List.mem_of_getElem? (i := 144) rfl)) rfl
theorem co_J7_fill_fda19 : Cond.code yJ7_fill_fda19 cJ7_fill_fda19 5 none ∈ G := mG (tb2 (List.mem_of_getElem? (i := 145) rfl)) rfl
theorem ml_J7_13 : Cond.methodLink RJ7 13 yJ7_rangeCheck_23922 ∈ G := mG (tb2 (List.mem_of_getElem? (i := 146) rfl)) rfl
theorem st_J7_rangeCheck_23922 : Cond.static yJ7_rangeCheck_23922 ∈ G := mG (tb2 (List.mem_of_getElem? (i := 147) rfl)) rfl
theorem co_J7_rangeCheck_23922 : Cond.code yJ7_rangeCheck_23922 cJ7_rangeCheck_23922 3 none ∈ G := mG (tb2 (List.mem_of_getElem? (i := 148) rfl)) rfl
theorem cl_J7_43 : Cond.classLink RJ7 43 "java/lang/IllegalArgumentException" ∈ G := mG (tb2 (List.mem_of_getElem? (i := 149) rfl)) rfl
theorem cl_J7_45 : Cond.classLink RJ7 45 "java/lang/StringBuilder" ∈ G := mG (tb2 (List.mem_of_getElem? (i := 150) rfl)) rfl
theorem st_max : Cond.static Lib.Math.max.name ∈ G := mG (tb2 (List.mem_of_getElem? (i := 205) rfl)) rfl
theorem co_max : Cond.code Lib.Math.max.name Lib.Math.max.code 2 (some .int) ∈ G := mG (tb2 (List.mem_of_getElem? (i := 206) rfl)) rfl
theorem cl_J7_311 : Cond.classLink RJ7 311 "[B" ∈ G := mG (tb2 (List.mem_of_getElem? (i := 221) rfl)) rfl
theorem fl_J6_83 : Cond.fieldLink RJ6 83 "java/lang/Integer" "DigitOnes" "[B" ∈ G := mG (tb3 (List.mem_of_getElem? (i := 75) rfl)) rfl
theorem fl_J6_87 : Cond.fieldLink RJ6 87 "java/lang/Integer" "DigitTens" "[B" ∈ G := mG (tb3 (List.mem_of_getElem? (i := 77) rfl)) rfl
theorem ml_X3_83 : Cond.methodLink RX3 83 yX1_append ∈ G := mG (tb3 (List.mem_of_getElem? (i := 151) rfl)) rfl
theorem im_X1_append : Cond.instanceMethod yX1_append ∈ G := mG (tb3 (List.mem_of_getElem? (i := 152) rfl)) rfl
theorem se_X1_append : Cond.selects RX1 yX1_append yX1_append ∈ G := mG (tb3 (List.mem_of_getElem? (i := 153) rfl)) rfl
theorem co_X1_append : Cond.code yX1_append cX1_append 7 (some .int) ∈ G := mG (tb3 (List.mem_of_getElem? (i := 154) rfl)) rfl
theorem ml_L_59 : Cond.methodLink RL 59 yL_strip ∈ G := mG (tb3 (List.mem_of_getElem? (i := 155) rfl)) rfl
theorem st_L_strip : Cond.static yL_strip ∈ G := mG (tb3 (List.mem_of_getElem? (i := 156) rfl)) rfl
theorem ml_L_21 : Cond.methodLink RL 21 yX3_strip ∈ G := mG (tb3 (List.mem_of_getElem? (i := 158) rfl)) rfl
theorem im_X3_strip : Cond.instanceMethod yX3_strip ∈ G := mG (tb3 (List.mem_of_getElem? (i := 159) rfl)) rfl
theorem se_X3_strip : Cond.selects RX3 yX3_strip yX3_strip ∈ G := mG (tb3 (List.mem_of_getElem? (i := 160) rfl)) rfl
theorem co_X3_strip : Cond.code yX3_strip cX3_strip 4 (some .int) ∈ G := mG (tb3 (List.mem_of_getElem? (i := 161) rfl)) rfl
theorem ml_X3_87 : Cond.methodLink RX3 87 yX1_empty ∈ G := mG (tb3 (List.mem_of_getElem? (i := 162) rfl)) rfl
theorem im_X1_empty : Cond.instanceMethod yX1_empty ∈ G := mG (tb3 (List.mem_of_getElem? (i := 163) rfl)) rfl
theorem se_X1_empty : Cond.selects RX1 yX1_empty yX1_empty ∈ G := mG (tb3 (List.mem_of_getElem? (i := 164) rfl)) rfl
theorem co_X1_empty : Cond.code yX1_empty cX1_empty 3 (some .int) ∈ G := mG (tb3 (List.mem_of_getElem? (i := 165) rfl)) rfl
theorem ml_L_71 : Cond.methodLink RL 71 yL_site ∈ G := mG (tb3 (List.mem_of_getElem? (i := 166) rfl)) rfl
theorem st_L_site : Cond.static yL_site ∈ G := mG (tb3 (List.mem_of_getElem? (i := 167) rfl)) rfl
theorem cl_L_29 : Cond.classLink RL 29 "java/util/NoSuchElementException" ∈ G := mG (tb3 (List.mem_of_getElem? (i := 169) rfl)) rfl
theorem ml_L_25 : Cond.methodLink RL 25 yX3_site ∈ G := mG (tb3 (List.mem_of_getElem? (i := 170) rfl)) rfl
theorem im_X3_site : Cond.instanceMethod yX3_site ∈ G := mG (tb3 (List.mem_of_getElem? (i := 171) rfl)) rfl
theorem se_X3_site : Cond.selects RX3 yX3_site yX3_site ∈ G := mG (tb3 (List.mem_of_getElem? (i := 172) rfl)) rfl
theorem co_X3_site : Cond.code yX3_site cX3_site 5 (some .int) ∈ G := mG (tb3 (List.mem_of_getElem? (i := 173) rfl)) rfl
theorem cl_X3_97 : Cond.classLink RX3 97 "java/util/NoSuchElementException" ∈ G := mG (tb3 (List.mem_of_getElem? (i := 174) rfl)) rfl
theorem ml_X3_100 : Cond.methodLink RX3 100 yX1_length ∈ G := mG (tb3 (List.mem_of_getElem? (i := 189) rfl)) rfl
theorem ml_X3_105 : Cond.methodLink RX3 105 yX1_placeOf ∈ G := mG (tb3 (List.mem_of_getElem? (i := 191) rfl)) rfl
theorem ml_X3_108 : Cond.methodLink RX3 108 yX2_verdictAt ∈ G := mG (tb3 (List.mem_of_getElem? (i := 192) rfl)) rfl
theorem im_X2_verdictAt : Cond.instanceMethod yX2_verdictAt ∈ G := mG (tb3 (List.mem_of_getElem? (i := 193) rfl)) rfl
theorem se_X2_verdictAt : Cond.selects RX2 yX2_verdictAt yX2_verdictAt ∈ G := mG (tb3 (List.mem_of_getElem? (i := 194) rfl)) rfl
theorem co_X2_verdictAt : Cond.code yX2_verdictAt cX2_verdictAt 2 (some .int) ∈ G := mG (tb3 (List.mem_of_getElem? (i := 195) rfl)) rfl
theorem ml_L_75 : Cond.methodLink RL 75 yL_run ∈ G := mG (tb3 (List.mem_of_getElem? (i := 196) rfl)) rfl
theorem st_L_run : Cond.static yL_run ∈ G := mG (tb3 (List.mem_of_getElem? (i := 197) rfl)) rfl
theorem ml_L_31 : Cond.methodLink RL 31 yX3_run ∈ G := mG (tb3 (List.mem_of_getElem? (i := 199) rfl)) rfl
theorem im_X3_run : Cond.instanceMethod yX3_run ∈ G := mG (tb3 (List.mem_of_getElem? (i := 200) rfl)) rfl
theorem se_X3_run : Cond.selects RX3 yX3_run yX3_run ∈ G := mG (tb3 (List.mem_of_getElem? (i := 201) rfl)) rfl
theorem co_X3_run : Cond.code yX3_run cX3_run 3 (some .int) ∈ G := mG (tb3 (List.mem_of_getElem? (i := 202) rfl)) rfl
theorem ml_X3_113 : Cond.methodLink RX3 113 yX0_execute ∈ G := mG (tb3 (List.mem_of_getElem? (i := 204) rfl)) rfl
theorem im_X0_execute : Cond.instanceMethod yX0_execute ∈ G := mG (tb3 (List.mem_of_getElem? (i := 205) rfl)) rfl
theorem se_X0_execute : Cond.selects RX0 yX0_execute yX0_execute ∈ G := mG (tb3 (List.mem_of_getElem? (i := 206) rfl)) rfl
theorem co_X0_execute : Cond.code yX0_execute cX0_execute 4 (some .int) ∈ G := mG (tb3 (List.mem_of_getElem? (i := 207) rfl)) rfl
theorem ml_X0_62 : Cond.methodLink RX0 62 yJ7_fill_53178 ∈ G := mG (tb3 (List.mem_of_getElem? (i := 208) rfl)) rfl
theorem ml_X0_68 : Cond.methodLink RX0 68 yX0_begin ∈ G := mG (tb3 (List.mem_of_getElem? (i := 209) rfl)) rfl
theorem im_X0_begin : Cond.instanceMethod yX0_begin ∈ G := mG (tb3 (List.mem_of_getElem? (i := 211) rfl)) rfl
theorem co_X0_begin : Cond.code yX0_begin cX0_begin 4 none ∈ G := mG (tb3 (List.mem_of_getElem? (i := 212) rfl)) rfl
theorem ml_X0_81 : Cond.methodLink RX0 81 yX0_newObject ∈ G := mG (tb3 (List.mem_of_getElem? (i := 213) rfl)) rfl
theorem im_X0_newObject : Cond.instanceMethod yX0_newObject ∈ G := mG (tb3 (List.mem_of_getElem? (i := 215) rfl)) rfl
theorem co_X0_newObject : Cond.code yX0_newObject cX0_newObject 4 (some .long) ∈ G := mG (tb3 (List.mem_of_getElem? (i := 216) rfl)) rfl
theorem ml_X0_159 : Cond.methodLink RX0 159 yJ7_fill_bad5a ∈ G := mG (tb3 (List.mem_of_getElem? (i := 217) rfl)) rfl
theorem st_J7_fill_bad5a : Cond.static yJ7_fill_bad5a ∈ G := mG (tb3 (List.mem_of_getElem? (i := 218) rfl)) rfl
theorem co_J7_fill_bad5a : Cond.code yJ7_fill_bad5a cJ7_fill_bad5a 6 none ∈ G := mG (tb3 (List.mem_of_getElem? (i := 219) rfl)) rfl
theorem kl_X0_145 : Cond.constantLong RX0 145 (4294967296 : Int64) ∈ G := mG (tb3 (List.mem_of_getElem? (i := 220) rfl)) rfl
theorem ml_X0_85 : Cond.methodLink RX0 85 yX1_target ∈ G := mG (tb3 (List.mem_of_getElem? (i := 221) rfl)) rfl
theorem ml_X0_91 : Cond.methodLink RX0 91 yX0_enter ∈ G := mG (tb3 (List.mem_of_getElem? (i := 222) rfl)) rfl
theorem im_X0_enter : Cond.instanceMethod yX0_enter ∈ G := mG (tb3 (List.mem_of_getElem? (i := 224) rfl)) rfl
theorem co_X0_enter : Cond.code yX0_enter cX0_enter 7 none ∈ G := mG (tb3 (List.mem_of_getElem? (i := 225) rfl)) rfl
theorem ml_X0_170 : Cond.methodLink RX0 170 Lib.Math.max.name ∈ G := mG (tb3 (List.mem_of_getElem? (i := 226) rfl)) rfl
theorem ml_X0_71 : Cond.methodLink RX0 71 yX0_isGoing ∈ G := mG (tb3 (List.mem_of_getElem? (i := 227) rfl)) rfl
theorem im_X0_isGoing : Cond.instanceMethod yX0_isGoing ∈ G := mG (tb3 (List.mem_of_getElem? (i := 229) rfl)) rfl
theorem co_X0_isGoing : Cond.code yX0_isGoing cX0_isGoing 1 (some .boolean) ∈ G := mG (tb3 (List.mem_of_getElem? (i := 230) rfl)) rfl
theorem ml_X0_75 : Cond.methodLink RX0 75 yX0_step ∈ G := mG (tb3 (List.mem_of_getElem? (i := 231) rfl)) rfl
theorem im_X0_step : Cond.instanceMethod yX0_step ∈ G := mG (tb3 (List.mem_of_getElem? (i := 233) rfl)) rfl
theorem co_X0_step : Cond.code yX0_step cX0_step 3 none ∈ G := mG (tb3 (List.mem_of_getElem? (i := 234) rfl)) rfl
theorem ml_X0_107 : Cond.methodLink RX0 107 yX1_placeOf ∈ G := mG (tb3 (List.mem_of_getElem? (i := 235) rfl)) rfl
theorem ml_X0_110 : Cond.methodLink RX0 110 yX0_perform ∈ G := mG (tb3 (List.mem_of_getElem? (i := 236) rfl)) rfl
theorem im_X0_perform : Cond.instanceMethod yX0_perform ∈ G := mG (tb3 (List.mem_of_getElem? (i := 238) rfl)) rfl
theorem co_X0_perform : Cond.code yX0_perform cX0_perform 4 none ∈ G := mG (tb3 (List.mem_of_getElem? (i := 239) rfl)) rfl
theorem ml_X0_114 : Cond.methodLink RX0 114 yX1_x ∈ G := mG (tb4 (List.mem_of_getElem? (i := 0) rfl)) rfl
theorem ml_X0_117 : Cond.methodLink RX0 117 yX1_kind ∈ G := mG (tb4 (List.mem_of_getElem? (i := 1) rfl)) rfl
theorem ml_X0_120 : Cond.methodLink RX0 120 yX1_y ∈ G := mG (tb4 (List.mem_of_getElem? (i := 2) rfl)) rfl
theorem ml_X0_123 : Cond.methodLink RX0 123 yX0_reckon ∈ G := mG (tb4 (List.mem_of_getElem? (i := 3) rfl)) rfl
theorem im_X0_reckon : Cond.instanceMethod yX0_reckon ∈ G := mG (tb4 (List.mem_of_getElem? (i := 5) rfl)) rfl
theorem co_X0_reckon : Cond.code yX0_reckon cX0_reckon 7 none ∈ G := mG (tb4 (List.mem_of_getElem? (i := 6) rfl)) rfl
theorem ml_X0_147 : Cond.methodLink RX0 147 yX1_z ∈ G := mG (tb4 (List.mem_of_getElem? (i := 7) rfl)) rfl
theorem ml_X0_150 : Cond.methodLink RX0 150 yX0_isObject ∈ G := mG (tb4 (List.mem_of_getElem? (i := 8) rfl)) rfl
theorem st_X0_isObject : Cond.static yX0_isObject ∈ G := mG (tb4 (List.mem_of_getElem? (i := 9) rfl)) rfl
theorem co_X0_isObject : Cond.code yX0_isObject cX0_isObject 2 (some .boolean) ∈ G := mG (tb4 (List.mem_of_getElem? (i := 10) rfl)) rfl
theorem ml_X0_126 : Cond.methodLink RX0 126 yX0_make ∈ G := mG (tb4 (List.mem_of_getElem? (i := 11) rfl)) rfl
theorem im_X0_make : Cond.instanceMethod yX0_make ∈ G := mG (tb4 (List.mem_of_getElem? (i := 13) rfl)) rfl
theorem co_X0_make : Cond.code yX0_make cX0_make 4 none ∈ G := mG (tb4 (List.mem_of_getElem? (i := 14) rfl)) rfl
theorem ml_X0_154 : Cond.methodLink RX0 154 yX2_verdictAt ∈ G := mG (tb4 (List.mem_of_getElem? (i := 15) rfl)) rfl
theorem ml_X0_129 : Cond.methodLink RX0 129 yX0_readField ∈ G := mG (tb4 (List.mem_of_getElem? (i := 16) rfl)) rfl
theorem im_X0_readField : Cond.instanceMethod yX0_readField ∈ G := mG (tb4 (List.mem_of_getElem? (i := 18) rfl)) rfl
theorem co_X0_readField : Cond.code yX0_readField cX0_readField 5 none ∈ G := mG (tb4 (List.mem_of_getElem? (i := 19) rfl)) rfl
theorem ml_X0_162 : Cond.methodLink RX0 162 yX0_objectOf ∈ G := mG (tb4 (List.mem_of_getElem? (i := 20) rfl)) rfl
theorem st_X0_objectOf : Cond.static yX0_objectOf ∈ G := mG (tb4 (List.mem_of_getElem? (i := 21) rfl)) rfl
theorem co_X0_objectOf : Cond.code yX0_objectOf cX0_objectOf 2 (some .int) ∈ G := mG (tb4 (List.mem_of_getElem? (i := 22) rfl)) rfl
theorem ml_X0_132 : Cond.methodLink RX0 132 yX0_writeField ∈ G := mG (tb4 (List.mem_of_getElem? (i := 23) rfl)) rfl
theorem im_X0_writeField : Cond.instanceMethod yX0_writeField ∈ G := mG (tb4 (List.mem_of_getElem? (i := 25) rfl)) rfl
theorem co_X0_writeField : Cond.code yX0_writeField cX0_writeField 5 none ∈ G := mG (tb4 (List.mem_of_getElem? (i := 26) rfl)) rfl
theorem ml_X0_135 : Cond.methodLink RX0 135 yX0_send ∈ G := mG (tb4 (List.mem_of_getElem? (i := 27) rfl)) rfl
theorem im_X0_send : Cond.instanceMethod yX0_send ∈ G := mG (tb4 (List.mem_of_getElem? (i := 29) rfl)) rfl
theorem co_X0_send : Cond.code yX0_send cX0_send 6 none ∈ G := mG (tb4 (List.mem_of_getElem? (i := 30) rfl)) rfl
theorem ml_X0_166 : Cond.methodLink RX0 166 yX0_countCall ∈ G := mG (tb4 (List.mem_of_getElem? (i := 31) rfl)) rfl
theorem im_X0_countCall : Cond.instanceMethod yX0_countCall ∈ G := mG (tb4 (List.mem_of_getElem? (i := 33) rfl)) rfl
theorem co_X0_countCall : Cond.code yX0_countCall cX0_countCall 2 none ∈ G := mG (tb4 (List.mem_of_getElem? (i := 34) rfl)) rfl
theorem ml_X0_138 : Cond.methodLink RX0 138 yX0_print ∈ G := mG (tb4 (List.mem_of_getElem? (i := 35) rfl)) rfl
theorem im_X0_print : Cond.instanceMethod yX0_print ∈ G := mG (tb4 (List.mem_of_getElem? (i := 37) rfl)) rfl
theorem co_X0_print : Cond.code yX0_print cX0_print 4 none ∈ G := mG (tb4 (List.mem_of_getElem? (i := 38) rfl)) rfl
theorem ml_X0_141 : Cond.methodLink RX0 141 yX0_checkClass ∈ G := mG (tb4 (List.mem_of_getElem? (i := 39) rfl)) rfl
theorem im_X0_checkClass : Cond.instanceMethod yX0_checkClass ∈ G := mG (tb4 (List.mem_of_getElem? (i := 41) rfl)) rfl
theorem co_X0_checkClass : Cond.code yX0_checkClass cX0_checkClass 4 none ∈ G := mG (tb4 (List.mem_of_getElem? (i := 42) rfl)) rfl
theorem ml_X0_175 : Cond.methodLink RX0 175 yX1_classIs ∈ G := mG (tb4 (List.mem_of_getElem? (i := 43) rfl)) rfl
theorem im_X1_classIs : Cond.instanceMethod yX1_classIs ∈ G := mG (tb4 (List.mem_of_getElem? (i := 44) rfl)) rfl
theorem se_X1_classIs : Cond.selects RX1 yX1_classIs yX1_classIs ∈ G := mG (tb4 (List.mem_of_getElem? (i := 45) rfl)) rfl
theorem co_X1_classIs : Cond.code yX1_classIs cX1_classIs 5 (some .boolean) ∈ G := mG (tb4 (List.mem_of_getElem? (i := 46) rfl)) rfl
theorem ml_X0_99 : Cond.methodLink RX0 99 yX0_answer ∈ G := mG (tb4 (List.mem_of_getElem? (i := 47) rfl)) rfl
theorem im_X0_answer : Cond.instanceMethod yX0_answer ∈ G := mG (tb4 (List.mem_of_getElem? (i := 49) rfl)) rfl
theorem co_X0_answer : Cond.code yX0_answer cX0_answer 3 none ∈ G := mG (tb4 (List.mem_of_getElem? (i := 50) rfl)) rfl
theorem ml_X0_78 : Cond.methodLink RX0 78 yX0_leaveEndedFrames ∈ G := mG (tb4 (List.mem_of_getElem? (i := 51) rfl)) rfl
theorem im_X0_leaveEndedFrames : Cond.instanceMethod yX0_leaveEndedFrames ∈ G := mG (tb4 (List.mem_of_getElem? (i := 53) rfl)) rfl
theorem co_X0_leaveEndedFrames : Cond.code yX0_leaveEndedFrames cX0_leaveEndedFrames 2 none ∈ G := mG (tb4 (List.mem_of_getElem? (i := 54) rfl)) rfl
theorem ml_X0_95 : Cond.methodLink RX0 95 yX0_isBehindLast ∈ G := mG (tb4 (List.mem_of_getElem? (i := 55) rfl)) rfl
theorem im_X0_isBehindLast : Cond.instanceMethod yX0_isBehindLast ∈ G := mG (tb4 (List.mem_of_getElem? (i := 57) rfl)) rfl
theorem co_X0_isBehindLast : Cond.code yX0_isBehindLast cX0_isBehindLast 2 (some .boolean) ∈ G := mG (tb4 (List.mem_of_getElem? (i := 58) rfl)) rfl
theorem ml_X0_103 : Cond.methodLink RX0 103 yX1_length ∈ G := mG (tb4 (List.mem_of_getElem? (i := 59) rfl)) rfl
theorem ml_L_79 : Cond.methodLink RL 79 yL_count ∈ G := mG (tb4 (List.mem_of_getElem? (i := 60) rfl)) rfl
theorem st_L_count : Cond.static yL_count ∈ G := mG (tb4 (List.mem_of_getElem? (i := 61) rfl)) rfl
theorem ml_L_35 : Cond.methodLink RL 35 yX3_count ∈ G := mG (tb4 (List.mem_of_getElem? (i := 63) rfl)) rfl
theorem im_X3_count : Cond.instanceMethod yX3_count ∈ G := mG (tb4 (List.mem_of_getElem? (i := 64) rfl)) rfl
theorem se_X3_count : Cond.selects RX3 yX3_count yX3_count ∈ G := mG (tb4 (List.mem_of_getElem? (i := 65) rfl)) rfl
theorem co_X3_count : Cond.code yX3_count cX3_count 2 (some .int) ∈ G := mG (tb4 (List.mem_of_getElem? (i := 66) rfl)) rfl
theorem ml_X3_119 : Cond.methodLink RX3 119 yX0_tally ∈ G := mG (tb4 (List.mem_of_getElem? (i := 68) rfl)) rfl
theorem im_X0_tally : Cond.instanceMethod yX0_tally ∈ G := mG (tb4 (List.mem_of_getElem? (i := 69) rfl)) rfl
theorem se_X0_tally : Cond.selects RX0 yX0_tally yX0_tally ∈ G := mG (tb4 (List.mem_of_getElem? (i := 70) rfl)) rfl
theorem co_X0_tally : Cond.code yX0_tally cX0_tally 2 (some .int) ∈ G := mG (tb4 (List.mem_of_getElem? (i := 71) rfl)) rfl
theorem ml_L_82 : Cond.methodLink RL 82 yL_out ∈ G := mG (tb4 (List.mem_of_getElem? (i := 72) rfl)) rfl
theorem st_L_out : Cond.static yL_out ∈ G := mG (tb4 (List.mem_of_getElem? (i := 73) rfl)) rfl
theorem ml_L_38 : Cond.methodLink RL 38 yX3_out ∈ G := mG (tb4 (List.mem_of_getElem? (i := 75) rfl)) rfl
theorem im_X3_out : Cond.instanceMethod yX3_out ∈ G := mG (tb4 (List.mem_of_getElem? (i := 76) rfl)) rfl
theorem se_X3_out : Cond.selects RX3 yX3_out yX3_out ∈ G := mG (tb4 (List.mem_of_getElem? (i := 77) rfl)) rfl
theorem co_X3_out : Cond.code yX3_out cX3_out 2 (some .int) ∈ G := mG (tb4 (List.mem_of_getElem? (i := 78) rfl)) rfl
theorem ml_X3_124 : Cond.methodLink RX3 124 yX0_valuePutOut ∈ G := mG (tb4 (List.mem_of_getElem? (i := 80) rfl)) rfl
theorem im_X0_valuePutOut : Cond.instanceMethod yX0_valuePutOut ∈ G := mG (tb4 (List.mem_of_getElem? (i := 81) rfl)) rfl
theorem se_X0_valuePutOut : Cond.selects RX0 yX0_valuePutOut yX0_valuePutOut ∈ G := mG (tb4 (List.mem_of_getElem? (i := 82) rfl)) rfl
theorem co_X0_valuePutOut : Cond.code yX0_valuePutOut cX0_valuePutOut 2 (some .int) ∈ G := mG (tb4 (List.mem_of_getElem? (i := 83) rfl)) rfl
theorem cl_L_42 : Cond.classLink RL 42 "CallShaperModel" ∈ G := mG (tb4 (List.mem_of_getElem? (i := 84) rfl)) rfl
theorem ib_X4 : Cond.instantiable RX4 23 ∈ G := mG (tb4 (List.mem_of_getElem? (i := 85) rfl)) rfl
theorem ml_L_44 : Cond.methodLink RL 44 yX4_init ∈ G := mG (tb4 (List.mem_of_getElem? (i := 86) rfl)) rfl
theorem im_X4_init : Cond.instanceMethod yX4_init ∈ G := mG (tb4 (List.mem_of_getElem? (i := 87) rfl)) rfl
theorem co_X4_init : Cond.code yX4_init cX4_init 1 none ∈ G := mG (tb4 (List.mem_of_getElem? (i := 88) rfl)) rfl
theorem ml_X4_1 : Cond.methodLink RX4 1 objectInit ∈ G := mG (tb4 (List.mem_of_getElem? (i := 89) rfl)) rfl
theorem fl_X4_69 : Cond.fieldLink RX4 69 "CallShaperModel" "thrown" "I" ∈ G := mG (tb4 (List.mem_of_getElem? (i := 90) rfl)) rfl
theorem fl_X4_7 : Cond.fieldLink RX4 7 "CallShaperModel" "types" "I" ∈ G := mG (tb4 (List.mem_of_getElem? (i := 91) rfl)) rfl
theorem fl_X4_13 : Cond.fieldLink RX4 13 "CallShaperModel" "parent" "[I" ∈ G := mG (tb4 (List.mem_of_getElem? (i := 92) rfl)) rfl
theorem fl_X4_17 : Cond.fieldLink RX4 17 "CallShaperModel" "many" "[I" ∈ G := mG (tb4 (List.mem_of_getElem? (i := 93) rfl)) rfl
theorem fl_X4_20 : Cond.fieldLink RX4 20 "CallShaperModel" "code" "[I" ∈ G := mG (tb4 (List.mem_of_getElem? (i := 94) rfl)) rfl
theorem fl_X4_23 : Cond.fieldLink RX4 23 "CallShaperModel" "made" "[Z" ∈ G := mG (tb4 (List.mem_of_getElem? (i := 95) rfl)) rfl
theorem fl_X4_27 : Cond.fieldLink RX4 27 "CallShaperModel" "reached" "[Z" ∈ G := mG (tb4 (List.mem_of_getElem? (i := 96) rfl)) rfl
theorem fl_X4_30 : Cond.fieldLink RX4 30 "CallShaperModel" "changed" "[Z" ∈ G := mG (tb4 (List.mem_of_getElem? (i := 97) rfl)) rfl
theorem fl_X4_33 : Cond.fieldLink RX4 33 "CallShaperModel" "sites" "[I" ∈ G := mG (tb4 (List.mem_of_getElem? (i := 98) rfl)) rfl
theorem fl_X4_36 : Cond.fieldLink RX4 36 "CallShaperModel" "holder" "[Z" ∈ G := mG (tb4 (List.mem_of_getElem? (i := 99) rfl)) rfl
theorem fl_X4_122 : Cond.fieldLink RX4 122 "CallShaperModel" "objects" "I" ∈ G := mG (tb4 (List.mem_of_getElem? (i := 100) rfl)) rfl
theorem fl_X4_119 : Cond.fieldLink RX4 119 "CallShaperModel" "room" "I" ∈ G := mG (tb4 (List.mem_of_getElem? (i := 101) rfl)) rfl
theorem fl_X4_39 : Cond.fieldLink RX4 39 "CallShaperModel" "classOf" "[I" ∈ G := mG (tb4 (List.mem_of_getElem? (i := 102) rfl)) rfl
theorem fl_X4_42 : Cond.fieldLink RX4 42 "CallShaperModel" "fieldIs" "[Z" ∈ G := mG (tb4 (List.mem_of_getElem? (i := 103) rfl)) rfl
theorem fl_X4_45 : Cond.fieldLink RX4 45 "CallShaperModel" "field" "[I" ∈ G := mG (tb4 (List.mem_of_getElem? (i := 104) rfl)) rfl
theorem fl_X4_125 : Cond.fieldLink RX4 125 "CallShaperModel" "frames" "I" ∈ G := mG (tb4 (List.mem_of_getElem? (i := 105) rfl)) rfl
theorem fl_X4_48 : Cond.fieldLink RX4 48 "CallShaperModel" "body" "[I" ∈ G := mG (tb4 (List.mem_of_getElem? (i := 106) rfl)) rfl
theorem fl_X4_51 : Cond.fieldLink RX4 51 "CallShaperModel" "place" "[I" ∈ G := mG (tb4 (List.mem_of_getElem? (i := 107) rfl)) rfl
theorem fl_X4_54 : Cond.fieldLink RX4 54 "CallShaperModel" "wants" "[I" ∈ G := mG (tb4 (List.mem_of_getElem? (i := 108) rfl)) rfl
theorem fl_X4_57 : Cond.fieldLink RX4 57 "CallShaperModel" "is" "[Z" ∈ G := mG (tb4 (List.mem_of_getElem? (i := 109) rfl)) rfl
theorem fl_X4_60 : Cond.fieldLink RX4 60 "CallShaperModel" "value" "[I" ∈ G := mG (tb4 (List.mem_of_getElem? (i := 110) rfl)) rfl
theorem fl_X4_63 : Cond.fieldLink RX4 63 "CallShaperModel" "outs" "[I" ∈ G := mG (tb4 (List.mem_of_getElem? (i := 111) rfl)) rfl
theorem fl_X4_66 : Cond.fieldLink RX4 66 "CallShaperModel" "counts" "[I" ∈ G := mG (tb4 (List.mem_of_getElem? (i := 112) rfl)) rfl
theorem ar_boolean : Cond.arrayClass .boolean ∈ G := mG (tb4 (List.mem_of_getElem? (i := 160) rfl)) rfl
theorem ml_L_51 : Cond.methodLink RL 51 yX4_thrown ∈ G := mG (tb4 (List.mem_of_getElem? (i := 161) rfl)) rfl
theorem im_X4_thrown : Cond.instanceMethod yX4_thrown ∈ G := mG (tb4 (List.mem_of_getElem? (i := 162) rfl)) rfl
theorem se_X4_thrown : Cond.selects RX4 yX4_thrown yX4_thrown ∈ G := mG (tb4 (List.mem_of_getElem? (i := 163) rfl)) rfl
theorem co_X4_thrown : Cond.code yX4_thrown cX4_thrown 1 (some .int) ∈ G := mG (tb4 (List.mem_of_getElem? (i := 164) rfl)) rfl
theorem ml_L_50 : Cond.methodLink RL 50 yX4_type ∈ G := mG (tb4 (List.mem_of_getElem? (i := 165) rfl)) rfl
theorem im_X4_type : Cond.instanceMethod yX4_type ∈ G := mG (tb4 (List.mem_of_getElem? (i := 166) rfl)) rfl
theorem se_X4_type : Cond.selects RX4 yX4_type yX4_type ∈ G := mG (tb4 (List.mem_of_getElem? (i := 167) rfl)) rfl
theorem co_X4_type : Cond.code yX4_type cX4_type 2 (some .int) ∈ G := mG (tb4 (List.mem_of_getElem? (i := 168) rfl)) rfl
theorem ml_X4_72 : Cond.methodLink RX4 72 yX4_outside ∈ G := mG (tb4 (List.mem_of_getElem? (i := 169) rfl)) rfl
theorem st_X4_outside : Cond.static yX4_outside ∈ G := mG (tb4 (List.mem_of_getElem? (i := 170) rfl)) rfl
theorem co_X4_outside : Cond.code yX4_outside cX4_outside 3 (some .boolean) ∈ G := mG (tb4 (List.mem_of_getElem? (i := 171) rfl)) rfl
theorem ml_X4_76 : Cond.methodLink RX4 76 yX4_fails ∈ G := mG (tb4 (List.mem_of_getElem? (i := 172) rfl)) rfl
theorem im_X4_fails : Cond.instanceMethod yX4_fails ∈ G := mG (tb4 (List.mem_of_getElem? (i := 174) rfl)) rfl
theorem co_X4_fails : Cond.code yX4_fails cX4_fails 3 (some .boolean) ∈ G := mG (tb4 (List.mem_of_getElem? (i := 175) rfl)) rfl
theorem ml_L_58 : Cond.methodLink RL 58 yX4_operation ∈ G := mG (tb4 (List.mem_of_getElem? (i := 176) rfl)) rfl
theorem im_X4_operation : Cond.instanceMethod yX4_operation ∈ G := mG (tb4 (List.mem_of_getElem? (i := 177) rfl)) rfl
theorem se_X4_operation : Cond.selects RX4 yX4_operation yX4_operation ∈ G := mG (tb4 (List.mem_of_getElem? (i := 178) rfl)) rfl
theorem co_X4_operation : Cond.code yX4_operation cX4_operation 10 (some .int) ∈ G := mG (tb4 (List.mem_of_getElem? (i := 179) rfl)) rfl
theorem ml_X4_87 : Cond.methodLink RX4 87 yX4_isBody ∈ G := mG (tb4 (List.mem_of_getElem? (i := 180) rfl)) rfl
theorem im_X4_isBody : Cond.instanceMethod yX4_isBody ∈ G := mG (tb4 (List.mem_of_getElem? (i := 182) rfl)) rfl
theorem co_X4_isBody : Cond.code yX4_isBody cX4_isBody 3 (some .boolean) ∈ G := mG (tb4 (List.mem_of_getElem? (i := 183) rfl)) rfl
theorem ml_X4_91 : Cond.methodLink RX4 91 yX4_isGood ∈ G := mG (tb4 (List.mem_of_getElem? (i := 184) rfl)) rfl
theorem st_X4_isGood : Cond.static yX4_isGood ∈ G := mG (tb4 (List.mem_of_getElem? (i := 185) rfl)) rfl
theorem co_X4_isGood : Cond.code yX4_isGood cX4_isGood 4 (some .boolean) ∈ G := mG (tb4 (List.mem_of_getElem? (i := 186) rfl)) rfl
theorem ml_X4_80 : Cond.methodLink RX4 80 yX4_isRegister ∈ G := mG (tb4 (List.mem_of_getElem? (i := 187) rfl)) rfl
theorem st_X4_isRegister : Cond.static yX4_isRegister ∈ G := mG (tb4 (List.mem_of_getElem? (i := 188) rfl)) rfl
theorem co_X4_isRegister : Cond.code yX4_isRegister cX4_isRegister 1 (some .boolean) ∈ G := mG (tb4 (List.mem_of_getElem? (i := 189) rfl)) rfl
theorem ml_X4_84 : Cond.methodLink RX4 84 yX4_isField ∈ G := mG (tb4 (List.mem_of_getElem? (i := 190) rfl)) rfl
theorem st_X4_isField : Cond.static yX4_isField ∈ G := mG (tb4 (List.mem_of_getElem? (i := 191) rfl)) rfl
theorem co_X4_isField : Cond.code yX4_isField cX4_isField 1 (some .boolean) ∈ G := mG (tb4 (List.mem_of_getElem? (i := 192) rfl)) rfl
theorem ml_L_62 : Cond.methodLink RL 62 yX4_strip ∈ G := mG (tb4 (List.mem_of_getElem? (i := 193) rfl)) rfl
theorem im_X4_strip : Cond.instanceMethod yX4_strip ∈ G := mG (tb4 (List.mem_of_getElem? (i := 194) rfl)) rfl
theorem se_X4_strip : Cond.selects RX4 yX4_strip yX4_strip ∈ G := mG (tb4 (List.mem_of_getElem? (i := 195) rfl)) rfl
theorem co_X4_strip : Cond.code yX4_strip cX4_strip 5 (some .int) ∈ G := mG (tb4 (List.mem_of_getElem? (i := 196) rfl)) rfl
theorem ml_L_66 : Cond.methodLink RL 66 yX4_shape ∈ G := mG (tb4 (List.mem_of_getElem? (i := 197) rfl)) rfl
theorem im_X4_shape : Cond.instanceMethod yX4_shape ∈ G := mG (tb4 (List.mem_of_getElem? (i := 198) rfl)) rfl
theorem se_X4_shape : Cond.selects RX4 yX4_shape yX4_shape ∈ G := mG (tb4 (List.mem_of_getElem? (i := 199) rfl)) rfl
theorem co_X4_shape : Cond.code yX4_shape cX4_shape 7 (some .int) ∈ G := mG (tb4 (List.mem_of_getElem? (i := 200) rfl)) rfl
theorem ml_X4_95 : Cond.methodLink RX4 95 yX4_target ∈ G := mG (tb4 (List.mem_of_getElem? (i := 201) rfl)) rfl
theorem im_X4_target : Cond.instanceMethod yX4_target ∈ G := mG (tb4 (List.mem_of_getElem? (i := 203) rfl)) rfl
theorem co_X4_target : Cond.code yX4_target cX4_target 4 (some .int) ∈ G := mG (tb4 (List.mem_of_getElem? (i := 204) rfl)) rfl
theorem ml_X4_106 : Cond.methodLink RX4 106 yX4_grows ∈ G := mG (tb4 (List.mem_of_getElem? (i := 205) rfl)) rfl
theorem im_X4_grows : Cond.instanceMethod yX4_grows ∈ G := mG (tb4 (List.mem_of_getElem? (i := 207) rfl)) rfl
theorem co_X4_grows : Cond.code yX4_grows cX4_grows 4 (some .boolean) ∈ G := mG (tb4 (List.mem_of_getElem? (i := 208) rfl)) rfl
theorem ml_X4_99 : Cond.methodLink RX4 99 yX4_at ∈ G := mG (tb4 (List.mem_of_getElem? (i := 209) rfl)) rfl
theorem im_X4_at : Cond.instanceMethod yX4_at ∈ G := mG (tb4 (List.mem_of_getElem? (i := 211) rfl)) rfl
theorem co_X4_at : Cond.code yX4_at cX4_at 4 (some .int) ∈ G := mG (tb4 (List.mem_of_getElem? (i := 212) rfl)) rfl
theorem ml_X4_103 : Cond.methodLink RX4 103 yX4_reachAll ∈ G := mG (tb4 (List.mem_of_getElem? (i := 213) rfl)) rfl
theorem im_X4_reachAll : Cond.instanceMethod yX4_reachAll ∈ G := mG (tb4 (List.mem_of_getElem? (i := 215) rfl)) rfl
theorem co_X4_reachAll : Cond.code yX4_reachAll cX4_reachAll 5 (some .boolean) ∈ G := mG (tb4 (List.mem_of_getElem? (i := 216) rfl)) rfl
theorem ml_X4_109 : Cond.methodLink RX4 109 yX4_call ∈ G := mG (tb4 (List.mem_of_getElem? (i := 217) rfl)) rfl
theorem im_X4_call : Cond.instanceMethod yX4_call ∈ G := mG (tb4 (List.mem_of_getElem? (i := 219) rfl)) rfl
theorem co_X4_call : Cond.code yX4_call cX4_call 6 (some .int) ∈ G := mG (tb4 (List.mem_of_getElem? (i := 220) rfl)) rfl
theorem ml_X4_113 : Cond.methodLink RX4 113 yX4_stays ∈ G := mG (tb4 (List.mem_of_getElem? (i := 221) rfl)) rfl
theorem im_X4_stays : Cond.instanceMethod yX4_stays ∈ G := mG (tb4 (List.mem_of_getElem? (i := 223) rfl)) rfl
theorem co_X4_stays : Cond.code yX4_stays cX4_stays 6 (some .boolean) ∈ G := mG (tb4 (List.mem_of_getElem? (i := 224) rfl)) rfl
theorem ml_L_70 : Cond.methodLink RL 70 yX4_reach ∈ G := mG (tb4 (List.mem_of_getElem? (i := 225) rfl)) rfl
theorem im_X4_reach : Cond.instanceMethod yX4_reach ∈ G := mG (tb4 (List.mem_of_getElem? (i := 226) rfl)) rfl
theorem se_X4_reach : Cond.selects RX4 yX4_reach yX4_reach ∈ G := mG (tb4 (List.mem_of_getElem? (i := 227) rfl)) rfl
theorem co_X4_reach : Cond.code yX4_reach cX4_reach 3 (some .int) ∈ G := mG (tb4 (List.mem_of_getElem? (i := 228) rfl)) rfl
theorem ml_L_74 : Cond.methodLink RL 74 yX4_site ∈ G := mG (tb4 (List.mem_of_getElem? (i := 229) rfl)) rfl
theorem im_X4_site : Cond.instanceMethod yX4_site ∈ G := mG (tb4 (List.mem_of_getElem? (i := 230) rfl)) rfl
theorem se_X4_site : Cond.selects RX4 yX4_site yX4_site ∈ G := mG (tb4 (List.mem_of_getElem? (i := 231) rfl)) rfl
theorem co_X4_site : Cond.code yX4_site cX4_site 5 (some .int) ∈ G := mG (tb4 (List.mem_of_getElem? (i := 232) rfl)) rfl
theorem ml_X4_116 : Cond.methodLink RX4 116 yX4_siteOf ∈ G := mG (tb4 (List.mem_of_getElem? (i := 233) rfl)) rfl
theorem im_X4_siteOf : Cond.instanceMethod yX4_siteOf ∈ G := mG (tb4 (List.mem_of_getElem? (i := 235) rfl)) rfl
theorem co_X4_siteOf : Cond.code yX4_siteOf cX4_siteOf 3 (some .int) ∈ G := mG (tb4 (List.mem_of_getElem? (i := 236) rfl)) rfl
theorem ml_L_78 : Cond.methodLink RL 78 yX4_run ∈ G := mG (tb4 (List.mem_of_getElem? (i := 237) rfl)) rfl
theorem im_X4_run : Cond.instanceMethod yX4_run ∈ G := mG (tb4 (List.mem_of_getElem? (i := 238) rfl)) rfl
theorem se_X4_run : Cond.selects RX4 yX4_run yX4_run ∈ G := mG (tb4 (List.mem_of_getElem? (i := 239) rfl)) rfl
theorem co_X4_run : Cond.code yX4_run cX4_run 5 (some .int) ∈ G := mG (tb5 (List.mem_of_getElem? (i := 0) rfl)) rfl
theorem ml_X4_136 : Cond.methodLink RX4 136 yX4_makes ∈ G := mG (tb5 (List.mem_of_getElem? (i := 1) rfl)) rfl
theorem im_X4_makes : Cond.instanceMethod yX4_makes ∈ G := mG (tb5 (List.mem_of_getElem? (i := 3) rfl)) rfl
theorem co_X4_makes : Cond.code yX4_makes cX4_makes 4 (some .int) ∈ G := mG (tb5 (List.mem_of_getElem? (i := 4) rfl)) rfl
theorem ml_X4_132 : Cond.methodLink RX4 132 yX4_enters ∈ G := mG (tb5 (List.mem_of_getElem? (i := 5) rfl)) rfl
theorem im_X4_enters : Cond.instanceMethod yX4_enters ∈ G := mG (tb5 (List.mem_of_getElem? (i := 7) rfl)) rfl
theorem co_X4_enters : Cond.code yX4_enters cX4_enters 8 none ∈ G := mG (tb5 (List.mem_of_getElem? (i := 8) rfl)) rfl
theorem ml_X4_157 : Cond.methodLink RX4 157 yX4_answers ∈ G := mG (tb5 (List.mem_of_getElem? (i := 9) rfl)) rfl
theorem im_X4_answers : Cond.instanceMethod yX4_answers ∈ G := mG (tb5 (List.mem_of_getElem? (i := 11) rfl)) rfl
theorem co_X4_answers : Cond.code yX4_answers cX4_answers 3 none ∈ G := mG (tb5 (List.mem_of_getElem? (i := 12) rfl)) rfl
theorem ml_X4_128 : Cond.methodLink RX4 128 yX4_set ∈ G := mG (tb5 (List.mem_of_getElem? (i := 13) rfl)) rfl
theorem im_X4_set : Cond.instanceMethod yX4_set ∈ G := mG (tb5 (List.mem_of_getElem? (i := 15) rfl)) rfl
theorem co_X4_set : Cond.code yX4_set cX4_set 4 none ∈ G := mG (tb5 (List.mem_of_getElem? (i := 16) rfl)) rfl
theorem ml_X4_161 : Cond.methodLink RX4 161 yX4_does ∈ G := mG (tb5 (List.mem_of_getElem? (i := 17) rfl)) rfl
theorem im_X4_does : Cond.instanceMethod yX4_does ∈ G := mG (tb5 (List.mem_of_getElem? (i := 19) rfl)) rfl
theorem co_X4_does : Cond.code yX4_does cX4_does 10 (some .int) ∈ G := mG (tb5 (List.mem_of_getElem? (i := 20) rfl)) rfl
theorem ml_X4_140 : Cond.methodLink RX4 140 yX4_sums ∈ G := mG (tb5 (List.mem_of_getElem? (i := 21) rfl)) rfl
theorem im_X4_sums : Cond.instanceMethod yX4_sums ∈ G := mG (tb5 (List.mem_of_getElem? (i := 23) rfl)) rfl
theorem co_X4_sums : Cond.code yX4_sums cX4_sums 8 (some .int) ∈ G := mG (tb5 (List.mem_of_getElem? (i := 24) rfl)) rfl
theorem ml_X4_144 : Cond.methodLink RX4 144 yX4_news ∈ G := mG (tb5 (List.mem_of_getElem? (i := 25) rfl)) rfl
theorem im_X4_news : Cond.instanceMethod yX4_news ∈ G := mG (tb5 (List.mem_of_getElem? (i := 27) rfl)) rfl
theorem co_X4_news : Cond.code yX4_news cX4_news 5 (some .int) ∈ G := mG (tb5 (List.mem_of_getElem? (i := 28) rfl)) rfl
theorem ml_X4_147 : Cond.methodLink RX4 147 yX4_calls ∈ G := mG (tb5 (List.mem_of_getElem? (i := 29) rfl)) rfl
theorem im_X4_calls : Cond.instanceMethod yX4_calls ∈ G := mG (tb5 (List.mem_of_getElem? (i := 31) rfl)) rfl
theorem co_X4_calls : Cond.code yX4_calls cX4_calls 7 (some .int) ∈ G := mG (tb5 (List.mem_of_getElem? (i := 32) rfl)) rfl
theorem ml_X4_151 : Cond.methodLink RX4 151 yX4_puts ∈ G := mG (tb5 (List.mem_of_getElem? (i := 33) rfl)) rfl
theorem im_X4_puts : Cond.instanceMethod yX4_puts ∈ G := mG (tb5 (List.mem_of_getElem? (i := 35) rfl)) rfl
theorem co_X4_puts : Cond.code yX4_puts cX4_puts 2 (some .int) ∈ G := mG (tb5 (List.mem_of_getElem? (i := 36) rfl)) rfl
theorem ml_X4_154 : Cond.methodLink RX4 154 yX4_isAnother ∈ G := mG (tb5 (List.mem_of_getElem? (i := 37) rfl)) rfl
theorem im_X4_isAnother : Cond.instanceMethod yX4_isAnother ∈ G := mG (tb5 (List.mem_of_getElem? (i := 39) rfl)) rfl
theorem co_X4_isAnother : Cond.code yX4_isAnother cX4_isAnother 4 (some .boolean) ∈ G := mG (tb5 (List.mem_of_getElem? (i := 40) rfl)) rfl
theorem ml_L_81 : Cond.methodLink RL 81 yX4_count ∈ G := mG (tb5 (List.mem_of_getElem? (i := 41) rfl)) rfl
theorem im_X4_count : Cond.instanceMethod yX4_count ∈ G := mG (tb5 (List.mem_of_getElem? (i := 42) rfl)) rfl
theorem se_X4_count : Cond.selects RX4 yX4_count yX4_count ∈ G := mG (tb5 (List.mem_of_getElem? (i := 43) rfl)) rfl
theorem co_X4_count : Cond.code yX4_count cX4_count 2 (some .int) ∈ G := mG (tb5 (List.mem_of_getElem? (i := 44) rfl)) rfl
theorem ml_L_84 : Cond.methodLink RL 84 yX4_out ∈ G := mG (tb5 (List.mem_of_getElem? (i := 45) rfl)) rfl
theorem im_X4_out : Cond.instanceMethod yX4_out ∈ G := mG (tb5 (List.mem_of_getElem? (i := 46) rfl)) rfl
theorem se_X4_out : Cond.selects RX4 yX4_out yX4_out ∈ G := mG (tb5 (List.mem_of_getElem? (i := 47) rfl)) rfl
theorem co_X4_out : Cond.code yX4_out cX4_out 2 (some .int) ∈ G := mG (tb5 (List.mem_of_getElem? (i := 48) rfl)) rfl
theorem se_X2_findReached : Cond.selects RX2 yX2_findReached yX2_findReached ∈ G := mG (tbs (pv1 (List.mem_of_getElem? (i := 0) rfl))) rfl
theorem se_X2_targetSet : Cond.selects RX2 yX2_targetSet yX2_targetSet ∈ G := mG (tbs (pv1 (List.mem_of_getElem? (i := 1) rfl))) rfl
theorem se_X2_readBodies : Cond.selects RX2 yX2_readBodies yX2_readBodies ∈ G := mG (tbs (pv1 (List.mem_of_getElem? (i := 2) rfl))) rfl
theorem se_X2_readBody : Cond.selects RX2 yX2_readBody yX2_readBody ∈ G := mG (tbs (pv1 (List.mem_of_getElem? (i := 3) rfl))) rfl
theorem se_X2_reachTargets : Cond.selects RX2 yX2_reachTargets yX2_reachTargets ∈ G := mG (tbs (pv1 (List.mem_of_getElem? (i := 4) rfl))) rfl
theorem se_X2_verdictOfCalls : Cond.selects RX2 yX2_verdictOfCalls yX2_verdictOfCalls ∈ G := mG (tbs (pv1 (List.mem_of_getElem? (i := 5) rfl))) rfl
theorem se_X2_judge : Cond.selects RX2 yX2_judge yX2_judge ∈ G := mG (tbs (pv1 (List.mem_of_getElem? (i := 6) rfl))) rfl
theorem se_X2_waysOut : Cond.selects RX2 yX2_waysOut yX2_waysOut ∈ G := mG (tbs (pv1 (List.mem_of_getElem? (i := 7) rfl))) rfl
theorem se_X2_holders : Cond.selects RX2 yX2_holders yX2_holders ∈ G := mG (tbs (pv1 (List.mem_of_getElem? (i := 8) rfl))) rfl
theorem se_X0_begin : Cond.selects RX0 yX0_begin yX0_begin ∈ G := mG (tbs (pv1 (List.mem_of_getElem? (i := 10) rfl))) rfl
theorem se_X0_newObject : Cond.selects RX0 yX0_newObject yX0_newObject ∈ G := mG (tbs (pv1 (List.mem_of_getElem? (i := 11) rfl))) rfl
theorem se_X0_enter : Cond.selects RX0 yX0_enter yX0_enter ∈ G := mG (tbs (pv1 (List.mem_of_getElem? (i := 12) rfl))) rfl
theorem se_X0_isGoing : Cond.selects RX0 yX0_isGoing yX0_isGoing ∈ G := mG (tbs (pv1 (List.mem_of_getElem? (i := 13) rfl))) rfl
theorem se_X0_step : Cond.selects RX0 yX0_step yX0_step ∈ G := mG (tbs (pv1 (List.mem_of_getElem? (i := 14) rfl))) rfl
theorem se_X0_perform : Cond.selects RX0 yX0_perform yX0_perform ∈ G := mG (tbs (pv1 (List.mem_of_getElem? (i := 15) rfl))) rfl
theorem se_X0_reckon : Cond.selects RX0 yX0_reckon yX0_reckon ∈ G := mG (tbs (pv2 (List.mem_of_getElem? (i := 0) rfl))) rfl
theorem se_X0_make : Cond.selects RX0 yX0_make yX0_make ∈ G := mG (tbs (pv2 (List.mem_of_getElem? (i := 1) rfl))) rfl
theorem se_X0_readField : Cond.selects RX0 yX0_readField yX0_readField ∈ G := mG (tbs (pv2 (List.mem_of_getElem? (i := 2) rfl))) rfl
theorem se_X0_writeField : Cond.selects RX0 yX0_writeField yX0_writeField ∈ G := mG (tbs (pv2 (List.mem_of_getElem? (i := 3) rfl))) rfl
theorem se_X0_send : Cond.selects RX0 yX0_send yX0_send ∈ G := mG (tbs (pv2 (List.mem_of_getElem? (i := 4) rfl))) rfl
theorem se_X0_countCall : Cond.selects RX0 yX0_countCall yX0_countCall ∈ G := mG (tbs (pv2 (List.mem_of_getElem? (i := 5) rfl))) rfl
theorem se_X0_print : Cond.selects RX0 yX0_print yX0_print ∈ G := mG (tbs (pv2 (List.mem_of_getElem? (i := 6) rfl))) rfl
theorem se_X0_checkClass : Cond.selects RX0 yX0_checkClass yX0_checkClass ∈ G := mG (tbs (pv2 (List.mem_of_getElem? (i := 7) rfl))) rfl
theorem se_X0_answer : Cond.selects RX0 yX0_answer yX0_answer ∈ G := mG (tbs (pv2 (List.mem_of_getElem? (i := 8) rfl))) rfl
theorem se_X0_leaveEndedFrames : Cond.selects RX0 yX0_leaveEndedFrames yX0_leaveEndedFrames ∈ G := mG (tbs (pv2 (List.mem_of_getElem? (i := 9) rfl))) rfl
theorem se_X0_isBehindLast : Cond.selects RX0 yX0_isBehindLast yX0_isBehindLast ∈ G := mG (tbs (pv2 (List.mem_of_getElem? (i := 10) rfl))) rfl
theorem se_X4_fails : Cond.selects RX4 yX4_fails yX4_fails ∈ G := mG (tbs (pv2 (List.mem_of_getElem? (i := 11) rfl))) rfl
theorem se_X4_isBody : Cond.selects RX4 yX4_isBody yX4_isBody ∈ G := mG (tbs (pv2 (List.mem_of_getElem? (i := 12) rfl))) rfl
theorem se_X4_target : Cond.selects RX4 yX4_target yX4_target ∈ G := mG (tbs (pv2 (List.mem_of_getElem? (i := 13) rfl))) rfl
theorem se_X4_grows : Cond.selects RX4 yX4_grows yX4_grows ∈ G := mG (tbs (pv2 (List.mem_of_getElem? (i := 14) rfl))) rfl
theorem se_X4_at : Cond.selects RX4 yX4_at yX4_at ∈ G := mG (tbs (pv2 (List.mem_of_getElem? (i := 15) rfl))) rfl
theorem se_X4_reachAll : Cond.selects RX4 yX4_reachAll yX4_reachAll ∈ G := mG (tbs (pv3 (List.mem_of_getElem? (i := 0) rfl))) rfl
theorem se_X4_call : Cond.selects RX4 yX4_call yX4_call ∈ G := mG (tbs (pv3 (List.mem_of_getElem? (i := 1) rfl))) rfl
theorem se_X4_stays : Cond.selects RX4 yX4_stays yX4_stays ∈ G := mG (tbs (pv3 (List.mem_of_getElem? (i := 2) rfl))) rfl
theorem se_X4_siteOf : Cond.selects RX4 yX4_siteOf yX4_siteOf ∈ G := mG (tbs (pv3 (List.mem_of_getElem? (i := 3) rfl))) rfl
theorem se_X4_makes : Cond.selects RX4 yX4_makes yX4_makes ∈ G := mG (tbs (pv3 (List.mem_of_getElem? (i := 4) rfl))) rfl
theorem se_X4_enters : Cond.selects RX4 yX4_enters yX4_enters ∈ G := mG (tbs (pv3 (List.mem_of_getElem? (i := 5) rfl))) rfl
theorem se_X4_answers : Cond.selects RX4 yX4_answers yX4_answers ∈ G := mG (tbs (pv3 (List.mem_of_getElem? (i := 6) rfl))) rfl
theorem se_X4_set : Cond.selects RX4 yX4_set yX4_set ∈ G := mG (tbs (pv3 (List.mem_of_getElem? (i := 7) rfl))) rfl
theorem se_X4_does : Cond.selects RX4 yX4_does yX4_does ∈ G := mG (tbs (pv3 (List.mem_of_getElem? (i := 8) rfl))) rfl
theorem se_X4_sums : Cond.selects RX4 yX4_sums yX4_sums ∈ G := mG (tbs (pv3 (List.mem_of_getElem? (i := 9) rfl))) rfl
theorem se_X4_news : Cond.selects RX4 yX4_news yX4_news ∈ G := mG (tbs (pv3 (List.mem_of_getElem? (i := 10) rfl))) rfl
theorem se_X4_calls : Cond.selects RX4 yX4_calls yX4_calls ∈ G := mG (tbs (pv3 (List.mem_of_getElem? (i := 11) rfl))) rfl
theorem se_X4_puts : Cond.selects RX4 yX4_puts yX4_puts ∈ G := mG (tbs (pv3 (List.mem_of_getElem? (i := 12) rfl))) rfl
theorem se_X4_isAnother : Cond.selects RX4 yX4_isAnother yX4_isAnother ∈ G := mG (tbs (pv3 (List.mem_of_getElem? (i := 13) rfl))) rfl
theorem inG_X0 : ∀ w ∈ u_ws RX0 TX0 15, w ∈ G := by
  show ∀ w ∈ [u_lay RX0 TX0 0, u_lay RX0 TX0 1, u_lay RX0 TX0 2, u_lay RX0 TX0 3, u_lay RX0 TX0 4, u_lay RX0 TX0 5, u_lay RX0 TX0 6, u_lay RX0 TX0 7, u_lay RX0 TX0 8, u_lay RX0 TX0 9, u_lay RX0 TX0 10, u_lay RX0 TX0 11, u_lay RX0 TX0 12, u_lay RX0 TX0 13, u_lay RX0 TX0 14], w ∈ G
  exact List.forall_mem_cons.mpr ⟨mG (tb1 (List.mem_of_getElem? (i := 109) rfl)) rfl, List.forall_mem_cons.mpr ⟨mG (tb1 (List.mem_of_getElem? (i := 111) rfl)) rfl, List.forall_mem_cons.mpr ⟨mG (tb1 (List.mem_of_getElem? (i := 113) rfl)) rfl, List.forall_mem_cons.mpr ⟨mG (tb1 (List.mem_of_getElem? (i := 115) rfl)) rfl, List.forall_mem_cons.mpr ⟨mG (tb1 (List.mem_of_getElem? (i := 117) rfl)) rfl, List.forall_mem_cons.mpr ⟨mG (tb1 (List.mem_of_getElem? (i := 119) rfl)) rfl, List.forall_mem_cons.mpr ⟨mG (tb1 (List.mem_of_getElem? (i := 121) rfl)) rfl, List.forall_mem_cons.mpr ⟨mG (tb1 (List.mem_of_getElem? (i := 123) rfl)) rfl, List.forall_mem_cons.mpr ⟨mG (tb1 (List.mem_of_getElem? (i := 125) rfl)) rfl, List.forall_mem_cons.mpr ⟨mG (tb1 (List.mem_of_getElem? (i := 127) rfl)) rfl, List.forall_mem_cons.mpr ⟨mG (tb1 (List.mem_of_getElem? (i := 129) rfl)) rfl, List.forall_mem_cons.mpr ⟨mG (tb1 (List.mem_of_getElem? (i := 131) rfl)) rfl, List.forall_mem_cons.mpr ⟨mG (tb1 (List.mem_of_getElem? (i := 133) rfl)) rfl, List.forall_mem_cons.mpr ⟨mG (tb1 (List.mem_of_getElem? (i := 135) rfl)) rfl, List.forall_mem_cons.mpr ⟨mG (tb1 (List.mem_of_getElem? (i := 137) rfl)) rfl, fun _ h => absurd h List.not_mem_nil⟩⟩⟩⟩⟩⟩⟩⟩⟩⟩⟩⟩⟩⟩⟩
theorem inG_X1 : ∀ w ∈ u_ws RX1 TX1 7, w ∈ G := by
  show ∀ w ∈ [u_lay RX1 TX1 0, u_lay RX1 TX1 1, u_lay RX1 TX1 2, u_lay RX1 TX1 3, u_lay RX1 TX1 4, u_lay RX1 TX1 5, u_lay RX1 TX1 6], w ∈ G
  exact List.forall_mem_cons.mpr ⟨mG (tb1 (List.mem_of_getElem? (i := 47) rfl)) rfl, List.forall_mem_cons.mpr ⟨mG (tb1 (List.mem_of_getElem? (i := 49) rfl)) rfl, List.forall_mem_cons.mpr ⟨mG (tb1 (List.mem_of_getElem? (i := 51) rfl)) rfl, List.forall_mem_cons.mpr ⟨mG (tb1 (List.mem_of_getElem? (i := 53) rfl)) rfl, List.forall_mem_cons.mpr ⟨mG (tb1 (List.mem_of_getElem? (i := 55) rfl)) rfl, List.forall_mem_cons.mpr ⟨mG (tb1 (List.mem_of_getElem? (i := 57) rfl)) rfl, List.forall_mem_cons.mpr ⟨mG (tb1 (List.mem_of_getElem? (i := 59) rfl)) rfl, fun _ h => absurd h List.not_mem_nil⟩⟩⟩⟩⟩⟩⟩
theorem inG_X2 : ∀ w ∈ u_ws RX2 TX2 6, w ∈ G := by
  show ∀ w ∈ [u_lay RX2 TX2 0, u_lay RX2 TX2 1, u_lay RX2 TX2 2, u_lay RX2 TX2 3, u_lay RX2 TX2 4, u_lay RX2 TX2 5], w ∈ G
  exact List.forall_mem_cons.mpr ⟨mG (tb1 (List.mem_of_getElem? (i := 75) rfl)) rfl, List.forall_mem_cons.mpr ⟨mG (tb1 (List.mem_of_getElem? (i := 77) rfl)) rfl, List.forall_mem_cons.mpr ⟨mG (tb1 (List.mem_of_getElem? (i := 79) rfl)) rfl, List.forall_mem_cons.mpr ⟨mG (tb1 (List.mem_of_getElem? (i := 81) rfl)) rfl, List.forall_mem_cons.mpr ⟨mG (tb1 (List.mem_of_getElem? (i := 83) rfl)) rfl, List.forall_mem_cons.mpr ⟨mG (tb1 (List.mem_of_getElem? (i := 85) rfl)) rfl, fun _ h => absurd h List.not_mem_nil⟩⟩⟩⟩⟩⟩
theorem inG_X3 : ∀ w ∈ u_ws RX3 TX3 3, w ∈ G := by
  show ∀ w ∈ [u_lay RX3 TX3 0, u_lay RX3 TX3 1, u_lay RX3 TX3 2], w ∈ G
  exact List.forall_mem_cons.mpr ⟨mG (tb1 (List.mem_of_getElem? (i := 144) rfl)) rfl, List.forall_mem_cons.mpr ⟨mG (tb1 (List.mem_of_getElem? (i := 146) rfl)) rfl, List.forall_mem_cons.mpr ⟨mG (tb1 (List.mem_of_getElem? (i := 148) rfl)) rfl, fun _ h => absurd h List.not_mem_nil⟩⟩⟩
theorem inG_X4 : ∀ w ∈ u_ws RX4 TX4 23, w ∈ G := by
  show ∀ w ∈ [u_lay RX4 TX4 0, u_lay RX4 TX4 1, u_lay RX4 TX4 2, u_lay RX4 TX4 3, u_lay RX4 TX4 4, u_lay RX4 TX4 5, u_lay RX4 TX4 6, u_lay RX4 TX4 7, u_lay RX4 TX4 8, u_lay RX4 TX4 9, u_lay RX4 TX4 10, u_lay RX4 TX4 11, u_lay RX4 TX4 12, u_lay RX4 TX4 13, u_lay RX4 TX4 14, u_lay RX4 TX4 15, u_lay RX4 TX4 16, u_lay RX4 TX4 17, u_lay RX4 TX4 18, u_lay RX4 TX4 19, u_lay RX4 TX4 20, u_lay RX4 TX4 21, u_lay RX4 TX4 22], w ∈ G
  exact List.forall_mem_cons.mpr ⟨mG (tb4 (List.mem_of_getElem? (i := 113) rfl)) rfl, List.forall_mem_cons.mpr ⟨mG (tb4 (List.mem_of_getElem? (i := 115) rfl)) rfl, List.forall_mem_cons.mpr ⟨mG (tb4 (List.mem_of_getElem? (i := 117) rfl)) rfl, List.forall_mem_cons.mpr ⟨mG (tb4 (List.mem_of_getElem? (i := 119) rfl)) rfl, List.forall_mem_cons.mpr ⟨mG (tb4 (List.mem_of_getElem? (i := 121) rfl)) rfl, List.forall_mem_cons.mpr ⟨mG (tb4 (List.mem_of_getElem? (i := 123) rfl)) rfl, List.forall_mem_cons.mpr ⟨mG (tb4 (List.mem_of_getElem? (i := 125) rfl)) rfl, List.forall_mem_cons.mpr ⟨mG (tb4 (List.mem_of_getElem? (i := 127) rfl)) rfl, List.forall_mem_cons.mpr ⟨mG (tb4 (List.mem_of_getElem? (i := 129) rfl)) rfl, List.forall_mem_cons.mpr ⟨mG (tb4 (List.mem_of_getElem? (i := 131) rfl)) rfl, List.forall_mem_cons.mpr ⟨mG (tb4 (List.mem_of_getElem? (i := 133) rfl)) rfl, List.forall_mem_cons.mpr ⟨mG (tb4 (List.mem_of_getElem? (i := 135) rfl)) rfl, List.forall_mem_cons.mpr ⟨mG (tb4 (List.mem_of_getElem? (i := 137) rfl)) rfl, List.forall_mem_cons.mpr ⟨mG (tb4 (List.mem_of_getElem? (i := 139) rfl)) rfl, List.forall_mem_cons.mpr ⟨mG (tb4 (List.mem_of_getElem? (i := 141) rfl)) rfl, List.forall_mem_cons.mpr ⟨mG (tb4 (List.mem_of_getElem? (i := 143) rfl)) rfl, List.forall_mem_cons.mpr ⟨mG (tb4 (List.mem_of_getElem? (i := 145) rfl)) rfl, List.forall_mem_cons.mpr ⟨mG (tb4 (List.mem_of_getElem? (i := 147) rfl)) rfl, List.forall_mem_cons.mpr ⟨mG (tb4 (List.mem_of_getElem? (i := 149) rfl)) rfl, List.forall_mem_cons.mpr ⟨mG (tb4 (List.mem_of_getElem? (i := 151) rfl)) rfl, List.forall_mem_cons.mpr ⟨mG (tb4 (List.mem_of_getElem? (i := 153) rfl)) rfl, List.forall_mem_cons.mpr ⟨mG (tb4 (List.mem_of_getElem? (i := 155) rfl)) rfl, List.forall_mem_cons.mpr ⟨mG (tb4 (List.mem_of_getElem? (i := 157) rfl)) rfl, fun _ h => absurd h List.not_mem_nil⟩⟩⟩⟩⟩⟩⟩⟩⟩⟩⟩⟩⟩⟩⟩⟩⟩⟩⟩⟩⟩⟩⟩
