def wsL_law : List Cond := lw_tbl.filter goodWord
theorem wsL_law_in : ∀ w ∈ wsL_law, w ∈ lw_tbl := fun w h => (List.mem_filter.mp h).1
theorem good_law : ∀ w ∈ wsL_law, (w.onTables && w.keeps) = true ∨ ∃ ty, w = .arrayClass ty := fun w h => good_of_word (List.mem_filter.mp h).2
theorem mT1 : ∀ w ∈ tables_1_1, w ∈ lw_tbl := fun _ h => List.mem_append_right _ (List.mem_append_left _ h)
theorem mG1 {w : Cond} (h : w ∈ tables_1_1) (g : goodWord w = true) : w ∈ wsL_law := List.mem_filter.mpr ⟨mT1 w h, g⟩
theorem mT2 : ∀ w ∈ tables_1_2, w ∈ lw_tbl := fun _ h => List.mem_append_right _ (List.mem_append_right _ (List.mem_append_left _ h))
theorem mG2 {w : Cond} (h : w ∈ tables_1_2) (g : goodWord w = true) : w ∈ wsL_law := List.mem_filter.mpr ⟨mT2 w h, g⟩
theorem mT3 : ∀ w ∈ tables_1_3, w ∈ lw_tbl := fun _ h => List.mem_append_right _ (List.mem_append_right _ (List.mem_append_right _ (h)))
theorem mG3 {w : Cond} (h : w ∈ tables_1_3) (g : goodWord w = true) : w ∈ wsL_law := List.mem_filter.mpr ⟨mT3 w h, g⟩
theorem m_in_L : Jvm.Cond.initialized RL ∈ wsL_law := mG1 (List.mem_of_getElem? (i := 0) rfl) rfl
theorem m_in_X10 : Jvm.Cond.initialized RX10 ∈ wsL_law := mG1 (List.mem_of_getElem? (i := 1) rfl) rfl
theorem m_in_X11 : Jvm.Cond.initialized RX11 ∈ wsL_law := mG1 (List.mem_of_getElem? (i := 2) rfl) rfl
theorem m_in_X9 : Jvm.Cond.initialized RX9 ∈ wsL_law := mG1 (List.mem_of_getElem? (i := 3) rfl) rfl
theorem m_in_X4 : Jvm.Cond.initialized RX4 ∈ wsL_law := mG1 (List.mem_of_getElem? (i := 4) rfl) rfl
theorem m_in_X1 : Jvm.Cond.initialized RX1 ∈ wsL_law := mG1 (List.mem_of_getElem? (i := 5) rfl) rfl
theorem m_in_X7 : Jvm.Cond.initialized RX7 ∈ wsL_law := mG1 (List.mem_of_getElem? (i := 6) rfl) rfl
theorem m_in_X6 : Jvm.Cond.initialized RX6 ∈ wsL_law := mG1 (List.mem_of_getElem? (i := 7) rfl) rfl
theorem m_in_X8 : Jvm.Cond.initialized RX8 ∈ wsL_law := mG1 (List.mem_of_getElem? (i := 8) rfl) rfl
theorem m_in_X3 : Jvm.Cond.initialized RX3 ∈ wsL_law := mG1 (List.mem_of_getElem? (i := 9) rfl) rfl
theorem m_in_X0 : Jvm.Cond.initialized RX0 ∈ wsL_law := mG1 (List.mem_of_getElem? (i := 10) rfl) rfl
theorem m_in_X5 : Jvm.Cond.initialized RX5 ∈ wsL_law := mG1 (List.mem_of_getElem? (i := 11) rfl) rfl
theorem m_in_X2 : Jvm.Cond.initialized RX2 ∈ wsL_law := mG1 (List.mem_of_getElem? (i := 12) rfl) rfl
theorem m_cl_L_7 : Jvm.Cond.classLink RL 7 "HiveYard" ∈ wsL_law := mG1 (List.mem_of_getElem? (i := 13) rfl) rfl
theorem m_it_X10 : Jvm.Cond.instantiable RX10 3 ∈ wsL_law := mG1 (List.mem_of_getElem? (i := 14) rfl) rfl
theorem m_ml_L_9 : Jvm.Cond.methodLink RL 9 yX10_init ∈ wsL_law := mG1 (List.mem_of_getElem? (i := 15) rfl) rfl
theorem m_im_X10_init : Jvm.Cond.instanceMethod yX10_init ∈ wsL_law := mG1 (List.mem_of_getElem? (i := 16) rfl) rfl
theorem m_co_X10_init : Jvm.Cond.code yX10_init prog_1_method_1_code 1 (Option.none : Option Jvm.ClassFile.FieldType) ∈ wsL_law := mG1 (List.mem_of_getElem? (i := 17) rfl) rfl
theorem m_ml_X10_3 : Jvm.Cond.methodLink RX10 3 objectInit ∈ wsL_law := mG1 (List.mem_of_getElem? (i := 18) rfl) rfl
theorem m_im_objectInit : Jvm.Cond.instanceMethod objectInit ∈ wsL_law := mG1 (List.mem_of_getElem? (i := 19) rfl) rfl
theorem m_co_objectInit : Jvm.Cond.code objectInit object_method_1_code 1 (Option.none : Option Jvm.ClassFile.FieldType) ∈ wsL_law := mG1 (List.mem_of_getElem? (i := 20) rfl) rfl
theorem m_cl_X10_9 : Jvm.Cond.classLink RX10 9 "HiveYard$Thing" ∈ wsL_law := mG1 (List.mem_of_getElem? (i := 21) rfl) rfl
theorem t_ao_X9 : Jvm.Cond.arrayOver (Jvm.ClassFile.FieldType.object "HiveYard$Thing") ∈ lw_tbl := mT1 _ (List.mem_of_getElem? (i := 22) rfl)
theorem m_fl_X10_11 : Jvm.Cond.fieldLink RX10 11 "HiveYard" "shelves" "[LHiveYard$Thing;" ∈ wsL_law := mG1 (List.mem_of_getElem? (i := 23) rfl) rfl
theorem m_fl_X10_15 : Jvm.Cond.fieldLink RX10 15 "HiveYard" "refusals" "[I" ∈ wsL_law := mG1 (List.mem_of_getElem? (i := 24) rfl) rfl
theorem m_fl_X10_19 : Jvm.Cond.fieldLink RX10 19 "HiveYard" "lastCode" "I" ∈ wsL_law := mG1 (List.mem_of_getElem? (i := 25) rfl) rfl
theorem m_ly_X10_shelves : Jvm.Cond.laysFinal "HiveYard" "HiveYard" "shelves" "[LHiveYard$Thing;" ∈ wsL_law := mG1 (List.mem_of_getElem? (i := 26) rfl) rfl
theorem t_soleField__HiveYard_shelves_ : Jvm.Cond.soleField "HiveYard" "shelves" ∈ lw_tbl := mT1 _ (List.mem_of_getElem? (i := 27) rfl)
theorem m_ly_X10_refusals : Jvm.Cond.laysFinal "HiveYard" "HiveYard" "refusals" "[I" ∈ wsL_law := mG1 (List.mem_of_getElem? (i := 28) rfl) rfl
theorem t_soleField__HiveYard_refusals_ : Jvm.Cond.soleField "HiveYard" "refusals" ∈ lw_tbl := mT1 _ (List.mem_of_getElem? (i := 29) rfl)
theorem m_ly_X10_lastCode : Jvm.Cond.lays "HiveYard" "HiveYard" "lastCode" "I" ∈ wsL_law := mG1 (List.mem_of_getElem? (i := 30) rfl) rfl
theorem t_soleField__HiveYard_lastCode_ : Jvm.Cond.soleField "HiveYard" "lastCode" ∈ lw_tbl := mT1 _ (List.mem_of_getElem? (i := 31) rfl)
theorem t_superclass__HiveYard_java_lang_Object_ : Jvm.Cond.superclass "HiveYard" "java/lang/Object" ∈ lw_tbl := mT1 _ (List.mem_of_getElem? (i := 32) rfl)
theorem m_ac_int : Jvm.Cond.arrayClass Jvm.ClassFile.FieldType.int ∈ wsL_law := mG1 (List.mem_of_getElem? (i := 33) rfl) rfl
theorem m_ml_L_13 : Jvm.Cond.methodLink RL 13 yX10_set ∈ wsL_law := mG1 (List.mem_of_getElem? (i := 34) rfl) rfl
theorem m_im_X10_set : Jvm.Cond.instanceMethod yX10_set ∈ wsL_law := mG1 (List.mem_of_getElem? (i := 35) rfl) rfl
theorem m_se_X10_X10_set_X10_set : Jvm.Cond.selects RX10 yX10_set yX10_set ∈ wsL_law := mG1 (List.mem_of_getElem? (i := 36) rfl) rfl
theorem m_co_X10_set : Jvm.Cond.code yX10_set prog_1_method_2_code 4 (Option.some Jvm.ClassFile.FieldType.int) ∈ wsL_law := mG1 (List.mem_of_getElem? (i := 37) rfl) rfl
theorem m_ml_X10_23 : Jvm.Cond.methodLink RX10 23 yX10_isShelf ∈ wsL_law := mG1 (List.mem_of_getElem? (i := 38) rfl) rfl
theorem m_st_X10_isShelf : Jvm.Cond.static yX10_isShelf ∈ wsL_law := mG1 (List.mem_of_getElem? (i := 39) rfl) rfl
theorem m_co_X10_isShelf : Jvm.Cond.code yX10_isShelf prog_1_method_25_code 1 (Option.some Jvm.ClassFile.FieldType.boolean) ∈ wsL_law := mG1 (List.mem_of_getElem? (i := 40) rfl) rfl
theorem m_ml_X10_82 : Jvm.Cond.methodLink RX10 82 yX10_isIndex ∈ wsL_law := mG1 (List.mem_of_getElem? (i := 41) rfl) rfl
theorem m_st_X10_isIndex : Jvm.Cond.static yX10_isIndex ∈ wsL_law := mG1 (List.mem_of_getElem? (i := 42) rfl) rfl
theorem m_co_X10_isIndex : Jvm.Cond.code yX10_isIndex prog_1_method_26_code 2 (Option.some Jvm.ClassFile.FieldType.boolean) ∈ wsL_law := mG1 (List.mem_of_getElem? (i := 43) rfl) rfl
theorem m_ml_X10_27 : Jvm.Cond.methodLink RX10 27 yX10_newThing ∈ wsL_law := mG1 (List.mem_of_getElem? (i := 44) rfl) rfl
theorem m_st_X10_newThing : Jvm.Cond.static yX10_newThing ∈ wsL_law := mG1 (List.mem_of_getElem? (i := 45) rfl) rfl
theorem m_co_X10_newThing : Jvm.Cond.code yX10_newThing prog_1_method_28_code 2 (Option.some (Jvm.ClassFile.FieldType.object "HiveYard$Thing")) ∈ wsL_law := mG1 (List.mem_of_getElem? (i := 46) rfl) rfl
theorem m_cl_X10_37 : Jvm.Cond.classLink RX10 37 "HiveYard$Frame" ∈ wsL_law := mG1 (List.mem_of_getElem? (i := 47) rfl) rfl
theorem m_it_X4 : Jvm.Cond.instantiable RX4 2 ∈ wsL_law := mG1 (List.mem_of_getElem? (i := 48) rfl) rfl
theorem m_ml_X10_169 : Jvm.Cond.methodLink RX10 169 yX4_init ∈ wsL_law := mG1 (List.mem_of_getElem? (i := 49) rfl) rfl
theorem m_im_X4_init : Jvm.Cond.instanceMethod yX4_init ∈ wsL_law := mG1 (List.mem_of_getElem? (i := 50) rfl) rfl
theorem m_co_X4_init : Jvm.Cond.code yX4_init prog_6_method_1_code 3 (Option.none : Option Jvm.ClassFile.FieldType) ∈ wsL_law := mG1 (List.mem_of_getElem? (i := 51) rfl) rfl
theorem m_ml_X4_1 : Jvm.Cond.methodLink RX4 1 yX9_init ∈ wsL_law := mG1 (List.mem_of_getElem? (i := 52) rfl) rfl
theorem m_im_X9_init : Jvm.Cond.instanceMethod yX9_init ∈ wsL_law := mG1 (List.mem_of_getElem? (i := 53) rfl) rfl
theorem m_co_X9_init : Jvm.Cond.code yX9_init prog_11_method_1_code 2 (Option.none : Option Jvm.ClassFile.FieldType) ∈ wsL_law := mG1 (List.mem_of_getElem? (i := 54) rfl) rfl
theorem m_ml_X9_1 : Jvm.Cond.methodLink RX9 1 objectInit ∈ wsL_law := mG1 (List.mem_of_getElem? (i := 55) rfl) rfl
theorem m_fl_X4_7 : Jvm.Cond.fieldLink RX4 7 "HiveYard$Frame" "honey" "I" ∈ wsL_law := mG1 (List.mem_of_getElem? (i := 56) rfl) rfl
theorem m_fl_X3_9 : Jvm.Cond.fieldLink RX3 9 "HiveYard$Frame" "honey" "I" ∈ wsL_law := mG1 (List.mem_of_getElem? (i := 57) rfl) rfl
theorem m_fl_X10_100 : Jvm.Cond.fieldLink RX10 100 "HiveYard$Frame" "honey" "I" ∈ wsL_law := mG1 (List.mem_of_getElem? (i := 58) rfl) rfl
theorem m_fl_X9_7 : Jvm.Cond.fieldLink RX9 7 "HiveYard$Thing" "sort" "I" ∈ wsL_law := mG1 (List.mem_of_getElem? (i := 59) rfl) rfl
theorem m_fl_X5_15 : Jvm.Cond.fieldLink RX5 15 "HiveYard$Hive" "sort" "I" ∈ wsL_law := mG1 (List.mem_of_getElem? (i := 60) rfl) rfl
theorem m_sf_X5_sort : Jvm.Cond.sameField "HiveYard$Hive" "HiveYard$Thing" "sort" "I" ∈ wsL_law := mG1 (List.mem_of_getElem? (i := 61) rfl) rfl
theorem m_fl_X10_157 : Jvm.Cond.fieldLink RX10 157 "HiveYard$Thing" "sort" "I" ∈ wsL_law := mG1 (List.mem_of_getElem? (i := 62) rfl) rfl
theorem m_ly_X4_honey : Jvm.Cond.lays "HiveYard$Frame" "HiveYard$Frame" "honey" "I" ∈ wsL_law := mG1 (List.mem_of_getElem? (i := 63) rfl) rfl
theorem t_soleField__HiveYard_Frame_honey_ : Jvm.Cond.soleField "HiveYard$Frame" "honey" ∈ lw_tbl := mT1 _ (List.mem_of_getElem? (i := 64) rfl)
theorem m_ly_X4_sort : Jvm.Cond.laysFinal "HiveYard$Frame" "HiveYard$Thing" "sort" "I" ∈ wsL_law := mG1 (List.mem_of_getElem? (i := 65) rfl) rfl
theorem t_soleField__HiveYard_Thing_sort_ : Jvm.Cond.soleField "HiveYard$Thing" "sort" ∈ lw_tbl := mT1 _ (List.mem_of_getElem? (i := 66) rfl)
theorem t_superclass__HiveYard_Frame_HiveYard_Thing_ : Jvm.Cond.superclass "HiveYard$Frame" "HiveYard$Thing" ∈ lw_tbl := mT1 _ (List.mem_of_getElem? (i := 67) rfl)
theorem m_cl_X10_112 : Jvm.Cond.classLink RX10 112 "HiveYard$Brood" ∈ wsL_law := mG1 (List.mem_of_getElem? (i := 68) rfl) rfl
theorem m_it_X1 : Jvm.Cond.instantiable RX1 3 ∈ wsL_law := mG1 (List.mem_of_getElem? (i := 69) rfl) rfl
theorem m_ml_X10_170 : Jvm.Cond.methodLink RX10 170 yX1_init ∈ wsL_law := mG1 (List.mem_of_getElem? (i := 70) rfl) rfl
theorem m_im_X1_init : Jvm.Cond.instanceMethod yX1_init ∈ wsL_law := mG1 (List.mem_of_getElem? (i := 71) rfl) rfl
theorem m_co_X1_init : Jvm.Cond.code yX1_init prog_3_method_1_code 2 (Option.none : Option Jvm.ClassFile.FieldType) ∈ wsL_law := mG1 (List.mem_of_getElem? (i := 72) rfl) rfl
theorem m_ml_X1_3 : Jvm.Cond.methodLink RX1 3 yX4_init ∈ wsL_law := mG1 (List.mem_of_getElem? (i := 73) rfl) rfl
theorem m_fl_X1_9 : Jvm.Cond.fieldLink RX1 9 "HiveYard$Brood" "eggs" "I" ∈ wsL_law := mG1 (List.mem_of_getElem? (i := 74) rfl) rfl
theorem m_fl_X10_111 : Jvm.Cond.fieldLink RX10 111 "HiveYard$Brood" "eggs" "I" ∈ wsL_law := mG1 (List.mem_of_getElem? (i := 75) rfl) rfl
theorem m_ly_X1_eggs : Jvm.Cond.lays "HiveYard$Brood" "HiveYard$Brood" "eggs" "I" ∈ wsL_law := mG1 (List.mem_of_getElem? (i := 76) rfl) rfl
theorem t_soleField__HiveYard_Brood_eggs_ : Jvm.Cond.soleField "HiveYard$Brood" "eggs" ∈ lw_tbl := mT1 _ (List.mem_of_getElem? (i := 77) rfl)
theorem m_ly_X1_honey : Jvm.Cond.lays "HiveYard$Brood" "HiveYard$Frame" "honey" "I" ∈ wsL_law := mG1 (List.mem_of_getElem? (i := 78) rfl) rfl
theorem m_ly_X1_sort : Jvm.Cond.laysFinal "HiveYard$Brood" "HiveYard$Thing" "sort" "I" ∈ wsL_law := mG1 (List.mem_of_getElem? (i := 79) rfl) rfl
theorem t_superclass__HiveYard_Brood_HiveYard_Frame_ : Jvm.Cond.superclass "HiveYard$Brood" "HiveYard$Frame" ∈ lw_tbl := mT1 _ (List.mem_of_getElem? (i := 80) rfl)
theorem m_cl_X10_117 : Jvm.Cond.classLink RX10 117 "HiveYard$Queen" ∈ wsL_law := mG1 (List.mem_of_getElem? (i := 81) rfl) rfl
theorem m_it_X7 : Jvm.Cond.instantiable RX7 3 ∈ wsL_law := mG1 (List.mem_of_getElem? (i := 82) rfl) rfl
theorem m_ml_X10_173 : Jvm.Cond.methodLink RX10 173 yX7_init ∈ wsL_law := mG1 (List.mem_of_getElem? (i := 83) rfl) rfl
theorem m_im_X7_init : Jvm.Cond.instanceMethod yX7_init ∈ wsL_law := mG1 (List.mem_of_getElem? (i := 84) rfl) rfl
theorem m_co_X7_init : Jvm.Cond.code yX7_init prog_9_method_1_code 2 (Option.none : Option Jvm.ClassFile.FieldType) ∈ wsL_law := mG1 (List.mem_of_getElem? (i := 85) rfl) rfl
theorem m_ml_X7_3 : Jvm.Cond.methodLink RX7 3 yX9_init ∈ wsL_law := mG1 (List.mem_of_getElem? (i := 86) rfl) rfl
theorem m_fl_X7_9 : Jvm.Cond.fieldLink RX7 9 "HiveYard$Queen" "lays" "I" ∈ wsL_law := mG1 (List.mem_of_getElem? (i := 87) rfl) rfl
theorem m_fl_X10_116 : Jvm.Cond.fieldLink RX10 116 "HiveYard$Queen" "lays" "I" ∈ wsL_law := mG1 (List.mem_of_getElem? (i := 88) rfl) rfl
theorem m_fl_X7_15 : Jvm.Cond.fieldLink RX7 15 "HiveYard$Queen" "age" "I" ∈ wsL_law := mG1 (List.mem_of_getElem? (i := 89) rfl) rfl
theorem m_fl_X10_121 : Jvm.Cond.fieldLink RX10 121 "HiveYard$Queen" "age" "I" ∈ wsL_law := mG1 (List.mem_of_getElem? (i := 90) rfl) rfl
theorem m_ly_X7_lays : Jvm.Cond.laysFinal "HiveYard$Queen" "HiveYard$Queen" "lays" "I" ∈ wsL_law := mG1 (List.mem_of_getElem? (i := 91) rfl) rfl
theorem t_soleField__HiveYard_Queen_lays_ : Jvm.Cond.soleField "HiveYard$Queen" "lays" ∈ lw_tbl := mT1 _ (List.mem_of_getElem? (i := 92) rfl)
theorem m_ly_X7_age : Jvm.Cond.lays "HiveYard$Queen" "HiveYard$Queen" "age" "I" ∈ wsL_law := mG1 (List.mem_of_getElem? (i := 93) rfl) rfl
theorem t_soleField__HiveYard_Queen_age_ : Jvm.Cond.soleField "HiveYard$Queen" "age" ∈ lw_tbl := mT1 _ (List.mem_of_getElem? (i := 94) rfl)
theorem m_ly_X7_sort : Jvm.Cond.laysFinal "HiveYard$Queen" "HiveYard$Thing" "sort" "I" ∈ wsL_law := mG1 (List.mem_of_getElem? (i := 95) rfl) rfl
theorem t_superclass__HiveYard_Queen_HiveYard_Thing_ : Jvm.Cond.superclass "HiveYard$Queen" "HiveYard$Thing" ∈ lw_tbl := mT1 _ (List.mem_of_getElem? (i := 96) rfl)
theorem m_cl_X10_174 : Jvm.Cond.classLink RX10 174 "HiveYard$Smoker" ∈ wsL_law := mG1 (List.mem_of_getElem? (i := 97) rfl) rfl
theorem m_it_X8 : Jvm.Cond.instantiable RX8 2 ∈ wsL_law := mG1 (List.mem_of_getElem? (i := 98) rfl) rfl
theorem m_ml_X10_176 : Jvm.Cond.methodLink RX10 176 yX8_init ∈ wsL_law := mG1 (List.mem_of_getElem? (i := 99) rfl) rfl
theorem m_im_X8_init : Jvm.Cond.instanceMethod yX8_init ∈ wsL_law := mG1 (List.mem_of_getElem? (i := 100) rfl) rfl
theorem m_co_X8_init : Jvm.Cond.code yX8_init prog_10_method_1_code 2 (Option.none : Option Jvm.ClassFile.FieldType) ∈ wsL_law := mG1 (List.mem_of_getElem? (i := 101) rfl) rfl
theorem m_ml_X8_3 : Jvm.Cond.methodLink RX8 3 yX6_init ∈ wsL_law := mG1 (List.mem_of_getElem? (i := 102) rfl) rfl
theorem m_im_X6_init : Jvm.Cond.instanceMethod yX6_init ∈ wsL_law := mG1 (List.mem_of_getElem? (i := 103) rfl) rfl
theorem m_co_X6_init : Jvm.Cond.code yX6_init prog_8_method_1_code 3 (Option.none : Option Jvm.ClassFile.FieldType) ∈ wsL_law := mG1 (List.mem_of_getElem? (i := 104) rfl) rfl
theorem m_ml_X6_1 : Jvm.Cond.methodLink RX6 1 yX9_init ∈ wsL_law := mG1 (List.mem_of_getElem? (i := 105) rfl) rfl
theorem m_fl_X6_7 : Jvm.Cond.fieldLink RX6 7 "HiveYard$Keeper" "care" "I" ∈ wsL_law := mG1 (List.mem_of_getElem? (i := 106) rfl) rfl
theorem m_fl_X8_9 : Jvm.Cond.fieldLink RX8 9 "HiveYard$Smoker" "care" "I" ∈ wsL_law := mG1 (List.mem_of_getElem? (i := 107) rfl) rfl
theorem m_sf_X8_care : Jvm.Cond.sameField "HiveYard$Smoker" "HiveYard$Keeper" "care" "I" ∈ wsL_law := mG1 (List.mem_of_getElem? (i := 108) rfl) rfl
theorem m_fl_X3_15 : Jvm.Cond.fieldLink RX3 15 "HiveYard$Feeder" "care" "I" ∈ wsL_law := mG1 (List.mem_of_getElem? (i := 109) rfl) rfl
theorem m_sf_X3_care : Jvm.Cond.sameField "HiveYard$Feeder" "HiveYard$Keeper" "care" "I" ∈ wsL_law := mG1 (List.mem_of_getElem? (i := 110) rfl) rfl
theorem m_fl_X10_160 : Jvm.Cond.fieldLink RX10 160 "HiveYard$Keeper" "care" "I" ∈ wsL_law := mG1 (List.mem_of_getElem? (i := 111) rfl) rfl
theorem m_ly_X8_care : Jvm.Cond.lays "HiveYard$Smoker" "HiveYard$Keeper" "care" "I" ∈ wsL_law := mG1 (List.mem_of_getElem? (i := 112) rfl) rfl
theorem t_soleField__HiveYard_Keeper_care_ : Jvm.Cond.soleField "HiveYard$Keeper" "care" ∈ lw_tbl := mT1 _ (List.mem_of_getElem? (i := 113) rfl)
theorem m_ly_X8_sort : Jvm.Cond.laysFinal "HiveYard$Smoker" "HiveYard$Thing" "sort" "I" ∈ wsL_law := mG1 (List.mem_of_getElem? (i := 114) rfl) rfl
theorem t_superclass__HiveYard_Smoker_HiveYard_Keeper_ : Jvm.Cond.superclass "HiveYard$Smoker" "HiveYard$Keeper" ∈ lw_tbl := mT1 _ (List.mem_of_getElem? (i := 115) rfl)
theorem m_cl_X10_177 : Jvm.Cond.classLink RX10 177 "HiveYard$Feeder" ∈ wsL_law := mG1 (List.mem_of_getElem? (i := 116) rfl) rfl
theorem m_it_X3 : Jvm.Cond.instantiable RX3 2 ∈ wsL_law := mG1 (List.mem_of_getElem? (i := 117) rfl) rfl
theorem m_ml_X10_179 : Jvm.Cond.methodLink RX10 179 yX3_init ∈ wsL_law := mG1 (List.mem_of_getElem? (i := 118) rfl) rfl
theorem m_im_X3_init : Jvm.Cond.instanceMethod yX3_init ∈ wsL_law := mG1 (List.mem_of_getElem? (i := 119) rfl) rfl
theorem m_co_X3_init : Jvm.Cond.code yX3_init prog_5_method_1_code 2 (Option.none : Option Jvm.ClassFile.FieldType) ∈ wsL_law := mG1 (List.mem_of_getElem? (i := 120) rfl) rfl
theorem m_ml_X3_3 : Jvm.Cond.methodLink RX3 3 yX6_init ∈ wsL_law := mG1 (List.mem_of_getElem? (i := 121) rfl) rfl
theorem m_ly_X3_care : Jvm.Cond.lays "HiveYard$Feeder" "HiveYard$Keeper" "care" "I" ∈ wsL_law := mG1 (List.mem_of_getElem? (i := 122) rfl) rfl
theorem m_ly_X3_sort : Jvm.Cond.laysFinal "HiveYard$Feeder" "HiveYard$Thing" "sort" "I" ∈ wsL_law := mG1 (List.mem_of_getElem? (i := 123) rfl) rfl
theorem t_superclass__HiveYard_Feeder_HiveYard_Keeper_ : Jvm.Cond.superclass "HiveYard$Feeder" "HiveYard$Keeper" ∈ lw_tbl := mT1 _ (List.mem_of_getElem? (i := 124) rfl)
theorem m_cl_X10_153 : Jvm.Cond.classLink RX10 153 "HiveYard$Alarm" ∈ wsL_law := mG1 (List.mem_of_getElem? (i := 125) rfl) rfl
theorem m_it_X0 : Jvm.Cond.instantiable RX0 2 ∈ wsL_law := mG1 (List.mem_of_getElem? (i := 126) rfl) rfl
theorem m_ml_X10_180 : Jvm.Cond.methodLink RX10 180 yX0_init ∈ wsL_law := mG1 (List.mem_of_getElem? (i := 127) rfl) rfl
theorem m_im_X0_init : Jvm.Cond.instanceMethod yX0_init ∈ wsL_law := mG1 (List.mem_of_getElem? (i := 128) rfl) rfl
theorem m_co_X0_init : Jvm.Cond.code yX0_init prog_2_method_1_code 2 (Option.none : Option Jvm.ClassFile.FieldType) ∈ wsL_law := mG1 (List.mem_of_getElem? (i := 129) rfl) rfl
theorem m_ml_X0_3 : Jvm.Cond.methodLink RX0 3 yX9_init ∈ wsL_law := mG1 (List.mem_of_getElem? (i := 130) rfl) rfl
theorem m_fl_X0_9 : Jvm.Cond.fieldLink RX0 9 "HiveYard$Alarm" "code" "I" ∈ wsL_law := mG1 (List.mem_of_getElem? (i := 131) rfl) rfl
theorem m_fl_X10_152 : Jvm.Cond.fieldLink RX10 152 "HiveYard$Alarm" "code" "I" ∈ wsL_law := mG1 (List.mem_of_getElem? (i := 132) rfl) rfl
theorem m_ly_X0_code : Jvm.Cond.laysFinal "HiveYard$Alarm" "HiveYard$Alarm" "code" "I" ∈ wsL_law := mG1 (List.mem_of_getElem? (i := 133) rfl) rfl
theorem t_soleField__HiveYard_Alarm_code_ : Jvm.Cond.soleField "HiveYard$Alarm" "code" ∈ lw_tbl := mT1 _ (List.mem_of_getElem? (i := 134) rfl)
theorem m_ly_X0_sort : Jvm.Cond.laysFinal "HiveYard$Alarm" "HiveYard$Thing" "sort" "I" ∈ wsL_law := mG1 (List.mem_of_getElem? (i := 135) rfl) rfl
theorem t_superclass__HiveYard_Alarm_HiveYard_Thing_ : Jvm.Cond.superclass "HiveYard$Alarm" "HiveYard$Thing" ∈ lw_tbl := mT1 _ (List.mem_of_getElem? (i := 136) rfl)
theorem m_ml_L_18 : Jvm.Cond.methodLink RL 18 yX10_hive ∈ wsL_law := mG1 (List.mem_of_getElem? (i := 137) rfl) rfl
theorem m_im_X10_hive : Jvm.Cond.instanceMethod yX10_hive ∈ wsL_law := mG1 (List.mem_of_getElem? (i := 138) rfl) rfl
theorem m_se_X10_X10_hive_X10_hive : Jvm.Cond.selects RX10 yX10_hive yX10_hive ∈ wsL_law := mG1 (List.mem_of_getElem? (i := 139) rfl) rfl
theorem m_co_X10_hive : Jvm.Cond.code yX10_hive prog_1_method_3_code 4 (Option.some Jvm.ClassFile.FieldType.int) ∈ wsL_law := mG1 (List.mem_of_getElem? (i := 140) rfl) rfl
theorem m_ml_X10_31 : Jvm.Cond.methodLink RX10 31 yX10_refuse ∈ wsL_law := mG1 (List.mem_of_getElem? (i := 141) rfl) rfl
theorem t_pm_X10_refuse : Jvm.Cond.privateMethod yX10_refuse ∈ lw_tbl := mT1 _ (List.mem_of_getElem? (i := 142) rfl)
theorem m_im_X10_refuse : Jvm.Cond.instanceMethod yX10_refuse ∈ wsL_law := mG1 (List.mem_of_getElem? (i := 143) rfl) rfl
theorem m_co_X10_refuse : Jvm.Cond.code yX10_refuse prog_1_method_23_code 2 (Option.some Jvm.ClassFile.FieldType.int) ∈ wsL_law := mG1 (List.mem_of_getElem? (i := 144) rfl) rfl
theorem m_cl_X10_35 : Jvm.Cond.classLink RX10 35 "HiveYard$Hive" ∈ wsL_law := mG1 (List.mem_of_getElem? (i := 145) rfl) rfl
theorem m_it_X5 : Jvm.Cond.instantiable RX5 6 ∈ wsL_law := mG1 (List.mem_of_getElem? (i := 146) rfl) rfl
theorem t_ao_X4 : Jvm.Cond.arrayOver (Jvm.ClassFile.FieldType.object "HiveYard$Frame") ∈ lw_tbl := mT1 _ (List.mem_of_getElem? (i := 147) rfl)
theorem m_ml_X10_39 : Jvm.Cond.methodLink RX10 39 yX5_init ∈ wsL_law := mG1 (List.mem_of_getElem? (i := 148) rfl) rfl
theorem m_im_X5_init : Jvm.Cond.instanceMethod yX5_init ∈ wsL_law := mG1 (List.mem_of_getElem? (i := 149) rfl) rfl
theorem m_co_X5_init : Jvm.Cond.code yX5_init prog_7_method_1_code 3 (Option.none : Option Jvm.ClassFile.FieldType) ∈ wsL_law := mG1 (List.mem_of_getElem? (i := 150) rfl) rfl
theorem m_ml_X5_3 : Jvm.Cond.methodLink RX5 3 yX9_init ∈ wsL_law := mG1 (List.mem_of_getElem? (i := 151) rfl) rfl
theorem m_fl_X5_9 : Jvm.Cond.fieldLink RX5 9 "HiveYard$Hive" "row" "[LHiveYard$Frame;" ∈ wsL_law := mG1 (List.mem_of_getElem? (i := 152) rfl) rfl
theorem m_fl_X10_62 : Jvm.Cond.fieldLink RX10 62 "HiveYard$Hive" "row" "[LHiveYard$Frame;" ∈ wsL_law := mG1 (List.mem_of_getElem? (i := 153) rfl) rfl
theorem m_fl_X10_74 : Jvm.Cond.fieldLink RX10 74 "HiveYard$Hive" "comb" "LHiveYard$Comb;" ∈ wsL_law := mG1 (List.mem_of_getElem? (i := 154) rfl) rfl
theorem m_fl_X5_23 : Jvm.Cond.fieldLink RX5 23 "HiveYard$Hive" "queen" "LHiveYard$Queen;" ∈ wsL_law := mG1 (List.mem_of_getElem? (i := 155) rfl) rfl
theorem m_fl_X10_107 : Jvm.Cond.fieldLink RX10 107 "HiveYard$Hive" "queen" "LHiveYard$Queen;" ∈ wsL_law := mG1 (List.mem_of_getElem? (i := 156) rfl) rfl
theorem m_fl_X5_29 : Jvm.Cond.fieldLink RX5 29 "HiveYard$Hive" "keeper" "LHiveYard$Keeper;" ∈ wsL_law := mG1 (List.mem_of_getElem? (i := 157) rfl) rfl
theorem m_fl_X10_124 : Jvm.Cond.fieldLink RX10 124 "HiveYard$Hive" "keeper" "LHiveYard$Keeper;" ∈ wsL_law := mG1 (List.mem_of_getElem? (i := 158) rfl) rfl
theorem m_fl_X5_35 : Jvm.Cond.fieldLink RX5 35 "HiveYard$Hive" "alarm" "LHiveYard$Alarm;" ∈ wsL_law := mG1 (List.mem_of_getElem? (i := 159) rfl) rfl
theorem m_fl_X10_148 : Jvm.Cond.fieldLink RX10 148 "HiveYard$Hive" "alarm" "LHiveYard$Alarm;" ∈ wsL_law := mG1 (List.mem_of_getElem? (i := 160) rfl) rfl
theorem m_ly_X5_row : Jvm.Cond.lays "HiveYard$Hive" "HiveYard$Hive" "row" "[LHiveYard$Frame;" ∈ wsL_law := mG1 (List.mem_of_getElem? (i := 161) rfl) rfl
theorem t_soleField__HiveYard_Hive_row_ : Jvm.Cond.soleField "HiveYard$Hive" "row" ∈ lw_tbl := mT1 _ (List.mem_of_getElem? (i := 162) rfl)
theorem m_ly_X5_comb : Jvm.Cond.lays "HiveYard$Hive" "HiveYard$Hive" "comb" "LHiveYard$Comb;" ∈ wsL_law := mG1 (List.mem_of_getElem? (i := 163) rfl) rfl
theorem t_soleField__HiveYard_Hive_comb_ : Jvm.Cond.soleField "HiveYard$Hive" "comb" ∈ lw_tbl := mT1 _ (List.mem_of_getElem? (i := 164) rfl)
theorem m_ly_X5_queen : Jvm.Cond.lays "HiveYard$Hive" "HiveYard$Hive" "queen" "LHiveYard$Queen;" ∈ wsL_law := mG1 (List.mem_of_getElem? (i := 165) rfl) rfl
theorem t_soleField__HiveYard_Hive_queen_ : Jvm.Cond.soleField "HiveYard$Hive" "queen" ∈ lw_tbl := mT1 _ (List.mem_of_getElem? (i := 166) rfl)
theorem m_ly_X5_keeper : Jvm.Cond.lays "HiveYard$Hive" "HiveYard$Hive" "keeper" "LHiveYard$Keeper;" ∈ wsL_law := mG1 (List.mem_of_getElem? (i := 167) rfl) rfl
theorem t_soleField__HiveYard_Hive_keeper_ : Jvm.Cond.soleField "HiveYard$Hive" "keeper" ∈ lw_tbl := mT1 _ (List.mem_of_getElem? (i := 168) rfl)
theorem m_ly_X5_alarm : Jvm.Cond.lays "HiveYard$Hive" "HiveYard$Hive" "alarm" "LHiveYard$Alarm;" ∈ wsL_law := mG1 (List.mem_of_getElem? (i := 169) rfl) rfl
theorem t_soleField__HiveYard_Hive_alarm_ : Jvm.Cond.soleField "HiveYard$Hive" "alarm" ∈ lw_tbl := mT1 _ (List.mem_of_getElem? (i := 170) rfl)
theorem m_ly_X5_sort : Jvm.Cond.laysFinal "HiveYard$Hive" "HiveYard$Thing" "sort" "I" ∈ wsL_law := mG1 (List.mem_of_getElem? (i := 171) rfl) rfl
theorem t_superclass__HiveYard_Hive_HiveYard_Thing_ : Jvm.Cond.superclass "HiveYard$Hive" "HiveYard$Thing" ∈ lw_tbl := mT1 _ (List.mem_of_getElem? (i := 172) rfl)
theorem m_ml_L_23 : Jvm.Cond.methodLink RL 23 yX10_share ∈ wsL_law := mG1 (List.mem_of_getElem? (i := 173) rfl) rfl
theorem m_im_X10_share : Jvm.Cond.instanceMethod yX10_share ∈ wsL_law := mG1 (List.mem_of_getElem? (i := 174) rfl) rfl
theorem m_se_X10_X10_share_X10_share : Jvm.Cond.selects RX10 yX10_share yX10_share ∈ wsL_law := mG1 (List.mem_of_getElem? (i := 175) rfl) rfl
theorem m_co_X10_share : Jvm.Cond.code yX10_share prog_1_method_4_code 4 (Option.some Jvm.ClassFile.FieldType.int) ∈ wsL_law := mG1 (List.mem_of_getElem? (i := 176) rfl) rfl
theorem m_ml_X10_42 : Jvm.Cond.methodLink RX10 42 yX10_oneIfThing ∈ wsL_law := mG1 (List.mem_of_getElem? (i := 177) rfl) rfl
theorem m_st_X10_oneIfThing : Jvm.Cond.static yX10_oneIfThing ∈ wsL_law := mG1 (List.mem_of_getElem? (i := 178) rfl) rfl
theorem m_co_X10_oneIfThing : Jvm.Cond.code yX10_oneIfThing prog_1_method_27_code 1 (Option.some Jvm.ClassFile.FieldType.int) ∈ wsL_law := mG1 (List.mem_of_getElem? (i := 179) rfl) rfl
theorem m_ml_L_28 : Jvm.Cond.methodLink RL 28 yX10_clear ∈ wsL_law := mG1 (List.mem_of_getElem? (i := 180) rfl) rfl
theorem m_im_X10_clear : Jvm.Cond.instanceMethod yX10_clear ∈ wsL_law := mG1 (List.mem_of_getElem? (i := 181) rfl) rfl
theorem m_se_X10_X10_clear_X10_clear : Jvm.Cond.selects RX10 yX10_clear yX10_clear ∈ wsL_law := mG1 (List.mem_of_getElem? (i := 182) rfl) rfl
theorem m_co_X10_clear : Jvm.Cond.code yX10_clear prog_1_method_5_code 3 (Option.some Jvm.ClassFile.FieldType.int) ∈ wsL_law := mG1 (List.mem_of_getElem? (i := 183) rfl) rfl
theorem m_ml_L_33 : Jvm.Cond.methodLink RL 33 yX10_give ∈ wsL_law := mG1 (List.mem_of_getElem? (i := 184) rfl) rfl
theorem m_im_X10_give : Jvm.Cond.instanceMethod yX10_give ∈ wsL_law := mG1 (List.mem_of_getElem? (i := 185) rfl) rfl
theorem m_se_X10_X10_give_X10_give : Jvm.Cond.selects RX10 yX10_give yX10_give ∈ wsL_law := mG1 (List.mem_of_getElem? (i := 186) rfl) rfl
theorem m_co_X10_give : Jvm.Cond.code yX10_give prog_1_method_6_code 6 (Option.some Jvm.ClassFile.FieldType.int) ∈ wsL_law := mG1 (List.mem_of_getElem? (i := 187) rfl) rfl
theorem m_ml_X10_46 : Jvm.Cond.methodLink RX10 46 yX10_isNoHive ∈ wsL_law := mG1 (List.mem_of_getElem? (i := 188) rfl) rfl
theorem m_st_X10_isNoHive : Jvm.Cond.static yX10_isNoHive ∈ wsL_law := mG1 (List.mem_of_getElem? (i := 189) rfl) rfl
theorem m_co_X10_isNoHive : Jvm.Cond.code yX10_isNoHive prog_1_method_33_code 1 (Option.some Jvm.ClassFile.FieldType.boolean) ∈ wsL_law := mG1 (List.mem_of_getElem? (i := 190) rfl) rfl
theorem m_ml_X10_50 : Jvm.Cond.methodLink RX10 50 yX10_isNoPart ∈ wsL_law := mG1 (List.mem_of_getElem? (i := 191) rfl) rfl
theorem m_st_X10_isNoPart : Jvm.Cond.static yX10_isNoPart ∈ wsL_law := mG1 (List.mem_of_getElem? (i := 192) rfl) rfl
theorem m_co_X10_isNoPart : Jvm.Cond.code yX10_isNoPart prog_1_method_35_code 2 (Option.some Jvm.ClassFile.FieldType.boolean) ∈ wsL_law := mG1 (List.mem_of_getElem? (i := 193) rfl) rfl
theorem m_cl_X10_129 : Jvm.Cond.classLink RX10 129 "HiveYard$Keeper" ∈ wsL_law := mG1 (List.mem_of_getElem? (i := 194) rfl) rfl
theorem m_ml_X10_54 : Jvm.Cond.methodLink RX10 54 yX10_asHive ∈ wsL_law := mG1 (List.mem_of_getElem? (i := 195) rfl) rfl
theorem m_st_X10_asHive : Jvm.Cond.static yX10_asHive ∈ wsL_law := mG1 (List.mem_of_getElem? (i := 196) rfl) rfl
theorem m_co_X10_asHive : Jvm.Cond.code yX10_asHive prog_1_method_29_code 2 (Option.some (Jvm.ClassFile.FieldType.object "HiveYard$Hive")) ∈ wsL_law := mG1 (List.mem_of_getElem? (i := 197) rfl) rfl
theorem m_ml_X10_58 : Jvm.Cond.methodLink RX10 58 yX5_changePart ∈ wsL_law := mG1 (List.mem_of_getElem? (i := 198) rfl) rfl
theorem m_im_X5_changePart : Jvm.Cond.instanceMethod yX5_changePart ∈ wsL_law := mG1 (List.mem_of_getElem? (i := 199) rfl) rfl
theorem m_se_X5_X5_changePart_X5_changePart : Jvm.Cond.selects RX5 yX5_changePart yX5_changePart ∈ wsL_law := mG1 (List.mem_of_getElem? (i := 200) rfl) rfl
theorem m_co_X5_changePart : Jvm.Cond.code yX5_changePart prog_7_method_3_code 4 (Option.none : Option Jvm.ClassFile.FieldType) ∈ wsL_law := mG1 (List.mem_of_getElem? (i := 201) rfl) rfl
theorem m_cl_X5_21 : Jvm.Cond.classLink RX5 21 "HiveYard$Queen" ∈ wsL_law := mG1 (List.mem_of_getElem? (i := 202) rfl) rfl
theorem m_cl_X5_27 : Jvm.Cond.classLink RX5 27 "HiveYard$Keeper" ∈ wsL_law := mG1 (List.mem_of_getElem? (i := 203) rfl) rfl
theorem m_cl_X5_33 : Jvm.Cond.classLink RX5 33 "HiveYard$Alarm" ∈ wsL_law := mG1 (List.mem_of_getElem? (i := 204) rfl) rfl
theorem m_ml_L_37 : Jvm.Cond.methodLink RL 37 yX10_row ∈ wsL_law := mG1 (List.mem_of_getElem? (i := 205) rfl) rfl
theorem m_im_X10_row : Jvm.Cond.instanceMethod yX10_row ∈ wsL_law := mG1 (List.mem_of_getElem? (i := 206) rfl) rfl
theorem m_se_X10_X10_row_X10_row : Jvm.Cond.selects RX10 yX10_row yX10_row ∈ wsL_law := mG1 (List.mem_of_getElem? (i := 207) rfl) rfl
theorem m_co_X10_row : Jvm.Cond.code yX10_row prog_1_method_7_code 4 (Option.some Jvm.ClassFile.FieldType.int) ∈ wsL_law := mG1 (List.mem_of_getElem? (i := 208) rfl) rfl
theorem m_ml_L_41 : Jvm.Cond.methodLink RL 41 yX10_strip ∈ wsL_law := mG1 (List.mem_of_getElem? (i := 209) rfl) rfl
theorem m_im_X10_strip : Jvm.Cond.instanceMethod yX10_strip ∈ wsL_law := mG1 (List.mem_of_getElem? (i := 210) rfl) rfl
theorem m_se_X10_X10_strip_X10_strip : Jvm.Cond.selects RX10 yX10_strip yX10_strip ∈ wsL_law := mG1 (List.mem_of_getElem? (i := 211) rfl) rfl
theorem m_co_X10_strip : Jvm.Cond.code yX10_strip prog_1_method_8_code 4 (Option.some Jvm.ClassFile.FieldType.int) ∈ wsL_law := mG1 (List.mem_of_getElem? (i := 212) rfl) rfl
theorem m_ml_X10_66 : Jvm.Cond.methodLink RX10 66 yX10_castOrNull ∈ wsL_law := mG1 (List.mem_of_getElem? (i := 213) rfl) rfl
theorem m_st_X10_castOrNull : Jvm.Cond.static yX10_castOrNull ∈ wsL_law := mG1 (List.mem_of_getElem? (i := 214) rfl) rfl
theorem m_co_X10_castOrNull : Jvm.Cond.code yX10_castOrNull prog_1_method_34_code 1 (Option.some Jvm.ClassFile.FieldType.int) ∈ wsL_law := mG1 (List.mem_of_getElem? (i := 215) rfl) rfl
theorem m_ml_L_45 : Jvm.Cond.methodLink RL 45 yX10_comb ∈ wsL_law := mG1 (List.mem_of_getElem? (i := 216) rfl) rfl
theorem m_im_X10_comb : Jvm.Cond.instanceMethod yX10_comb ∈ wsL_law := mG1 (List.mem_of_getElem? (i := 217) rfl) rfl
theorem m_se_X10_X10_comb_X10_comb : Jvm.Cond.selects RX10 yX10_comb yX10_comb ∈ wsL_law := mG1 (List.mem_of_getElem? (i := 218) rfl) rfl
theorem m_co_X10_comb : Jvm.Cond.code yX10_comb prog_1_method_9_code 5 (Option.some Jvm.ClassFile.FieldType.int) ∈ wsL_law := mG1 (List.mem_of_getElem? (i := 219) rfl) rfl
theorem m_cl_X10_69 : Jvm.Cond.classLink RX10 69 "HiveYard$Comb" ∈ wsL_law := mG1 (List.mem_of_getElem? (i := 220) rfl) rfl
theorem m_it_X2 : Jvm.Cond.instantiable RX2 3 ∈ wsL_law := mG1 (List.mem_of_getElem? (i := 221) rfl) rfl
theorem m_ml_X10_71 : Jvm.Cond.methodLink RX10 71 yX2_init ∈ wsL_law := mG1 (List.mem_of_getElem? (i := 222) rfl) rfl
theorem m_im_X2_init : Jvm.Cond.instanceMethod yX2_init ∈ wsL_law := mG1 (List.mem_of_getElem? (i := 223) rfl) rfl
theorem m_co_X2_init : Jvm.Cond.code yX2_init prog_4_method_1_code 3 (Option.none : Option Jvm.ClassFile.FieldType) ∈ wsL_law := mG1 (List.mem_of_getElem? (i := 224) rfl) rfl
theorem m_ml_X2_1 : Jvm.Cond.methodLink RX2 1 objectInit ∈ wsL_law := mG1 (List.mem_of_getElem? (i := 225) rfl) rfl
theorem m_fl_X2_7 : Jvm.Cond.fieldLink RX2 7 "HiveYard$Comb" "lines" "I" ∈ wsL_law := mG1 (List.mem_of_getElem? (i := 226) rfl) rfl
theorem m_fl_X10_138 : Jvm.Cond.fieldLink RX10 138 "HiveYard$Comb" "lines" "I" ∈ wsL_law := mG1 (List.mem_of_getElem? (i := 227) rfl) rfl
theorem m_fl_X2_13 : Jvm.Cond.fieldLink RX2 13 "HiveYard$Comb" "width" "I" ∈ wsL_law := mG1 (List.mem_of_getElem? (i := 228) rfl) rfl
theorem m_fl_X10_141 : Jvm.Cond.fieldLink RX10 141 "HiveYard$Comb" "width" "I" ∈ wsL_law := mG1 (List.mem_of_getElem? (i := 229) rfl) rfl
theorem m_fl_X2_16 : Jvm.Cond.fieldLink RX2 16 "HiveYard$Comb" "cells" "[I" ∈ wsL_law := mG1 (List.mem_of_getElem? (i := 230) rfl) rfl
theorem m_ly_X2_lines : Jvm.Cond.laysFinal "HiveYard$Comb" "HiveYard$Comb" "lines" "I" ∈ wsL_law := mG1 (List.mem_of_getElem? (i := 231) rfl) rfl
theorem t_soleField__HiveYard_Comb_lines_ : Jvm.Cond.soleField "HiveYard$Comb" "lines" ∈ lw_tbl := mT1 _ (List.mem_of_getElem? (i := 232) rfl)
theorem m_ly_X2_width : Jvm.Cond.laysFinal "HiveYard$Comb" "HiveYard$Comb" "width" "I" ∈ wsL_law := mG1 (List.mem_of_getElem? (i := 233) rfl) rfl
theorem t_soleField__HiveYard_Comb_width_ : Jvm.Cond.soleField "HiveYard$Comb" "width" ∈ lw_tbl := mT1 _ (List.mem_of_getElem? (i := 234) rfl)
theorem m_ly_X2_cells : Jvm.Cond.laysFinal "HiveYard$Comb" "HiveYard$Comb" "cells" "[I" ∈ wsL_law := mG1 (List.mem_of_getElem? (i := 235) rfl) rfl
theorem t_soleField__HiveYard_Comb_cells_ : Jvm.Cond.soleField "HiveYard$Comb" "cells" ∈ lw_tbl := mT1 _ (List.mem_of_getElem? (i := 236) rfl)
theorem t_superclass__HiveYard_Comb_java_lang_Object_ : Jvm.Cond.superclass "HiveYard$Comb" "java/lang/Object" ∈ lw_tbl := mT1 _ (List.mem_of_getElem? (i := 237) rfl)
theorem m_ml_L_49 : Jvm.Cond.methodLink RL 49 yX10_put ∈ wsL_law := mG1 (List.mem_of_getElem? (i := 238) rfl) rfl
theorem m_im_X10_put : Jvm.Cond.instanceMethod yX10_put ∈ wsL_law := mG1 (List.mem_of_getElem? (i := 239) rfl) rfl
theorem m_se_X10_X10_put_X10_put : Jvm.Cond.selects RX10 yX10_put yX10_put ∈ wsL_law := mG2 (List.mem_of_getElem? (i := 0) rfl) rfl
theorem m_co_X10_put : Jvm.Cond.code yX10_put prog_1_method_10_code 7 (Option.some Jvm.ClassFile.FieldType.int) ∈ wsL_law := mG2 (List.mem_of_getElem? (i := 1) rfl) rfl
theorem m_ml_X10_78 : Jvm.Cond.methodLink RX10 78 yX10_asFrame ∈ wsL_law := mG2 (List.mem_of_getElem? (i := 2) rfl) rfl
theorem m_st_X10_asFrame : Jvm.Cond.static yX10_asFrame ∈ wsL_law := mG2 (List.mem_of_getElem? (i := 3) rfl) rfl
theorem m_co_X10_asFrame : Jvm.Cond.code yX10_asFrame prog_1_method_31_code 2 (Option.some (Jvm.ClassFile.FieldType.object "HiveYard$Frame")) ∈ wsL_law := mG2 (List.mem_of_getElem? (i := 4) rfl) rfl
theorem m_ml_X10_86 : Jvm.Cond.methodLink RX10 86 yX5_canHold ∈ wsL_law := mG2 (List.mem_of_getElem? (i := 5) rfl) rfl
theorem m_im_X5_canHold : Jvm.Cond.instanceMethod yX5_canHold ∈ wsL_law := mG2 (List.mem_of_getElem? (i := 6) rfl) rfl
theorem m_se_X5_X5_canHold_X5_canHold : Jvm.Cond.selects RX5 yX5_canHold yX5_canHold ∈ wsL_law := mG2 (List.mem_of_getElem? (i := 7) rfl) rfl
theorem m_co_X5_canHold : Jvm.Cond.code yX5_canHold prog_7_method_2_code 2 (Option.some Jvm.ClassFile.FieldType.boolean) ∈ wsL_law := mG2 (List.mem_of_getElem? (i := 8) rfl) rfl
theorem m_cl_X5_19 : Jvm.Cond.classLink RX5 19 "HiveYard$Brood" ∈ wsL_law := mG2 (List.mem_of_getElem? (i := 9) rfl) rfl
theorem m_ml_L_53 : Jvm.Cond.methodLink RL 53 yX10_take ∈ wsL_law := mG2 (List.mem_of_getElem? (i := 10) rfl) rfl
theorem m_im_X10_take : Jvm.Cond.instanceMethod yX10_take ∈ wsL_law := mG2 (List.mem_of_getElem? (i := 11) rfl) rfl
theorem m_se_X10_X10_take_X10_take : Jvm.Cond.selects RX10 yX10_take yX10_take ∈ wsL_law := mG2 (List.mem_of_getElem? (i := 12) rfl) rfl
theorem m_co_X10_take : Jvm.Cond.code yX10_take prog_1_method_11_code 6 (Option.some Jvm.ClassFile.FieldType.int) ∈ wsL_law := mG2 (List.mem_of_getElem? (i := 13) rfl) rfl
theorem m_ml_X10_90 : Jvm.Cond.methodLink RX10 90 yX10_rowOf ∈ wsL_law := mG2 (List.mem_of_getElem? (i := 14) rfl) rfl
theorem m_st_X10_rowOf : Jvm.Cond.static yX10_rowOf ∈ wsL_law := mG2 (List.mem_of_getElem? (i := 15) rfl) rfl
theorem m_co_X10_rowOf : Jvm.Cond.code yX10_rowOf prog_1_method_30_code 1 (Option.some (Jvm.ClassFile.FieldType.array (Jvm.ClassFile.FieldType.object "HiveYard$Frame"))) ∈ wsL_law := mG2 (List.mem_of_getElem? (i := 16) rfl) rfl
theorem m_ml_L_57 : Jvm.Cond.methodLink RL 57 yX10_honey ∈ wsL_law := mG2 (List.mem_of_getElem? (i := 17) rfl) rfl
theorem m_im_X10_honey : Jvm.Cond.instanceMethod yX10_honey ∈ wsL_law := mG2 (List.mem_of_getElem? (i := 18) rfl) rfl
theorem m_se_X10_X10_honey_X10_honey : Jvm.Cond.selects RX10 yX10_honey yX10_honey ∈ wsL_law := mG2 (List.mem_of_getElem? (i := 19) rfl) rfl
theorem m_co_X10_honey : Jvm.Cond.code yX10_honey prog_1_method_12_code 6 (Option.some Jvm.ClassFile.FieldType.long) ∈ wsL_law := mG2 (List.mem_of_getElem? (i := 20) rfl) rfl
theorem m_kl_X10_94 : Jvm.Cond.constantLong RX10 94 (-9223372036854775808 : Int64) ∈ wsL_law := mG2 (List.mem_of_getElem? (i := 21) rfl) rfl
theorem m_ml_X10_96 : Jvm.Cond.methodLink RX10 96 yX10_refuseLong ∈ wsL_law := mG2 (List.mem_of_getElem? (i := 22) rfl) rfl
theorem t_pm_X10_refuseLong : Jvm.Cond.privateMethod yX10_refuseLong ∈ lw_tbl := mT2 _ (List.mem_of_getElem? (i := 23) rfl)
theorem m_im_X10_refuseLong : Jvm.Cond.instanceMethod yX10_refuseLong ∈ wsL_law := mG2 (List.mem_of_getElem? (i := 24) rfl) rfl
theorem m_co_X10_refuseLong : Jvm.Cond.code yX10_refuseLong prog_1_method_24_code 2 (Option.some Jvm.ClassFile.FieldType.long) ∈ wsL_law := mG2 (List.mem_of_getElem? (i := 25) rfl) rfl
theorem m_kl_X10_167 : Jvm.Cond.constantLong RX10 167 (-9223372036854775718 : Int64) ∈ wsL_law := mG2 (List.mem_of_getElem? (i := 26) rfl) rfl
theorem m_ml_L_62 : Jvm.Cond.methodLink RL 62 yX10_lay ∈ wsL_law := mG2 (List.mem_of_getElem? (i := 27) rfl) rfl
theorem m_im_X10_lay : Jvm.Cond.instanceMethod yX10_lay ∈ wsL_law := mG2 (List.mem_of_getElem? (i := 28) rfl) rfl
theorem m_se_X10_X10_lay_X10_lay : Jvm.Cond.selects RX10 yX10_lay yX10_lay ∈ wsL_law := mG2 (List.mem_of_getElem? (i := 29) rfl) rfl
theorem m_co_X10_lay : Jvm.Cond.code yX10_lay prog_1_method_13_code 8 (Option.some Jvm.ClassFile.FieldType.long) ∈ wsL_law := mG2 (List.mem_of_getElem? (i := 30) rfl) rfl
theorem m_ml_X10_103 : Jvm.Cond.methodLink RX10 103 yX10_asBrood ∈ wsL_law := mG2 (List.mem_of_getElem? (i := 31) rfl) rfl
theorem m_st_X10_asBrood : Jvm.Cond.static yX10_asBrood ∈ wsL_law := mG2 (List.mem_of_getElem? (i := 32) rfl) rfl
theorem m_co_X10_asBrood : Jvm.Cond.code yX10_asBrood prog_1_method_32_code 2 (Option.some (Jvm.ClassFile.FieldType.object "HiveYard$Brood")) ∈ wsL_law := mG2 (List.mem_of_getElem? (i := 33) rfl) rfl
theorem m_ml_L_66 : Jvm.Cond.methodLink RL 66 yX10_tend ∈ wsL_law := mG2 (List.mem_of_getElem? (i := 34) rfl) rfl
theorem m_im_X10_tend : Jvm.Cond.instanceMethod yX10_tend ∈ wsL_law := mG2 (List.mem_of_getElem? (i := 35) rfl) rfl
theorem m_se_X10_X10_tend_X10_tend : Jvm.Cond.selects RX10 yX10_tend yX10_tend ∈ wsL_law := mG2 (List.mem_of_getElem? (i := 36) rfl) rfl
theorem m_co_X10_tend : Jvm.Cond.code yX10_tend prog_1_method_14_code 7 (Option.some Jvm.ClassFile.FieldType.long) ∈ wsL_law := mG2 (List.mem_of_getElem? (i := 37) rfl) rfl
theorem m_ml_X10_128 : Jvm.Cond.methodLink RX10 128 ⟨"HiveYard$Keeper", "canCareFor", "([LHiveYard$Frame;)Z"⟩ ∈ wsL_law := mG2 (List.mem_of_getElem? (i := 38) rfl) rfl
theorem t_de_q_X6_canCareFor : Jvm.Cond.declares ⟨"HiveYard$Keeper", "canCareFor", "([LHiveYard$Frame;)Z"⟩ ∈ lw_tbl := mT2 _ (List.mem_of_getElem? (i := 39) rfl)
theorem m_sm_X6_canCareFor : Jvm.Cond.sameMethod "HiveYard$Keeper" "HiveYard$Keeper" "canCareFor" "([LHiveYard$Frame;)Z" ∈ wsL_law := mG2 (List.mem_of_getElem? (i := 40) rfl) rfl
theorem m_se_X3_q_X6_canCareFor_X3_canCareFor : Jvm.Cond.selects RX3 ⟨"HiveYard$Keeper", "canCareFor", "([LHiveYard$Frame;)Z"⟩ yX3_canCareFor ∈ wsL_law := mG2 (List.mem_of_getElem? (i := 41) rfl) rfl
theorem m_im_X3_canCareFor : Jvm.Cond.instanceMethod yX3_canCareFor ∈ wsL_law := mG2 (List.mem_of_getElem? (i := 42) rfl) rfl
theorem m_co_X3_canCareFor : Jvm.Cond.code yX3_canCareFor prog_5_method_2_code 2 (Option.some Jvm.ClassFile.FieldType.boolean) ∈ wsL_law := mG2 (List.mem_of_getElem? (i := 43) rfl) rfl
theorem m_se_X8_q_X6_canCareFor_X8_canCareFor : Jvm.Cond.selects RX8 ⟨"HiveYard$Keeper", "canCareFor", "([LHiveYard$Frame;)Z"⟩ yX8_canCareFor ∈ wsL_law := mG2 (List.mem_of_getElem? (i := 44) rfl) rfl
theorem m_im_X8_canCareFor : Jvm.Cond.instanceMethod yX8_canCareFor ∈ wsL_law := mG2 (List.mem_of_getElem? (i := 45) rfl) rfl
theorem m_co_X8_canCareFor : Jvm.Cond.code yX8_canCareFor prog_10_method_2_code 2 (Option.some Jvm.ClassFile.FieldType.boolean) ∈ wsL_law := mG2 (List.mem_of_getElem? (i := 46) rfl) rfl
theorem m_ml_X10_134 : Jvm.Cond.methodLink RX10 134 ⟨"HiveYard$Keeper", "careFor", "([LHiveYard$Frame;I)I"⟩ ∈ wsL_law := mG2 (List.mem_of_getElem? (i := 47) rfl) rfl
theorem t_de_q_X6_careFor : Jvm.Cond.declares ⟨"HiveYard$Keeper", "careFor", "([LHiveYard$Frame;I)I"⟩ ∈ lw_tbl := mT2 _ (List.mem_of_getElem? (i := 48) rfl)
theorem m_sm_X6_careFor : Jvm.Cond.sameMethod "HiveYard$Keeper" "HiveYard$Keeper" "careFor" "([LHiveYard$Frame;I)I" ∈ wsL_law := mG2 (List.mem_of_getElem? (i := 49) rfl) rfl
theorem m_se_X3_q_X6_careFor_X3_careFor : Jvm.Cond.selects RX3 ⟨"HiveYard$Keeper", "careFor", "([LHiveYard$Frame;I)I"⟩ yX3_careFor ∈ wsL_law := mG2 (List.mem_of_getElem? (i := 50) rfl) rfl
theorem m_im_X3_careFor : Jvm.Cond.instanceMethod yX3_careFor ∈ wsL_law := mG2 (List.mem_of_getElem? (i := 51) rfl) rfl
theorem m_co_X3_careFor : Jvm.Cond.code yX3_careFor prog_5_method_3_code 6 (Option.some Jvm.ClassFile.FieldType.int) ∈ wsL_law := mG2 (List.mem_of_getElem? (i := 52) rfl) rfl
theorem m_se_X8_q_X6_careFor_X8_careFor : Jvm.Cond.selects RX8 ⟨"HiveYard$Keeper", "careFor", "([LHiveYard$Frame;I)I"⟩ yX8_careFor ∈ wsL_law := mG2 (List.mem_of_getElem? (i := 53) rfl) rfl
theorem m_im_X8_careFor : Jvm.Cond.instanceMethod yX8_careFor ∈ wsL_law := mG2 (List.mem_of_getElem? (i := 54) rfl) rfl
theorem m_co_X8_careFor : Jvm.Cond.code yX8_careFor prog_10_method_3_code 3 (Option.some Jvm.ClassFile.FieldType.int) ∈ wsL_law := mG2 (List.mem_of_getElem? (i := 55) rfl) rfl
theorem m_ml_L_71 : Jvm.Cond.methodLink RL 71 yX10_cell ∈ wsL_law := mG2 (List.mem_of_getElem? (i := 56) rfl) rfl
theorem m_im_X10_cell : Jvm.Cond.instanceMethod yX10_cell ∈ wsL_law := mG2 (List.mem_of_getElem? (i := 57) rfl) rfl
theorem m_se_X10_X10_cell_X10_cell : Jvm.Cond.selects RX10 yX10_cell yX10_cell ∈ wsL_law := mG2 (List.mem_of_getElem? (i := 58) rfl) rfl
theorem m_co_X10_cell : Jvm.Cond.code yX10_cell prog_1_method_15_code 7 (Option.some Jvm.ClassFile.FieldType.long) ∈ wsL_law := mG2 (List.mem_of_getElem? (i := 59) rfl) rfl
theorem m_ml_X10_144 : Jvm.Cond.methodLink RX10 144 yX2_exchange ∈ wsL_law := mG2 (List.mem_of_getElem? (i := 60) rfl) rfl
theorem m_im_X2_exchange : Jvm.Cond.instanceMethod yX2_exchange ∈ wsL_law := mG2 (List.mem_of_getElem? (i := 61) rfl) rfl
theorem m_se_X2_X2_exchange_X2_exchange : Jvm.Cond.selects RX2 yX2_exchange yX2_exchange ∈ wsL_law := mG2 (List.mem_of_getElem? (i := 62) rfl) rfl
theorem m_co_X2_exchange : Jvm.Cond.code yX2_exchange prog_4_method_2_code 6 (Option.some Jvm.ClassFile.FieldType.int) ∈ wsL_law := mG2 (List.mem_of_getElem? (i := 63) rfl) rfl
theorem m_ml_L_76 : Jvm.Cond.methodLink RL 76 yX10_harvest ∈ wsL_law := mG2 (List.mem_of_getElem? (i := 64) rfl) rfl
theorem m_im_X10_harvest : Jvm.Cond.instanceMethod yX10_harvest ∈ wsL_law := mG2 (List.mem_of_getElem? (i := 65) rfl) rfl
theorem m_se_X10_X10_harvest_X10_harvest : Jvm.Cond.selects RX10 yX10_harvest yX10_harvest ∈ wsL_law := mG2 (List.mem_of_getElem? (i := 66) rfl) rfl
theorem m_co_X10_harvest : Jvm.Cond.code yX10_harvest prog_1_method_16_code 7 (Option.some Jvm.ClassFile.FieldType.long) ∈ wsL_law := mG2 (List.mem_of_getElem? (i := 67) rfl) rfl
theorem m_ml_L_81 : Jvm.Cond.methodLink RL 81 yX10_sound ∈ wsL_law := mG2 (List.mem_of_getElem? (i := 68) rfl) rfl
theorem m_im_X10_sound : Jvm.Cond.instanceMethod yX10_sound ∈ wsL_law := mG2 (List.mem_of_getElem? (i := 69) rfl) rfl
theorem m_se_X10_X10_sound_X10_sound : Jvm.Cond.selects RX10 yX10_sound yX10_sound ∈ wsL_law := mG2 (List.mem_of_getElem? (i := 70) rfl) rfl
theorem m_co_X10_sound : Jvm.Cond.code yX10_sound prog_1_method_17_code 3 (Option.some Jvm.ClassFile.FieldType.int) ∈ wsL_law := mG2 (List.mem_of_getElem? (i := 71) rfl) rfl
theorem m_ml_L_85 : Jvm.Cond.methodLink RL 85 yX10_sort ∈ wsL_law := mG2 (List.mem_of_getElem? (i := 72) rfl) rfl
theorem m_im_X10_sort : Jvm.Cond.instanceMethod yX10_sort ∈ wsL_law := mG2 (List.mem_of_getElem? (i := 73) rfl) rfl
theorem m_se_X10_X10_sort_X10_sort : Jvm.Cond.selects RX10 yX10_sort yX10_sort ∈ wsL_law := mG2 (List.mem_of_getElem? (i := 74) rfl) rfl
theorem m_co_X10_sort : Jvm.Cond.code yX10_sort prog_1_method_18_code 3 (Option.some Jvm.ClassFile.FieldType.int) ∈ wsL_law := mG2 (List.mem_of_getElem? (i := 75) rfl) rfl
theorem m_ml_L_89 : Jvm.Cond.methodLink RL 89 yX10_told ∈ wsL_law := mG2 (List.mem_of_getElem? (i := 76) rfl) rfl
theorem m_im_X10_told : Jvm.Cond.instanceMethod yX10_told ∈ wsL_law := mG2 (List.mem_of_getElem? (i := 77) rfl) rfl
theorem m_se_X10_X10_told_X10_told : Jvm.Cond.selects RX10 yX10_told yX10_told ∈ wsL_law := mG2 (List.mem_of_getElem? (i := 78) rfl) rfl
theorem m_co_X10_told : Jvm.Cond.code yX10_told prog_1_method_19_code 5 (Option.some Jvm.ClassFile.FieldType.long) ∈ wsL_law := mG2 (List.mem_of_getElem? (i := 79) rfl) rfl
theorem m_ml_X10_163 : Jvm.Cond.methodLink RX10 163 yX10_lengthTold ∈ wsL_law := mG2 (List.mem_of_getElem? (i := 80) rfl) rfl
theorem t_pm_X10_lengthTold : Jvm.Cond.privateMethod yX10_lengthTold ∈ lw_tbl := mT2 _ (List.mem_of_getElem? (i := 81) rfl)
theorem m_im_X10_lengthTold : Jvm.Cond.instanceMethod yX10_lengthTold ∈ wsL_law := mG2 (List.mem_of_getElem? (i := 82) rfl) rfl
theorem m_co_X10_lengthTold : Jvm.Cond.code yX10_lengthTold prog_1_method_22_code 3 (Option.some Jvm.ClassFile.FieldType.long) ∈ wsL_law := mG2 (List.mem_of_getElem? (i := 83) rfl) rfl
theorem m_ml_L_93 : Jvm.Cond.methodLink RL 93 yX10_same ∈ wsL_law := mG2 (List.mem_of_getElem? (i := 84) rfl) rfl
theorem m_im_X10_same : Jvm.Cond.instanceMethod yX10_same ∈ wsL_law := mG2 (List.mem_of_getElem? (i := 85) rfl) rfl
theorem m_se_X10_X10_same_X10_same : Jvm.Cond.selects RX10 yX10_same yX10_same ∈ wsL_law := mG2 (List.mem_of_getElem? (i := 86) rfl) rfl
theorem m_co_X10_same : Jvm.Cond.code yX10_same prog_1_method_20_code 3 (Option.some Jvm.ClassFile.FieldType.int) ∈ wsL_law := mG2 (List.mem_of_getElem? (i := 87) rfl) rfl
theorem m_ml_L_97 : Jvm.Cond.methodLink RL 97 yX10_count ∈ wsL_law := mG2 (List.mem_of_getElem? (i := 88) rfl) rfl
theorem m_im_X10_count : Jvm.Cond.instanceMethod yX10_count ∈ wsL_law := mG2 (List.mem_of_getElem? (i := 89) rfl) rfl
theorem m_se_X10_X10_count_X10_count : Jvm.Cond.selects RX10 yX10_count yX10_count ∈ wsL_law := mG2 (List.mem_of_getElem? (i := 90) rfl) rfl
theorem m_co_X10_count : Jvm.Cond.code yX10_count prog_1_method_21_code 2 (Option.some Jvm.ClassFile.FieldType.int) ∈ wsL_law := mG2 (List.mem_of_getElem? (i := 91) rfl) rfl
theorem m_cl_L_10 : Jvm.Cond.classLink RL 10 "HiveYardModel" ∈ wsL_law := mG2 (List.mem_of_getElem? (i := 92) rfl) rfl
theorem m_it_X11 : Jvm.Cond.instantiable RX11 15 ∈ wsL_law := mG2 (List.mem_of_getElem? (i := 93) rfl) rfl
theorem m_ml_L_12 : Jvm.Cond.methodLink RL 12 yX11_init ∈ wsL_law := mG2 (List.mem_of_getElem? (i := 94) rfl) rfl
theorem m_im_X11_init : Jvm.Cond.instanceMethod yX11_init ∈ wsL_law := mG2 (List.mem_of_getElem? (i := 95) rfl) rfl
theorem m_co_X11_init : Jvm.Cond.code yX11_init prog_13_method_1_code 1 (Option.none : Option Jvm.ClassFile.FieldType) ∈ wsL_law := mG2 (List.mem_of_getElem? (i := 96) rfl) rfl
theorem m_ml_X11_1 : Jvm.Cond.methodLink RX11 1 objectInit ∈ wsL_law := mG2 (List.mem_of_getElem? (i := 97) rfl) rfl
theorem m_ki_X11_34 : Jvm.Cond.constant RX11 34 (100800 : Int32) ∈ wsL_law := mG2 (List.mem_of_getElem? (i := 98) rfl) rfl
theorem m_fl_X11_7 : Jvm.Cond.fieldLink RX11 7 "HiveYardModel" "shelf" "[I" ∈ wsL_law := mG2 (List.mem_of_getElem? (i := 99) rfl) rfl
theorem m_fl_X11_60 : Jvm.Cond.fieldLink RX11 60 "HiveYardModel" "things" "I" ∈ wsL_law := mG2 (List.mem_of_getElem? (i := 100) rfl) rfl
theorem m_fl_X11_13 : Jvm.Cond.fieldLink RX11 13 "HiveYardModel" "sorts" "[I" ∈ wsL_law := mG2 (List.mem_of_getElem? (i := 101) rfl) rfl
theorem m_fl_X11_16 : Jvm.Cond.fieldLink RX11 16 "HiveYardModel" "first" "[I" ∈ wsL_law := mG2 (List.mem_of_getElem? (i := 102) rfl) rfl
theorem m_fl_X11_19 : Jvm.Cond.fieldLink RX11 19 "HiveYardModel" "second" "[I" ∈ wsL_law := mG2 (List.mem_of_getElem? (i := 103) rfl) rfl
theorem m_fl_X11_22 : Jvm.Cond.fieldLink RX11 22 "HiveYardModel" "slotMany" "[I" ∈ wsL_law := mG2 (List.mem_of_getElem? (i := 104) rfl) rfl
theorem m_fl_X11_25 : Jvm.Cond.fieldLink RX11 25 "HiveYardModel" "slots" "[I" ∈ wsL_law := mG2 (List.mem_of_getElem? (i := 105) rfl) rfl
theorem m_fl_X11_28 : Jvm.Cond.fieldLink RX11 28 "HiveYardModel" "lineMany" "[I" ∈ wsL_law := mG2 (List.mem_of_getElem? (i := 106) rfl) rfl
theorem m_fl_X11_31 : Jvm.Cond.fieldLink RX11 31 "HiveYardModel" "cellMany" "[I" ∈ wsL_law := mG2 (List.mem_of_getElem? (i := 107) rfl) rfl
theorem m_fl_X11_35 : Jvm.Cond.fieldLink RX11 35 "HiveYardModel" "cells" "[I" ∈ wsL_law := mG2 (List.mem_of_getElem? (i := 108) rfl) rfl
theorem m_fl_X11_38 : Jvm.Cond.fieldLink RX11 38 "HiveYardModel" "queen" "[I" ∈ wsL_law := mG2 (List.mem_of_getElem? (i := 109) rfl) rfl
theorem m_fl_X11_41 : Jvm.Cond.fieldLink RX11 41 "HiveYardModel" "keeper" "[I" ∈ wsL_law := mG2 (List.mem_of_getElem? (i := 110) rfl) rfl
theorem m_fl_X11_44 : Jvm.Cond.fieldLink RX11 44 "HiveYardModel" "alarm" "[I" ∈ wsL_law := mG2 (List.mem_of_getElem? (i := 111) rfl) rfl
theorem m_fl_X11_47 : Jvm.Cond.fieldLink RX11 47 "HiveYardModel" "refusals" "[I" ∈ wsL_law := mG2 (List.mem_of_getElem? (i := 112) rfl) rfl
theorem m_fl_X11_97 : Jvm.Cond.fieldLink RX11 97 "HiveYardModel" "code" "I" ∈ wsL_law := mG2 (List.mem_of_getElem? (i := 113) rfl) rfl
theorem m_ly_X11_shelf : Jvm.Cond.laysFinal "HiveYardModel" "HiveYardModel" "shelf" "[I" ∈ wsL_law := mG2 (List.mem_of_getElem? (i := 114) rfl) rfl
theorem t_soleField__HiveYardModel_shelf_ : Jvm.Cond.soleField "HiveYardModel" "shelf" ∈ lw_tbl := mT2 _ (List.mem_of_getElem? (i := 115) rfl)
theorem m_ly_X11_things : Jvm.Cond.lays "HiveYardModel" "HiveYardModel" "things" "I" ∈ wsL_law := mG2 (List.mem_of_getElem? (i := 116) rfl) rfl
theorem t_soleField__HiveYardModel_things_ : Jvm.Cond.soleField "HiveYardModel" "things" ∈ lw_tbl := mT2 _ (List.mem_of_getElem? (i := 117) rfl)
theorem m_ly_X11_sorts : Jvm.Cond.laysFinal "HiveYardModel" "HiveYardModel" "sorts" "[I" ∈ wsL_law := mG2 (List.mem_of_getElem? (i := 118) rfl) rfl
theorem t_soleField__HiveYardModel_sorts_ : Jvm.Cond.soleField "HiveYardModel" "sorts" ∈ lw_tbl := mT2 _ (List.mem_of_getElem? (i := 119) rfl)
theorem m_ly_X11_first : Jvm.Cond.laysFinal "HiveYardModel" "HiveYardModel" "first" "[I" ∈ wsL_law := mG2 (List.mem_of_getElem? (i := 120) rfl) rfl
theorem t_soleField__HiveYardModel_first_ : Jvm.Cond.soleField "HiveYardModel" "first" ∈ lw_tbl := mT2 _ (List.mem_of_getElem? (i := 121) rfl)
theorem m_ly_X11_second : Jvm.Cond.laysFinal "HiveYardModel" "HiveYardModel" "second" "[I" ∈ wsL_law := mG2 (List.mem_of_getElem? (i := 122) rfl) rfl
theorem t_soleField__HiveYardModel_second_ : Jvm.Cond.soleField "HiveYardModel" "second" ∈ lw_tbl := mT2 _ (List.mem_of_getElem? (i := 123) rfl)
theorem m_ly_X11_slotMany : Jvm.Cond.laysFinal "HiveYardModel" "HiveYardModel" "slotMany" "[I" ∈ wsL_law := mG2 (List.mem_of_getElem? (i := 124) rfl) rfl
theorem t_soleField__HiveYardModel_slotMany_ : Jvm.Cond.soleField "HiveYardModel" "slotMany" ∈ lw_tbl := mT2 _ (List.mem_of_getElem? (i := 125) rfl)
theorem m_ly_X11_slots : Jvm.Cond.laysFinal "HiveYardModel" "HiveYardModel" "slots" "[I" ∈ wsL_law := mG2 (List.mem_of_getElem? (i := 126) rfl) rfl
theorem t_soleField__HiveYardModel_slots_ : Jvm.Cond.soleField "HiveYardModel" "slots" ∈ lw_tbl := mT2 _ (List.mem_of_getElem? (i := 127) rfl)
theorem m_ly_X11_lineMany : Jvm.Cond.laysFinal "HiveYardModel" "HiveYardModel" "lineMany" "[I" ∈ wsL_law := mG2 (List.mem_of_getElem? (i := 128) rfl) rfl
theorem t_soleField__HiveYardModel_lineMany_ : Jvm.Cond.soleField "HiveYardModel" "lineMany" ∈ lw_tbl := mT2 _ (List.mem_of_getElem? (i := 129) rfl)
theorem m_ly_X11_cellMany : Jvm.Cond.laysFinal "HiveYardModel" "HiveYardModel" "cellMany" "[I" ∈ wsL_law := mG2 (List.mem_of_getElem? (i := 130) rfl) rfl
theorem t_soleField__HiveYardModel_cellMany_ : Jvm.Cond.soleField "HiveYardModel" "cellMany" ∈ lw_tbl := mT2 _ (List.mem_of_getElem? (i := 131) rfl)
theorem m_ly_X11_cells : Jvm.Cond.laysFinal "HiveYardModel" "HiveYardModel" "cells" "[I" ∈ wsL_law := mG2 (List.mem_of_getElem? (i := 132) rfl) rfl
theorem t_soleField__HiveYardModel_cells_ : Jvm.Cond.soleField "HiveYardModel" "cells" ∈ lw_tbl := mT2 _ (List.mem_of_getElem? (i := 133) rfl)
theorem m_ly_X11_queen : Jvm.Cond.laysFinal "HiveYardModel" "HiveYardModel" "queen" "[I" ∈ wsL_law := mG2 (List.mem_of_getElem? (i := 134) rfl) rfl
theorem t_soleField__HiveYardModel_queen_ : Jvm.Cond.soleField "HiveYardModel" "queen" ∈ lw_tbl := mT2 _ (List.mem_of_getElem? (i := 135) rfl)
theorem m_ly_X11_keeper : Jvm.Cond.laysFinal "HiveYardModel" "HiveYardModel" "keeper" "[I" ∈ wsL_law := mG2 (List.mem_of_getElem? (i := 136) rfl) rfl
theorem t_soleField__HiveYardModel_keeper_ : Jvm.Cond.soleField "HiveYardModel" "keeper" ∈ lw_tbl := mT2 _ (List.mem_of_getElem? (i := 137) rfl)
theorem m_ly_X11_alarm : Jvm.Cond.laysFinal "HiveYardModel" "HiveYardModel" "alarm" "[I" ∈ wsL_law := mG2 (List.mem_of_getElem? (i := 138) rfl) rfl
theorem t_soleField__HiveYardModel_alarm_ : Jvm.Cond.soleField "HiveYardModel" "alarm" ∈ lw_tbl := mT2 _ (List.mem_of_getElem? (i := 139) rfl)
theorem m_ly_X11_refusals : Jvm.Cond.laysFinal "HiveYardModel" "HiveYardModel" "refusals" "[I" ∈ wsL_law := mG2 (List.mem_of_getElem? (i := 140) rfl) rfl
theorem t_soleField__HiveYardModel_refusals_ : Jvm.Cond.soleField "HiveYardModel" "refusals" ∈ lw_tbl := mT2 _ (List.mem_of_getElem? (i := 141) rfl)
theorem m_ly_X11_code : Jvm.Cond.lays "HiveYardModel" "HiveYardModel" "code" "I" ∈ wsL_law := mG2 (List.mem_of_getElem? (i := 142) rfl) rfl
theorem t_soleField__HiveYardModel_code_ : Jvm.Cond.soleField "HiveYardModel" "code" ∈ lw_tbl := mT2 _ (List.mem_of_getElem? (i := 143) rfl)
theorem t_superclass__HiveYardModel_java_lang_Object_ : Jvm.Cond.superclass "HiveYardModel" "java/lang/Object" ∈ lw_tbl := mT2 _ (List.mem_of_getElem? (i := 144) rfl)
theorem m_ml_L_17 : Jvm.Cond.methodLink RL 17 yX11_set ∈ wsL_law := mG2 (List.mem_of_getElem? (i := 145) rfl) rfl
theorem m_im_X11_set : Jvm.Cond.instanceMethod yX11_set ∈ wsL_law := mG2 (List.mem_of_getElem? (i := 146) rfl) rfl
theorem m_se_X11_X11_set_X11_set : Jvm.Cond.selects RX11 yX11_set yX11_set ∈ wsL_law := mG2 (List.mem_of_getElem? (i := 147) rfl) rfl
theorem m_co_X11_set : Jvm.Cond.code yX11_set prog_13_method_8_code 4 (Option.some Jvm.ClassFile.FieldType.int) ∈ wsL_law := mG2 (List.mem_of_getElem? (i := 148) rfl) rfl
theorem m_ml_X11_64 : Jvm.Cond.methodLink RX11 64 yX11_isShelf ∈ wsL_law := mG2 (List.mem_of_getElem? (i := 149) rfl) rfl
theorem m_st_X11_isShelf : Jvm.Cond.static yX11_isShelf ∈ wsL_law := mG2 (List.mem_of_getElem? (i := 150) rfl) rfl
theorem m_co_X11_isShelf : Jvm.Cond.code yX11_isShelf prog_13_method_4_code 1 (Option.some Jvm.ClassFile.FieldType.boolean) ∈ wsL_law := mG2 (List.mem_of_getElem? (i := 151) rfl) rfl
theorem m_ml_X11_50 : Jvm.Cond.methodLink RX11 50 yX11_in ∈ wsL_law := mG2 (List.mem_of_getElem? (i := 152) rfl) rfl
theorem m_st_X11_in : Jvm.Cond.static yX11_in ∈ wsL_law := mG2 (List.mem_of_getElem? (i := 153) rfl) rfl
theorem m_co_X11_in : Jvm.Cond.code yX11_in prog_13_method_3_code 3 (Option.some Jvm.ClassFile.FieldType.boolean) ∈ wsL_law := mG2 (List.mem_of_getElem? (i := 154) rfl) rfl
theorem m_ml_X11_68 : Jvm.Cond.methodLink RX11 68 yX11_thing ∈ wsL_law := mG2 (List.mem_of_getElem? (i := 155) rfl) rfl
theorem t_pm_X11_thing : Jvm.Cond.privateMethod yX11_thing ∈ lw_tbl := mT2 _ (List.mem_of_getElem? (i := 156) rfl)
theorem m_im_X11_thing : Jvm.Cond.instanceMethod yX11_thing ∈ wsL_law := mG2 (List.mem_of_getElem? (i := 157) rfl) rfl
theorem m_co_X11_thing : Jvm.Cond.code yX11_thing prog_13_method_7_code 4 (Option.some Jvm.ClassFile.FieldType.int) ∈ wsL_law := mG2 (List.mem_of_getElem? (i := 158) rfl) rfl
theorem m_ml_L_22 : Jvm.Cond.methodLink RL 22 yX11_hive ∈ wsL_law := mG2 (List.mem_of_getElem? (i := 159) rfl) rfl
theorem m_im_X11_hive : Jvm.Cond.instanceMethod yX11_hive ∈ wsL_law := mG2 (List.mem_of_getElem? (i := 160) rfl) rfl
theorem m_se_X11_X11_hive_X11_hive : Jvm.Cond.selects RX11 yX11_hive yX11_hive ∈ wsL_law := mG2 (List.mem_of_getElem? (i := 161) rfl) rfl
theorem m_co_X11_hive : Jvm.Cond.code yX11_hive prog_13_method_10_code 5 (Option.some Jvm.ClassFile.FieldType.int) ∈ wsL_law := mG2 (List.mem_of_getElem? (i := 162) rfl) rfl
theorem m_ml_X11_56 : Jvm.Cond.methodLink RX11 56 yX11_refuse ∈ wsL_law := mG2 (List.mem_of_getElem? (i := 163) rfl) rfl
theorem t_pm_X11_refuse : Jvm.Cond.privateMethod yX11_refuse ∈ lw_tbl := mT2 _ (List.mem_of_getElem? (i := 164) rfl)
theorem m_im_X11_refuse : Jvm.Cond.instanceMethod yX11_refuse ∈ wsL_law := mG2 (List.mem_of_getElem? (i := 165) rfl) rfl
theorem m_co_X11_refuse : Jvm.Cond.code yX11_refuse prog_13_method_5_code 2 (Option.some Jvm.ClassFile.FieldType.int) ∈ wsL_law := mG2 (List.mem_of_getElem? (i := 166) rfl) rfl
theorem m_ml_X11_72 : Jvm.Cond.methodLink RX11 72 yX11_newRow ∈ wsL_law := mG2 (List.mem_of_getElem? (i := 167) rfl) rfl
theorem t_pm_X11_newRow : Jvm.Cond.privateMethod yX11_newRow ∈ lw_tbl := mT2 _ (List.mem_of_getElem? (i := 168) rfl)
theorem m_im_X11_newRow : Jvm.Cond.instanceMethod yX11_newRow ∈ wsL_law := mG2 (List.mem_of_getElem? (i := 169) rfl) rfl
theorem m_co_X11_newRow : Jvm.Cond.code yX11_newRow prog_13_method_9_code 4 (Option.none : Option Jvm.ClassFile.FieldType) ∈ wsL_law := mG2 (List.mem_of_getElem? (i := 170) rfl) rfl
theorem m_ml_L_27 : Jvm.Cond.methodLink RL 27 yX11_share ∈ wsL_law := mG2 (List.mem_of_getElem? (i := 171) rfl) rfl
theorem m_im_X11_share : Jvm.Cond.instanceMethod yX11_share ∈ wsL_law := mG2 (List.mem_of_getElem? (i := 172) rfl) rfl
theorem m_se_X11_X11_share_X11_share : Jvm.Cond.selects RX11 yX11_share yX11_share ∈ wsL_law := mG2 (List.mem_of_getElem? (i := 173) rfl) rfl
theorem m_co_X11_share : Jvm.Cond.code yX11_share prog_13_method_11_code 3 (Option.some Jvm.ClassFile.FieldType.int) ∈ wsL_law := mG2 (List.mem_of_getElem? (i := 174) rfl) rfl
theorem m_ml_L_32 : Jvm.Cond.methodLink RL 32 yX11_clear ∈ wsL_law := mG2 (List.mem_of_getElem? (i := 175) rfl) rfl
theorem m_im_X11_clear : Jvm.Cond.instanceMethod yX11_clear ∈ wsL_law := mG2 (List.mem_of_getElem? (i := 176) rfl) rfl
theorem m_se_X11_X11_clear_X11_clear : Jvm.Cond.selects RX11 yX11_clear yX11_clear ∈ wsL_law := mG2 (List.mem_of_getElem? (i := 177) rfl) rfl
theorem m_co_X11_clear : Jvm.Cond.code yX11_clear prog_13_method_12_code 3 (Option.some Jvm.ClassFile.FieldType.int) ∈ wsL_law := mG2 (List.mem_of_getElem? (i := 178) rfl) rfl
theorem m_ml_L_36 : Jvm.Cond.methodLink RL 36 yX11_give ∈ wsL_law := mG2 (List.mem_of_getElem? (i := 179) rfl) rfl
theorem m_im_X11_give : Jvm.Cond.instanceMethod yX11_give ∈ wsL_law := mG2 (List.mem_of_getElem? (i := 180) rfl) rfl
theorem m_se_X11_X11_give_X11_give : Jvm.Cond.selects RX11 yX11_give yX11_give ∈ wsL_law := mG2 (List.mem_of_getElem? (i := 181) rfl) rfl
theorem m_co_X11_give : Jvm.Cond.code yX11_give prog_13_method_17_code 7 (Option.some Jvm.ClassFile.FieldType.int) ∈ wsL_law := mG2 (List.mem_of_getElem? (i := 182) rfl) rfl
theorem m_ml_X11_76 : Jvm.Cond.methodLink RX11 76 yX11_fits ∈ wsL_law := mG2 (List.mem_of_getElem? (i := 183) rfl) rfl
theorem t_pm_X11_fits : Jvm.Cond.privateMethod yX11_fits ∈ lw_tbl := mT2 _ (List.mem_of_getElem? (i := 184) rfl)
theorem m_im_X11_fits : Jvm.Cond.instanceMethod yX11_fits ∈ wsL_law := mG2 (List.mem_of_getElem? (i := 185) rfl) rfl
theorem m_co_X11_fits : Jvm.Cond.code yX11_fits prog_13_method_13_code 4 (Option.some Jvm.ClassFile.FieldType.boolean) ∈ wsL_law := mG2 (List.mem_of_getElem? (i := 186) rfl) rfl
theorem m_ml_L_40 : Jvm.Cond.methodLink RL 40 yX11_row ∈ wsL_law := mG2 (List.mem_of_getElem? (i := 187) rfl) rfl
theorem m_im_X11_row : Jvm.Cond.instanceMethod yX11_row ∈ wsL_law := mG2 (List.mem_of_getElem? (i := 188) rfl) rfl
theorem m_se_X11_X11_row_X11_row : Jvm.Cond.selects RX11 yX11_row yX11_row ∈ wsL_law := mG2 (List.mem_of_getElem? (i := 189) rfl) rfl
theorem m_co_X11_row : Jvm.Cond.code yX11_row prog_13_method_18_code 3 (Option.some Jvm.ClassFile.FieldType.int) ∈ wsL_law := mG2 (List.mem_of_getElem? (i := 190) rfl) rfl
theorem m_ml_L_44 : Jvm.Cond.methodLink RL 44 yX11_strip ∈ wsL_law := mG2 (List.mem_of_getElem? (i := 191) rfl) rfl
theorem m_im_X11_strip : Jvm.Cond.instanceMethod yX11_strip ∈ wsL_law := mG2 (List.mem_of_getElem? (i := 192) rfl) rfl
theorem m_se_X11_X11_strip_X11_strip : Jvm.Cond.selects RX11 yX11_strip yX11_strip ∈ wsL_law := mG2 (List.mem_of_getElem? (i := 193) rfl) rfl
theorem m_co_X11_strip : Jvm.Cond.code yX11_strip prog_13_method_19_code 4 (Option.some Jvm.ClassFile.FieldType.int) ∈ wsL_law := mG2 (List.mem_of_getElem? (i := 194) rfl) rfl
theorem m_ml_X11_82 : Jvm.Cond.methodLink RX11 82 yX11_wrongRow ∈ wsL_law := mG2 (List.mem_of_getElem? (i := 195) rfl) rfl
theorem t_pm_X11_wrongRow : Jvm.Cond.privateMethod yX11_wrongRow ∈ lw_tbl := mT2 _ (List.mem_of_getElem? (i := 196) rfl)
theorem m_im_X11_wrongRow : Jvm.Cond.instanceMethod yX11_wrongRow ∈ wsL_law := mG2 (List.mem_of_getElem? (i := 197) rfl) rfl
theorem m_co_X11_wrongRow : Jvm.Cond.code yX11_wrongRow prog_13_method_15_code 3 (Option.some Jvm.ClassFile.FieldType.int) ∈ wsL_law := mG2 (List.mem_of_getElem? (i := 198) rfl) rfl
theorem m_ml_X11_79 : Jvm.Cond.methodLink RX11 79 yX11_wrongHive ∈ wsL_law := mG2 (List.mem_of_getElem? (i := 199) rfl) rfl
theorem t_pm_X11_wrongHive : Jvm.Cond.privateMethod yX11_wrongHive ∈ lw_tbl := mT2 _ (List.mem_of_getElem? (i := 200) rfl)
theorem m_im_X11_wrongHive : Jvm.Cond.instanceMethod yX11_wrongHive ∈ wsL_law := mG2 (List.mem_of_getElem? (i := 201) rfl) rfl
theorem m_co_X11_wrongHive : Jvm.Cond.code yX11_wrongHive prog_13_method_14_code 2 (Option.some Jvm.ClassFile.FieldType.int) ∈ wsL_law := mG2 (List.mem_of_getElem? (i := 202) rfl) rfl
theorem m_ml_L_48 : Jvm.Cond.methodLink RL 48 yX11_comb ∈ wsL_law := mG2 (List.mem_of_getElem? (i := 203) rfl) rfl
theorem m_im_X11_comb : Jvm.Cond.instanceMethod yX11_comb ∈ wsL_law := mG2 (List.mem_of_getElem? (i := 204) rfl) rfl
theorem m_se_X11_X11_comb_X11_comb : Jvm.Cond.selects RX11 yX11_comb yX11_comb ∈ wsL_law := mG2 (List.mem_of_getElem? (i := 205) rfl) rfl
theorem m_co_X11_comb : Jvm.Cond.code yX11_comb prog_13_method_20_code 6 (Option.some Jvm.ClassFile.FieldType.int) ∈ wsL_law := mG2 (List.mem_of_getElem? (i := 206) rfl) rfl
theorem m_ml_L_52 : Jvm.Cond.methodLink RL 52 yX11_put ∈ wsL_law := mG2 (List.mem_of_getElem? (i := 207) rfl) rfl
theorem m_im_X11_put : Jvm.Cond.instanceMethod yX11_put ∈ wsL_law := mG2 (List.mem_of_getElem? (i := 208) rfl) rfl
theorem m_se_X11_X11_put_X11_put : Jvm.Cond.selects RX11 yX11_put yX11_put ∈ wsL_law := mG2 (List.mem_of_getElem? (i := 209) rfl) rfl
theorem m_co_X11_put : Jvm.Cond.code yX11_put prog_13_method_21_code 7 (Option.some Jvm.ClassFile.FieldType.int) ∈ wsL_law := mG2 (List.mem_of_getElem? (i := 210) rfl) rfl
theorem m_ml_X11_85 : Jvm.Cond.methodLink RX11 85 yX11_wrongSlot ∈ wsL_law := mG2 (List.mem_of_getElem? (i := 211) rfl) rfl
theorem t_pm_X11_wrongSlot : Jvm.Cond.privateMethod yX11_wrongSlot ∈ lw_tbl := mT2 _ (List.mem_of_getElem? (i := 212) rfl)
theorem m_im_X11_wrongSlot : Jvm.Cond.instanceMethod yX11_wrongSlot ∈ wsL_law := mG2 (List.mem_of_getElem? (i := 213) rfl) rfl
theorem m_co_X11_wrongSlot : Jvm.Cond.code yX11_wrongSlot prog_13_method_16_code 4 (Option.some Jvm.ClassFile.FieldType.int) ∈ wsL_law := mG2 (List.mem_of_getElem? (i := 214) rfl) rfl
theorem m_ml_L_56 : Jvm.Cond.methodLink RL 56 yX11_take ∈ wsL_law := mG2 (List.mem_of_getElem? (i := 215) rfl) rfl
theorem m_im_X11_take : Jvm.Cond.instanceMethod yX11_take ∈ wsL_law := mG2 (List.mem_of_getElem? (i := 216) rfl) rfl
theorem m_se_X11_X11_take_X11_take : Jvm.Cond.selects RX11 yX11_take yX11_take ∈ wsL_law := mG2 (List.mem_of_getElem? (i := 217) rfl) rfl
theorem m_co_X11_take : Jvm.Cond.code yX11_take prog_13_method_22_code 7 (Option.some Jvm.ClassFile.FieldType.int) ∈ wsL_law := mG2 (List.mem_of_getElem? (i := 218) rfl) rfl
theorem m_ml_L_61 : Jvm.Cond.methodLink RL 61 yX11_honey ∈ wsL_law := mG2 (List.mem_of_getElem? (i := 219) rfl) rfl
theorem m_im_X11_honey : Jvm.Cond.instanceMethod yX11_honey ∈ wsL_law := mG2 (List.mem_of_getElem? (i := 220) rfl) rfl
theorem m_se_X11_X11_honey_X11_honey : Jvm.Cond.selects RX11 yX11_honey yX11_honey ∈ wsL_law := mG2 (List.mem_of_getElem? (i := 221) rfl) rfl
theorem m_co_X11_honey : Jvm.Cond.code yX11_honey prog_13_method_23_code 6 (Option.some Jvm.ClassFile.FieldType.long) ∈ wsL_law := mG2 (List.mem_of_getElem? (i := 222) rfl) rfl
theorem m_kl_X11_88 : Jvm.Cond.constantLong RX11 88 (-9223372036854775808 : Int64) ∈ wsL_law := mG2 (List.mem_of_getElem? (i := 223) rfl) rfl
theorem m_ml_X11_90 : Jvm.Cond.methodLink RX11 90 yX11_refuseLong ∈ wsL_law := mG2 (List.mem_of_getElem? (i := 224) rfl) rfl
theorem t_pm_X11_refuseLong : Jvm.Cond.privateMethod yX11_refuseLong ∈ lw_tbl := mT2 _ (List.mem_of_getElem? (i := 225) rfl)
theorem m_im_X11_refuseLong : Jvm.Cond.instanceMethod yX11_refuseLong ∈ wsL_law := mG2 (List.mem_of_getElem? (i := 226) rfl) rfl
theorem m_co_X11_refuseLong : Jvm.Cond.code yX11_refuseLong prog_13_method_6_code 2 (Option.some Jvm.ClassFile.FieldType.long) ∈ wsL_law := mG2 (List.mem_of_getElem? (i := 227) rfl) rfl
theorem m_kl_X11_54 : Jvm.Cond.constantLong RX11 54 (-9223372036854775708 : Int64) ∈ wsL_law := mG2 (List.mem_of_getElem? (i := 228) rfl) rfl
theorem m_ml_L_65 : Jvm.Cond.methodLink RL 65 yX11_lay ∈ wsL_law := mG2 (List.mem_of_getElem? (i := 229) rfl) rfl
theorem m_im_X11_lay : Jvm.Cond.instanceMethod yX11_lay ∈ wsL_law := mG2 (List.mem_of_getElem? (i := 230) rfl) rfl
theorem m_se_X11_X11_lay_X11_lay : Jvm.Cond.selects RX11 yX11_lay yX11_lay ∈ wsL_law := mG2 (List.mem_of_getElem? (i := 231) rfl) rfl
theorem m_co_X11_lay : Jvm.Cond.code yX11_lay prog_13_method_24_code 7 (Option.some Jvm.ClassFile.FieldType.long) ∈ wsL_law := mG2 (List.mem_of_getElem? (i := 232) rfl) rfl
theorem m_ml_L_70 : Jvm.Cond.methodLink RL 70 yX11_tend ∈ wsL_law := mG2 (List.mem_of_getElem? (i := 233) rfl) rfl
theorem m_im_X11_tend : Jvm.Cond.instanceMethod yX11_tend ∈ wsL_law := mG2 (List.mem_of_getElem? (i := 234) rfl) rfl
theorem m_se_X11_X11_tend_X11_tend : Jvm.Cond.selects RX11 yX11_tend yX11_tend ∈ wsL_law := mG2 (List.mem_of_getElem? (i := 235) rfl) rfl
theorem m_co_X11_tend : Jvm.Cond.code yX11_tend prog_13_method_26_code 7 (Option.some Jvm.ClassFile.FieldType.long) ∈ wsL_law := mG2 (List.mem_of_getElem? (i := 236) rfl) rfl
theorem m_ml_X11_94 : Jvm.Cond.methodLink RX11 94 yX11_tended ∈ wsL_law := mG2 (List.mem_of_getElem? (i := 237) rfl) rfl
theorem t_pm_X11_tended : Jvm.Cond.privateMethod yX11_tended ∈ lw_tbl := mT2 _ (List.mem_of_getElem? (i := 238) rfl)
theorem m_im_X11_tended : Jvm.Cond.instanceMethod yX11_tended ∈ wsL_law := mG2 (List.mem_of_getElem? (i := 239) rfl) rfl
theorem m_co_X11_tended : Jvm.Cond.code yX11_tended prog_13_method_25_code 7 (Option.some Jvm.ClassFile.FieldType.int) ∈ wsL_law := mG3 (List.mem_of_getElem? (i := 0) rfl) rfl
theorem m_ml_L_75 : Jvm.Cond.methodLink RL 75 yX11_cell ∈ wsL_law := mG3 (List.mem_of_getElem? (i := 1) rfl) rfl
theorem m_im_X11_cell : Jvm.Cond.instanceMethod yX11_cell ∈ wsL_law := mG3 (List.mem_of_getElem? (i := 2) rfl) rfl
theorem m_se_X11_X11_cell_X11_cell : Jvm.Cond.selects RX11 yX11_cell yX11_cell ∈ wsL_law := mG3 (List.mem_of_getElem? (i := 3) rfl) rfl
theorem m_co_X11_cell : Jvm.Cond.code yX11_cell prog_13_method_27_code 9 (Option.some Jvm.ClassFile.FieldType.long) ∈ wsL_law := mG3 (List.mem_of_getElem? (i := 4) rfl) rfl
theorem m_ml_L_80 : Jvm.Cond.methodLink RL 80 yX11_harvest ∈ wsL_law := mG3 (List.mem_of_getElem? (i := 5) rfl) rfl
theorem m_im_X11_harvest : Jvm.Cond.instanceMethod yX11_harvest ∈ wsL_law := mG3 (List.mem_of_getElem? (i := 6) rfl) rfl
theorem m_se_X11_X11_harvest_X11_harvest : Jvm.Cond.selects RX11 yX11_harvest yX11_harvest ∈ wsL_law := mG3 (List.mem_of_getElem? (i := 7) rfl) rfl
theorem m_co_X11_harvest : Jvm.Cond.code yX11_harvest prog_13_method_28_code 9 (Option.some Jvm.ClassFile.FieldType.long) ∈ wsL_law := mG3 (List.mem_of_getElem? (i := 8) rfl) rfl
theorem m_ml_L_84 : Jvm.Cond.methodLink RL 84 yX11_sound ∈ wsL_law := mG3 (List.mem_of_getElem? (i := 9) rfl) rfl
theorem m_im_X11_sound : Jvm.Cond.instanceMethod yX11_sound ∈ wsL_law := mG3 (List.mem_of_getElem? (i := 10) rfl) rfl
theorem m_se_X11_X11_sound_X11_sound : Jvm.Cond.selects RX11 yX11_sound yX11_sound ∈ wsL_law := mG3 (List.mem_of_getElem? (i := 11) rfl) rfl
theorem m_co_X11_sound : Jvm.Cond.code yX11_sound prog_13_method_29_code 4 (Option.some Jvm.ClassFile.FieldType.int) ∈ wsL_law := mG3 (List.mem_of_getElem? (i := 12) rfl) rfl
theorem m_ml_L_88 : Jvm.Cond.methodLink RL 88 yX11_sort ∈ wsL_law := mG3 (List.mem_of_getElem? (i := 13) rfl) rfl
theorem m_im_X11_sort : Jvm.Cond.instanceMethod yX11_sort ∈ wsL_law := mG3 (List.mem_of_getElem? (i := 14) rfl) rfl
theorem m_se_X11_X11_sort_X11_sort : Jvm.Cond.selects RX11 yX11_sort yX11_sort ∈ wsL_law := mG3 (List.mem_of_getElem? (i := 15) rfl) rfl
theorem m_co_X11_sort : Jvm.Cond.code yX11_sort prog_13_method_30_code 2 (Option.some Jvm.ClassFile.FieldType.int) ∈ wsL_law := mG3 (List.mem_of_getElem? (i := 16) rfl) rfl
theorem m_ml_L_92 : Jvm.Cond.methodLink RL 92 yX11_told ∈ wsL_law := mG3 (List.mem_of_getElem? (i := 17) rfl) rfl
theorem m_im_X11_told : Jvm.Cond.instanceMethod yX11_told ∈ wsL_law := mG3 (List.mem_of_getElem? (i := 18) rfl) rfl
theorem m_se_X11_X11_told_X11_told : Jvm.Cond.selects RX11 yX11_told yX11_told ∈ wsL_law := mG3 (List.mem_of_getElem? (i := 19) rfl) rfl
theorem m_co_X11_told : Jvm.Cond.code yX11_told prog_13_method_31_code 6 (Option.some Jvm.ClassFile.FieldType.long) ∈ wsL_law := mG3 (List.mem_of_getElem? (i := 20) rfl) rfl
theorem m_ml_L_96 : Jvm.Cond.methodLink RL 96 yX11_same ∈ wsL_law := mG3 (List.mem_of_getElem? (i := 21) rfl) rfl
theorem m_im_X11_same : Jvm.Cond.instanceMethod yX11_same ∈ wsL_law := mG3 (List.mem_of_getElem? (i := 22) rfl) rfl
theorem m_se_X11_X11_same_X11_same : Jvm.Cond.selects RX11 yX11_same yX11_same ∈ wsL_law := mG3 (List.mem_of_getElem? (i := 23) rfl) rfl
theorem m_co_X11_same : Jvm.Cond.code yX11_same prog_13_method_32_code 3 (Option.some Jvm.ClassFile.FieldType.int) ∈ wsL_law := mG3 (List.mem_of_getElem? (i := 24) rfl) rfl
theorem m_ml_L_100 : Jvm.Cond.methodLink RL 100 yX11_count ∈ wsL_law := mG3 (List.mem_of_getElem? (i := 25) rfl) rfl
theorem m_im_X11_count : Jvm.Cond.instanceMethod yX11_count ∈ wsL_law := mG3 (List.mem_of_getElem? (i := 26) rfl) rfl
theorem m_se_X11_X11_count_X11_count : Jvm.Cond.selects RX11 yX11_count yX11_count ∈ wsL_law := mG3 (List.mem_of_getElem? (i := 27) rfl) rfl
theorem m_co_X11_count : Jvm.Cond.code yX11_count prog_13_method_33_code 2 (Option.some Jvm.ClassFile.FieldType.int) ∈ wsL_law := mG3 (List.mem_of_getElem? (i := 28) rfl) rfl
theorem t_ca_X5_X5 : Jvm.Cond.castable "HiveYard$Hive" "HiveYard$Hive" ∈ lw_tbl := mT3 _ (List.mem_of_getElem? (i := 29) rfl)
theorem t_ca_X7_X7 : Jvm.Cond.castable "HiveYard$Queen" "HiveYard$Queen" ∈ lw_tbl := mT3 _ (List.mem_of_getElem? (i := 30) rfl)
theorem t_ca_X3_X6 : Jvm.Cond.castable "HiveYard$Feeder" "HiveYard$Keeper" ∈ lw_tbl := mT3 _ (List.mem_of_getElem? (i := 31) rfl)
theorem t_ca_X8_X6 : Jvm.Cond.castable "HiveYard$Smoker" "HiveYard$Keeper" ∈ lw_tbl := mT3 _ (List.mem_of_getElem? (i := 32) rfl)
theorem t_ca_X0_X0 : Jvm.Cond.castable "HiveYard$Alarm" "HiveYard$Alarm" ∈ lw_tbl := mT3 _ (List.mem_of_getElem? (i := 33) rfl)
theorem t_ca_X1_X4 : Jvm.Cond.castable "HiveYard$Brood" "HiveYard$Frame" ∈ lw_tbl := mT3 _ (List.mem_of_getElem? (i := 34) rfl)
theorem t_ca_X4_X4 : Jvm.Cond.castable "HiveYard$Frame" "HiveYard$Frame" ∈ lw_tbl := mT3 _ (List.mem_of_getElem? (i := 35) rfl)
theorem t_ca_X1_X1 : Jvm.Cond.castable "HiveYard$Brood" "HiveYard$Brood" ∈ lw_tbl := mT3 _ (List.mem_of_getElem? (i := 36) rfl)
theorem t_ca_X0_X9 : Jvm.Cond.castable "HiveYard$Alarm" "HiveYard$Thing" ∈ lw_tbl := mT3 _ (List.mem_of_getElem? (i := 37) rfl)
theorem t_ca_X1_X9 : Jvm.Cond.castable "HiveYard$Brood" "HiveYard$Thing" ∈ lw_tbl := mT3 _ (List.mem_of_getElem? (i := 38) rfl)
theorem t_ca_X3_X9 : Jvm.Cond.castable "HiveYard$Feeder" "HiveYard$Thing" ∈ lw_tbl := mT3 _ (List.mem_of_getElem? (i := 39) rfl)
theorem t_ca_X4_X9 : Jvm.Cond.castable "HiveYard$Frame" "HiveYard$Thing" ∈ lw_tbl := mT3 _ (List.mem_of_getElem? (i := 40) rfl)
theorem t_ca_X5_X9 : Jvm.Cond.castable "HiveYard$Hive" "HiveYard$Thing" ∈ lw_tbl := mT3 _ (List.mem_of_getElem? (i := 41) rfl)
theorem t_ca_X7_X9 : Jvm.Cond.castable "HiveYard$Queen" "HiveYard$Thing" ∈ lw_tbl := mT3 _ (List.mem_of_getElem? (i := 42) rfl)
theorem t_ca_X8_X9 : Jvm.Cond.castable "HiveYard$Smoker" "HiveYard$Thing" ∈ lw_tbl := mT3 _ (List.mem_of_getElem? (i := 43) rfl)
theorem m_se_X10_X10_refuse_X10_refuse : Cond.selects RX10 yX10_refuse yX10_refuse ∈ wsL_law := List.mem_filter.mpr ⟨List.mem_append_left _ (List.mem_of_getElem? (i := 0) rfl), rfl⟩
theorem m_se_X10_X10_refuseLong_X10_refuseLong : Cond.selects RX10 yX10_refuseLong yX10_refuseLong ∈ wsL_law := List.mem_filter.mpr ⟨List.mem_append_left _ (List.mem_of_getElem? (i := 1) rfl), rfl⟩
theorem m_se_X10_X10_lengthTold_X10_lengthTold : Cond.selects RX10 yX10_lengthTold yX10_lengthTold ∈ wsL_law := List.mem_filter.mpr ⟨List.mem_append_left _ (List.mem_of_getElem? (i := 2) rfl), rfl⟩
theorem m_se_X11_X11_thing_X11_thing : Cond.selects RX11 yX11_thing yX11_thing ∈ wsL_law := List.mem_filter.mpr ⟨List.mem_append_left _ (List.mem_of_getElem? (i := 3) rfl), rfl⟩
theorem m_se_X11_X11_refuse_X11_refuse : Cond.selects RX11 yX11_refuse yX11_refuse ∈ wsL_law := List.mem_filter.mpr ⟨List.mem_append_left _ (List.mem_of_getElem? (i := 4) rfl), rfl⟩
theorem m_se_X11_X11_newRow_X11_newRow : Cond.selects RX11 yX11_newRow yX11_newRow ∈ wsL_law := List.mem_filter.mpr ⟨List.mem_append_left _ (List.mem_of_getElem? (i := 5) rfl), rfl⟩
theorem m_se_X11_X11_fits_X11_fits : Cond.selects RX11 yX11_fits yX11_fits ∈ wsL_law := List.mem_filter.mpr ⟨List.mem_append_left _ (List.mem_of_getElem? (i := 6) rfl), rfl⟩
theorem m_se_X11_X11_wrongRow_X11_wrongRow : Cond.selects RX11 yX11_wrongRow yX11_wrongRow ∈ wsL_law := List.mem_filter.mpr ⟨List.mem_append_left _ (List.mem_of_getElem? (i := 7) rfl), rfl⟩
theorem m_se_X11_X11_wrongHive_X11_wrongHive : Cond.selects RX11 yX11_wrongHive yX11_wrongHive ∈ wsL_law := List.mem_filter.mpr ⟨List.mem_append_left _ (List.mem_of_getElem? (i := 8) rfl), rfl⟩
theorem m_se_X11_X11_wrongSlot_X11_wrongSlot : Cond.selects RX11 yX11_wrongSlot yX11_wrongSlot ∈ wsL_law := List.mem_filter.mpr ⟨List.mem_append_left _ (List.mem_of_getElem? (i := 9) rfl), rfl⟩
theorem m_se_X11_X11_refuseLong_X11_refuseLong : Cond.selects RX11 yX11_refuseLong yX11_refuseLong ∈ wsL_law := List.mem_filter.mpr ⟨List.mem_append_left _ (List.mem_of_getElem? (i := 10) rfl), rfl⟩
theorem m_se_X11_X11_tended_X11_tended : Cond.selects RX11 yX11_tended yX11_tended ∈ wsL_law := List.mem_filter.mpr ⟨List.mem_append_left _ (List.mem_of_getElem? (i := 11) rfl), rfl⟩
theorem inlX0 : ∀ w ∈ wsX00, w ∈ wsL_law := (show ∀ w ∈ ([Cond.laysFinal "HiveYard$Alarm" "HiveYard$Thing" "sort" "I", Cond.laysFinal "HiveYard$Alarm" "HiveYard$Alarm" "code" "I"] : List Cond), w ∈ wsL_law from List.forall_mem_cons.mpr ⟨m_ly_X0_sort, List.forall_mem_cons.mpr ⟨m_ly_X0_code, (fun _ h => absurd h List.not_mem_nil)⟩⟩)
theorem inlX1 : ∀ w ∈ wsX10, w ∈ wsL_law := (show ∀ w ∈ ([Cond.lays "HiveYard$Brood" "HiveYard$Frame" "honey" "I", Cond.laysFinal "HiveYard$Brood" "HiveYard$Thing" "sort" "I", Cond.lays "HiveYard$Brood" "HiveYard$Brood" "eggs" "I"] : List Cond), w ∈ wsL_law from List.forall_mem_cons.mpr ⟨m_ly_X1_honey, List.forall_mem_cons.mpr ⟨m_ly_X1_sort, List.forall_mem_cons.mpr ⟨m_ly_X1_eggs, (fun _ h => absurd h List.not_mem_nil)⟩⟩⟩)
theorem inlX2 : ∀ w ∈ wsX20, w ∈ wsL_law := (show ∀ w ∈ ([Cond.laysFinal "HiveYard$Comb" "HiveYard$Comb" "lines" "I", Cond.laysFinal "HiveYard$Comb" "HiveYard$Comb" "width" "I", Cond.laysFinal "HiveYard$Comb" "HiveYard$Comb" "cells" "[I"] : List Cond), w ∈ wsL_law from List.forall_mem_cons.mpr ⟨m_ly_X2_lines, List.forall_mem_cons.mpr ⟨m_ly_X2_width, List.forall_mem_cons.mpr ⟨m_ly_X2_cells, (fun _ h => absurd h List.not_mem_nil)⟩⟩⟩)
theorem inlX3 : ∀ w ∈ wsX30, w ∈ wsL_law := (show ∀ w ∈ ([Cond.lays "HiveYard$Feeder" "HiveYard$Keeper" "care" "I", Cond.laysFinal "HiveYard$Feeder" "HiveYard$Thing" "sort" "I"] : List Cond), w ∈ wsL_law from List.forall_mem_cons.mpr ⟨m_ly_X3_care, List.forall_mem_cons.mpr ⟨m_ly_X3_sort, (fun _ h => absurd h List.not_mem_nil)⟩⟩)
theorem inlX4 : ∀ w ∈ wsX40, w ∈ wsL_law := (show ∀ w ∈ ([Cond.laysFinal "HiveYard$Frame" "HiveYard$Thing" "sort" "I", Cond.lays "HiveYard$Frame" "HiveYard$Frame" "honey" "I"] : List Cond), w ∈ wsL_law from List.forall_mem_cons.mpr ⟨m_ly_X4_sort, List.forall_mem_cons.mpr ⟨m_ly_X4_honey, (fun _ h => absurd h List.not_mem_nil)⟩⟩)
theorem inlX5 : ∀ w ∈ wsX50, w ∈ wsL_law := (show ∀ w ∈ ([Cond.laysFinal "HiveYard$Hive" "HiveYard$Thing" "sort" "I", Cond.lays "HiveYard$Hive" "HiveYard$Hive" "row" "[LHiveYard$Frame;", Cond.lays "HiveYard$Hive" "HiveYard$Hive" "comb" "LHiveYard$Comb;", Cond.lays "HiveYard$Hive" "HiveYard$Hive" "queen" "LHiveYard$Queen;", Cond.lays "HiveYard$Hive" "HiveYard$Hive" "keeper" "LHiveYard$Keeper;", Cond.lays "HiveYard$Hive" "HiveYard$Hive" "alarm" "LHiveYard$Alarm;"] : List Cond), w ∈ wsL_law from List.forall_mem_cons.mpr ⟨m_ly_X5_sort, List.forall_mem_cons.mpr ⟨m_ly_X5_row, List.forall_mem_cons.mpr ⟨m_ly_X5_comb, List.forall_mem_cons.mpr ⟨m_ly_X5_queen, List.forall_mem_cons.mpr ⟨m_ly_X5_keeper, List.forall_mem_cons.mpr ⟨m_ly_X5_alarm, (fun _ h => absurd h List.not_mem_nil)⟩⟩⟩⟩⟩⟩)
theorem inlX7 : ∀ w ∈ wsX70, w ∈ wsL_law := (show ∀ w ∈ ([Cond.laysFinal "HiveYard$Queen" "HiveYard$Thing" "sort" "I", Cond.laysFinal "HiveYard$Queen" "HiveYard$Queen" "lays" "I", Cond.lays "HiveYard$Queen" "HiveYard$Queen" "age" "I"] : List Cond), w ∈ wsL_law from List.forall_mem_cons.mpr ⟨m_ly_X7_sort, List.forall_mem_cons.mpr ⟨m_ly_X7_lays, List.forall_mem_cons.mpr ⟨m_ly_X7_age, (fun _ h => absurd h List.not_mem_nil)⟩⟩⟩)
theorem inlX8 : ∀ w ∈ wsX80, w ∈ wsL_law := (show ∀ w ∈ ([Cond.lays "HiveYard$Smoker" "HiveYard$Keeper" "care" "I", Cond.laysFinal "HiveYard$Smoker" "HiveYard$Thing" "sort" "I"] : List Cond), w ∈ wsL_law from List.forall_mem_cons.mpr ⟨m_ly_X8_care, List.forall_mem_cons.mpr ⟨m_ly_X8_sort, (fun _ h => absurd h List.not_mem_nil)⟩⟩)
theorem inlX10 : ∀ w ∈ wsX100, w ∈ wsL_law := (show ∀ w ∈ ([Cond.laysFinal "HiveYard" "HiveYard" "shelves" "[LHiveYard$Thing;", Cond.laysFinal "HiveYard" "HiveYard" "refusals" "[I", Cond.lays "HiveYard" "HiveYard" "lastCode" "I"] : List Cond), w ∈ wsL_law from List.forall_mem_cons.mpr ⟨m_ly_X10_shelves, List.forall_mem_cons.mpr ⟨m_ly_X10_refusals, List.forall_mem_cons.mpr ⟨m_ly_X10_lastCode, (fun _ h => absurd h List.not_mem_nil)⟩⟩⟩)
theorem inlX11 : ∀ w ∈ wsX110, w ∈ wsL_law := (show ∀ w ∈ ([Cond.laysFinal "HiveYardModel" "HiveYardModel" "shelf" "[I", Cond.lays "HiveYardModel" "HiveYardModel" "things" "I", Cond.laysFinal "HiveYardModel" "HiveYardModel" "sorts" "[I", Cond.laysFinal "HiveYardModel" "HiveYardModel" "first" "[I", Cond.laysFinal "HiveYardModel" "HiveYardModel" "second" "[I", Cond.laysFinal "HiveYardModel" "HiveYardModel" "slotMany" "[I", Cond.laysFinal "HiveYardModel" "HiveYardModel" "slots" "[I", Cond.laysFinal "HiveYardModel" "HiveYardModel" "lineMany" "[I", Cond.laysFinal "HiveYardModel" "HiveYardModel" "cellMany" "[I", Cond.laysFinal "HiveYardModel" "HiveYardModel" "cells" "[I", Cond.laysFinal "HiveYardModel" "HiveYardModel" "queen" "[I", Cond.laysFinal "HiveYardModel" "HiveYardModel" "keeper" "[I", Cond.laysFinal "HiveYardModel" "HiveYardModel" "alarm" "[I", Cond.laysFinal "HiveYardModel" "HiveYardModel" "refusals" "[I", Cond.lays "HiveYardModel" "HiveYardModel" "code" "I"] : List Cond), w ∈ wsL_law from List.forall_mem_cons.mpr ⟨m_ly_X11_shelf, List.forall_mem_cons.mpr ⟨m_ly_X11_things, List.forall_mem_cons.mpr ⟨m_ly_X11_sorts, List.forall_mem_cons.mpr ⟨m_ly_X11_first, List.forall_mem_cons.mpr ⟨m_ly_X11_second, List.forall_mem_cons.mpr ⟨m_ly_X11_slotMany, List.forall_mem_cons.mpr ⟨m_ly_X11_slots, List.forall_mem_cons.mpr ⟨m_ly_X11_lineMany, List.forall_mem_cons.mpr ⟨m_ly_X11_cellMany, List.forall_mem_cons.mpr ⟨m_ly_X11_cells, List.forall_mem_cons.mpr ⟨m_ly_X11_queen, List.forall_mem_cons.mpr ⟨m_ly_X11_keeper, List.forall_mem_cons.mpr ⟨m_ly_X11_alarm, List.forall_mem_cons.mpr ⟨m_ly_X11_refusals, List.forall_mem_cons.mpr ⟨m_ly_X11_code, (fun _ h => absurd h List.not_mem_nil)⟩⟩⟩⟩⟩⟩⟩⟩⟩⟩⟩⟩⟩⟩⟩)
