def W0 : List Cond := lw_tbl.filter goodWord
theorem W0_tbl : ∀ w ∈ W0, w ∈ lw_tbl := fun w h => (List.mem_filter.mp h).1
theorem W0_good : ∀ w ∈ W0, goodWord w = true := fun w h => (List.mem_filter.mp h).2
theorem W0_in {big : List Cond} (h : ∀ w ∈ W0, w ∈ big) : GoodIn big W0 := fun w hw => ⟨h w hw, good_of_word (W0_good w hw)⟩
theorem W0_t {w : Cond} {i : Nat} (h : tables_1[i]? = some w) (g : goodWord w = true) : w ∈ W0 := List.mem_filter.mpr ⟨List.mem_append_right _ (List.mem_of_getElem? h), g⟩
theorem W0_p {w : Cond} {i : Nat} (h : (k2_sels lw_privs)[i]? = some w) (g : goodWord w = true) : w ∈ W0 := List.mem_filter.mpr ⟨List.mem_append_left _ (List.mem_of_getElem? h), g⟩
theorem wN_RL : Cond.initialized RL ∈ W0 := W0_t (i := 0) (by decide +kernel) (by decide +kernel)
theorem wN_RX7 : Cond.initialized RX7 ∈ W0 := W0_t (i := 1) (by decide +kernel) (by decide +kernel)
theorem wN_RX1 : Cond.initialized RX1 ∈ W0 := W0_t (i := 2) (by decide +kernel) (by decide +kernel)
theorem wN_RX0 : Cond.initialized RX0 ∈ W0 := W0_t (i := 3) (by decide +kernel) (by decide +kernel)
theorem wN_RX2 : Cond.initialized RX2 ∈ W0 := W0_t (i := 4) (by decide +kernel) (by decide +kernel)
theorem wN_RX4 : Cond.initialized RX4 ∈ W0 := W0_t (i := 5) (by decide +kernel) (by decide +kernel)
theorem wN_RX5 : Cond.initialized RX5 ∈ W0 := W0_t (i := 6) (by decide +kernel) (by decide +kernel)
theorem wN_RX6 : Cond.initialized RX6 ∈ W0 := W0_t (i := 7) (by decide +kernel) (by decide +kernel)
theorem wN_RX3 : Cond.initialized RX3 ∈ W0 := W0_t (i := 8) (by decide +kernel) (by decide +kernel)
theorem wN_RX8 : Cond.initialized RX8 ∈ W0 := W0_t (i := 9) (by decide +kernel) (by decide +kernel)
theorem wN_RJ9 : Cond.initialized RJ9 ∈ W0 := W0_t (i := 10) (by decide +kernel) (by decide +kernel)
theorem wN_RJ10 : Cond.initialized RJ10 ∈ W0 := W0_t (i := 11) (by decide +kernel) (by decide +kernel)
theorem wN_RJ6 : Cond.initialized RJ6 ∈ W0 := W0_t (i := 12) (by decide +kernel) (by decide +kernel)
theorem wN_RJ0 : Cond.initialized RJ0 ∈ W0 := W0_t (i := 13) (by decide +kernel) (by decide +kernel)
theorem wN_RJ1 : Cond.initialized RJ1 ∈ W0 := W0_t (i := 14) (by decide +kernel) (by decide +kernel)
theorem wN_RJ3 : Cond.initialized RJ3 ∈ W0 := W0_t (i := 15) (by decide +kernel) (by decide +kernel)
theorem wN_RJ2 : Cond.initialized RJ2 ∈ W0 := W0_t (i := 16) (by decide +kernel) (by decide +kernel)
theorem wL_RL_7 : Cond.classLink RL 7 RX7 ∈ W0 := W0_t (i := 17) (by decide +kernel) (by decide +kernel)
theorem wT_RX7 : Cond.instantiable RX7 10 ∈ W0 := W0_t (i := 18) (by decide +kernel) (by decide +kernel)
theorem wM_RL_9 : Cond.methodLink RL 9 yX7_init ∈ W0 := W0_t (i := 19) (by decide +kernel) (by decide +kernel)
theorem wI_yX7_init : Cond.instanceMethod yX7_init ∈ W0 := W0_t (i := 20) (by decide +kernel) (by decide +kernel)
set_option maxRecDepth 100000 in
theorem wC_yX7_init : Cond.code yX7_init prog_1_method_1_code 1 (Option.none : Option Jvm.ClassFile.FieldType) ∈ W0 := W0_t (i := 21) rfl rfl
theorem wM_RX7_3 : Cond.methodLink RX7 3 (⟨"java/lang/Object", "<init>", "()V"⟩ : MethodName) ∈ W0 := W0_t (i := 22) (by decide +kernel) (by decide +kernel)
theorem wI_java_lang_Object_init_V_MethodName : Cond.instanceMethod (⟨"java/lang/Object", "<init>", "()V"⟩ : MethodName) ∈ W0 := W0_t (i := 23) (by decide +kernel) (by decide +kernel)
set_option maxRecDepth 100000 in
theorem wC_java_lang_Object_init_V_MethodName : Cond.code (⟨"java/lang/Object", "<init>", "()V"⟩ : MethodName) object_method_1_code 1 (Option.none : Option Jvm.ClassFile.FieldType) ∈ W0 := W0_t (i := 24) rfl rfl
theorem wL_RX7_9 : Cond.classLink RX7 9 RX1 ∈ W0 := W0_t (i := 25) (by decide +kernel) (by decide +kernel)
theorem wT_RX1 : Cond.instantiable RX1 7 ∈ W0 := W0_t (i := 26) (by decide +kernel) (by decide +kernel)
theorem wM_RX7_11 : Cond.methodLink RX7 11 yX1_init ∈ W0 := W0_t (i := 27) (by decide +kernel) (by decide +kernel)
theorem wI_yX1_init : Cond.instanceMethod yX1_init ∈ W0 := W0_t (i := 28) (by decide +kernel) (by decide +kernel)
set_option maxRecDepth 100000 in
theorem wC_yX1_init : Cond.code yX1_init prog_3_method_1_code 2 (Option.none : Option Jvm.ClassFile.FieldType) ∈ W0 := W0_t (i := 29) rfl rfl
theorem wM_RX1_3 : Cond.methodLink RX1 3 (⟨"java/lang/Object", "<init>", "()V"⟩ : MethodName) ∈ W0 := W0_t (i := 30) (by decide +kernel) (by decide +kernel)
theorem wL_RX1_9 : Cond.classLink RX1 9 "[[I" ∈ W0 := W0_t (i := 31) (by decide +kernel) (by decide +kernel)
theorem wF_RX1_11 : Cond.fieldLink RX1 11 "PondLenses$Fen" "ponds" "[[I" ∈ W0 := W0_t (i := 33) (by decide +kernel) (by decide +kernel)
theorem wF_RX7_80 : Cond.fieldLink RX7 80 "PondLenses$Fen" "ponds" "[[I" ∈ W0 := W0_t (i := 34) (by decide +kernel) (by decide +kernel)
theorem wF_RX0_24 : Cond.fieldLink RX0 24 "PondLenses$Fen" "ponds" "[[I" ∈ W0 := W0_t (i := 35) (by decide +kernel) (by decide +kernel)
theorem wF_RX5_82 : Cond.fieldLink RX5 82 "PondLenses$Fen" "ponds" "[[I" ∈ W0 := W0_t (i := 36) (by decide +kernel) (by decide +kernel)
theorem wF_RX1_16 : Cond.fieldLink RX1 16 "PondLenses$Fen" "things" "[[I" ∈ W0 := W0_t (i := 37) (by decide +kernel) (by decide +kernel)
theorem wF_RX2_15 : Cond.fieldLink RX2 15 "PondLenses$Fen" "things" "[[I" ∈ W0 := W0_t (i := 38) (by decide +kernel) (by decide +kernel)
theorem wF_RX7_106 : Cond.fieldLink RX7 106 "PondLenses$Fen" "things" "[[I" ∈ W0 := W0_t (i := 39) (by decide +kernel) (by decide +kernel)
theorem wF_RX1_19 : Cond.fieldLink RX1 19 "PondLenses$Fen" "spots" "[I" ∈ W0 := W0_t (i := 40) (by decide +kernel) (by decide +kernel)
theorem wF_RX7_246 : Cond.fieldLink RX7 246 "PondLenses$Fen" "spots" "[I" ∈ W0 := W0_t (i := 41) (by decide +kernel) (by decide +kernel)
theorem wF_RX1_23 : Cond.fieldLink RX1 23 "PondLenses$Fen" "size" "I" ∈ W0 := W0_t (i := 42) (by decide +kernel) (by decide +kernel)
theorem wF_RX2_45 : Cond.fieldLink RX2 45 "PondLenses$Fen" "size" "I" ∈ W0 := W0_t (i := 43) (by decide +kernel) (by decide +kernel)
theorem wF_RX7_290 : Cond.fieldLink RX7 290 "PondLenses$Fen" "size" "I" ∈ W0 := W0_t (i := 44) (by decide +kernel) (by decide +kernel)
theorem wF_RX1_27 : Cond.fieldLink RX1 27 "PondLenses$Fen" "rain" "I" ∈ W0 := W0_t (i := 45) (by decide +kernel) (by decide +kernel)
theorem wF_RX5_56 : Cond.fieldLink RX5 56 "PondLenses$Fen" "rain" "I" ∈ W0 := W0_t (i := 46) (by decide +kernel) (by decide +kernel)
theorem wF_RX7_116 : Cond.fieldLink RX7 116 "PondLenses$Fen" "rain" "I" ∈ W0 := W0_t (i := 47) (by decide +kernel) (by decide +kernel)
theorem wF_RX1_30 : Cond.fieldLink RX1 30 "PondLenses$Fen" "minute" "I" ∈ W0 := W0_t (i := 48) (by decide +kernel) (by decide +kernel)
theorem wF_RX7_120 : Cond.fieldLink RX7 120 "PondLenses$Fen" "minute" "I" ∈ W0 := W0_t (i := 49) (by decide +kernel) (by decide +kernel)
theorem wF_RX1_33 : Cond.fieldLink RX1 33 "PondLenses$Fen" "z" "I" ∈ W0 := W0_t (i := 50) (by decide +kernel) (by decide +kernel)
theorem wF_RX7_230 : Cond.fieldLink RX7 230 "PondLenses$Fen" "z" "I" ∈ W0 := W0_t (i := 51) (by decide +kernel) (by decide +kernel)
theorem wY_RX1_ponds : Cond.laysFinal "PondLenses$Fen" "PondLenses$Fen" "ponds" "[[I" ∈ W0 := W0_t (i := 52) (by decide +kernel) (by decide +kernel)
theorem wY_RX1_things : Cond.laysFinal "PondLenses$Fen" "PondLenses$Fen" "things" "[[I" ∈ W0 := W0_t (i := 54) (by decide +kernel) (by decide +kernel)
theorem wY_RX1_spots : Cond.laysFinal "PondLenses$Fen" "PondLenses$Fen" "spots" "[I" ∈ W0 := W0_t (i := 56) (by decide +kernel) (by decide +kernel)
theorem wY_RX1_size : Cond.lays "PondLenses$Fen" "PondLenses$Fen" "size" "I" ∈ W0 := W0_t (i := 58) (by decide +kernel) (by decide +kernel)
theorem wY_RX1_rain : Cond.lays "PondLenses$Fen" "PondLenses$Fen" "rain" "I" ∈ W0 := W0_t (i := 60) (by decide +kernel) (by decide +kernel)
theorem wY_RX1_minute : Cond.lays "PondLenses$Fen" "PondLenses$Fen" "minute" "I" ∈ W0 := W0_t (i := 62) (by decide +kernel) (by decide +kernel)
theorem wY_RX1_z : Cond.lays "PondLenses$Fen" "PondLenses$Fen" "z" "I" ∈ W0 := W0_t (i := 64) (by decide +kernel) (by decide +kernel)
theorem wL_RX7_26 : Cond.classLink RX7 26 RX0 ∈ W0 := W0_t (i := 68) (by decide +kernel) (by decide +kernel)
theorem wT_RX0 : Cond.instantiable RX0 4 ∈ W0 := W0_t (i := 69) (by decide +kernel) (by decide +kernel)
theorem wI_yX0_init : Cond.instanceMethod yX0_init ∈ W0 := W0_t (i := 71) (by decide +kernel) (by decide +kernel)
set_option maxRecDepth 100000 in
theorem wC_yX0_init : Cond.code yX0_init prog_2_method_1_code 1 (Option.none : Option Jvm.ClassFile.FieldType) ∈ W0 := W0_t (i := 72) rfl rfl
theorem wM_RX0_3 : Cond.methodLink RX0 3 (⟨"java/lang/Object", "<init>", "()V"⟩ : MethodName) ∈ W0 := W0_t (i := 73) (by decide +kernel) (by decide +kernel)
theorem wF_RX0_9 : Cond.fieldLink RX0 9 "PondLenses$Chain" "end" "I" ∈ W0 := W0_t (i := 74) (by decide +kernel) (by decide +kernel)
theorem wF_RX7_145 : Cond.fieldLink RX7 145 "PondLenses$Chain" "end" "I" ∈ W0 := W0_t (i := 75) (by decide +kernel) (by decide +kernel)
theorem wF_RX0_15 : Cond.fieldLink RX0 15 "PondLenses$Chain" "size" "I" ∈ W0 := W0_t (i := 76) (by decide +kernel) (by decide +kernel)
theorem wF_RX7_148 : Cond.fieldLink RX7 148 "PondLenses$Chain" "size" "I" ∈ W0 := W0_t (i := 77) (by decide +kernel) (by decide +kernel)
theorem wF_RX0_18 : Cond.fieldLink RX0 18 "PondLenses$Chain" "turned" "I" ∈ W0 := W0_t (i := 78) (by decide +kernel) (by decide +kernel)
theorem wF_RX7_151 : Cond.fieldLink RX7 151 "PondLenses$Chain" "turned" "I" ∈ W0 := W0_t (i := 79) (by decide +kernel) (by decide +kernel)
theorem wF_RX0_21 : Cond.fieldLink RX0 21 "PondLenses$Chain" "flipped" "I" ∈ W0 := W0_t (i := 80) (by decide +kernel) (by decide +kernel)
theorem wF_RX7_154 : Cond.fieldLink RX7 154 "PondLenses$Chain" "flipped" "I" ∈ W0 := W0_t (i := 81) (by decide +kernel) (by decide +kernel)
theorem wY_RX0_end : Cond.lays "PondLenses$Chain" "PondLenses$Chain" "end" "I" ∈ W0 := W0_t (i := 82) (by decide +kernel) (by decide +kernel)
theorem wY_RX0_size : Cond.lays "PondLenses$Chain" "PondLenses$Chain" "size" "I" ∈ W0 := W0_t (i := 84) (by decide +kernel) (by decide +kernel)
theorem wY_RX0_turned : Cond.lays "PondLenses$Chain" "PondLenses$Chain" "turned" "I" ∈ W0 := W0_t (i := 86) (by decide +kernel) (by decide +kernel)
theorem wY_RX0_flipped : Cond.lays "PondLenses$Chain" "PondLenses$Chain" "flipped" "I" ∈ W0 := W0_t (i := 88) (by decide +kernel) (by decide +kernel)
theorem wL_RX7_33 : Cond.classLink RX7 33 RX2 ∈ W0 := W0_t (i := 91) (by decide +kernel) (by decide +kernel)
theorem wT_RX2 : Cond.instantiable RX2 1 ∈ W0 := W0_t (i := 92) (by decide +kernel) (by decide +kernel)
theorem wI_yX2_init : Cond.instanceMethod yX2_init ∈ W0 := W0_t (i := 94) (by decide +kernel) (by decide +kernel)
set_option maxRecDepth 100000 in
theorem wC_yX2_init : Cond.code yX2_init prog_4_method_1_code 1 (Option.none : Option Jvm.ClassFile.FieldType) ∈ W0 := W0_t (i := 95) rfl rfl
theorem wM_RX2_3 : Cond.methodLink RX2 3 (⟨"java/lang/Object", "<init>", "()V"⟩ : MethodName) ∈ W0 := W0_t (i := 96) (by decide +kernel) (by decide +kernel)
theorem wF_RX2_9 : Cond.fieldLink RX2 9 "PondLenses$Foresight" "tally" "[I" ∈ W0 := W0_t (i := 97) (by decide +kernel) (by decide +kernel)
theorem wY_RX2_tally : Cond.laysFinal "PondLenses$Foresight" "PondLenses$Foresight" "tally" "[I" ∈ W0 := W0_t (i := 98) (by decide +kernel) (by decide +kernel)
theorem wL_RX7_40 : Cond.classLink RX7 40 RX4 ∈ W0 := W0_t (i := 101) (by decide +kernel) (by decide +kernel)
theorem wT_RX4 : Cond.instantiable RX4 2 ∈ W0 := W0_t (i := 102) (by decide +kernel) (by decide +kernel)
theorem wI_yX4_init : Cond.instanceMethod yX4_init ∈ W0 := W0_t (i := 104) (by decide +kernel) (by decide +kernel)
set_option maxRecDepth 100000 in
theorem wC_yX4_init : Cond.code yX4_init prog_6_method_1_code 1 (Option.none : Option Jvm.ClassFile.FieldType) ∈ W0 := W0_t (i := 105) rfl rfl
theorem wM_RX4_3 : Cond.methodLink RX4 3 (⟨"java/lang/Object", "<init>", "()V"⟩ : MethodName) ∈ W0 := W0_t (i := 106) (by decide +kernel) (by decide +kernel)
theorem wF_RX4_9 : Cond.fieldLink RX4 9 "PondLenses$Tape" "bytes" "[I" ∈ W0 := W0_t (i := 107) (by decide +kernel) (by decide +kernel)
theorem wF_RX4_15 : Cond.fieldLink RX4 15 "PondLenses$Tape" "length" "I" ∈ W0 := W0_t (i := 108) (by decide +kernel) (by decide +kernel)
theorem wF_RX6_25 : Cond.fieldLink RX6 25 "PondLenses$Tape" "length" "I" ∈ W0 := W0_t (i := 109) (by decide +kernel) (by decide +kernel)
theorem wF_RX7_233 : Cond.fieldLink RX7 233 "PondLenses$Tape" "length" "I" ∈ W0 := W0_t (i := 110) (by decide +kernel) (by decide +kernel)
theorem wY_RX4_bytes : Cond.laysFinal "PondLenses$Tape" "PondLenses$Tape" "bytes" "[I" ∈ W0 := W0_t (i := 111) (by decide +kernel) (by decide +kernel)
theorem wY_RX4_length : Cond.lays "PondLenses$Tape" "PondLenses$Tape" "length" "I" ∈ W0 := W0_t (i := 113) (by decide +kernel) (by decide +kernel)
theorem wL_RX7_47 : Cond.classLink RX7 47 RX5 ∈ W0 := W0_t (i := 116) (by decide +kernel) (by decide +kernel)
theorem wT_RX5 : Cond.instantiable RX5 2 ∈ W0 := W0_t (i := 117) (by decide +kernel) (by decide +kernel)
theorem wI_yX5_init : Cond.instanceMethod yX5_init ∈ W0 := W0_t (i := 119) (by decide +kernel) (by decide +kernel)
set_option maxRecDepth 100000 in
theorem wC_yX5_init : Cond.code yX5_init prog_7_method_1_code 1 (Option.none : Option Jvm.ClassFile.FieldType) ∈ W0 := W0_t (i := 120) rfl rfl
theorem wM_RX5_3 : Cond.methodLink RX5 3 (⟨"java/lang/Object", "<init>", "()V"⟩ : MethodName) ∈ W0 := W0_t (i := 121) (by decide +kernel) (by decide +kernel)
theorem wL_RX5_9 : Cond.classLink RX5 9 RX6 ∈ W0 := W0_t (i := 122) (by decide +kernel) (by decide +kernel)
theorem wT_RX6 : Cond.instantiable RX6 4 ∈ W0 := W0_t (i := 123) (by decide +kernel) (by decide +kernel)
theorem wI_yX6_init : Cond.instanceMethod yX6_init ∈ W0 := W0_t (i := 125) (by decide +kernel) (by decide +kernel)
set_option maxRecDepth 100000 in
theorem wC_yX6_init : Cond.code yX6_init prog_8_method_1_code 1 (Option.none : Option Jvm.ClassFile.FieldType) ∈ W0 := W0_t (i := 126) rfl rfl
theorem wM_RX6_5 : Cond.methodLink RX6 5 (⟨"java/lang/Object", "<init>", "()V"⟩ : MethodName) ∈ W0 := W0_t (i := 127) (by decide +kernel) (by decide +kernel)
theorem wF_RX6_11 : Cond.fieldLink RX6 11 "PondLenses$Tokens" "sorts" "[I" ∈ W0 := W0_t (i := 128) (by decide +kernel) (by decide +kernel)
theorem wF_RX6_15 : Cond.fieldLink RX6 15 "PondLenses$Tokens" "begins" "[I" ∈ W0 := W0_t (i := 129) (by decide +kernel) (by decide +kernel)
theorem wF_RX6_18 : Cond.fieldLink RX6 18 "PondLenses$Tokens" "values" "[I" ∈ W0 := W0_t (i := 130) (by decide +kernel) (by decide +kernel)
theorem wF_RX6_21 : Cond.fieldLink RX6 21 "PondLenses$Tokens" "at" "I" ∈ W0 := W0_t (i := 131) (by decide +kernel) (by decide +kernel)
theorem wY_RX6_sorts : Cond.laysFinal "PondLenses$Tokens" "PondLenses$Tokens" "sorts" "[I" ∈ W0 := W0_t (i := 132) (by decide +kernel) (by decide +kernel)
theorem wY_RX6_begins : Cond.laysFinal "PondLenses$Tokens" "PondLenses$Tokens" "begins" "[I" ∈ W0 := W0_t (i := 134) (by decide +kernel) (by decide +kernel)
theorem wY_RX6_values : Cond.laysFinal "PondLenses$Tokens" "PondLenses$Tokens" "values" "[I" ∈ W0 := W0_t (i := 136) (by decide +kernel) (by decide +kernel)
theorem wY_RX6_at : Cond.lays "PondLenses$Tokens" "PondLenses$Tokens" "at" "I" ∈ W0 := W0_t (i := 138) (by decide +kernel) (by decide +kernel)
theorem wF_RX5_12 : Cond.fieldLink RX5 12 "PondLenses$TextReader" "tokens" "LPondLenses$Tokens;" ∈ W0 := W0_t (i := 141) (by decide +kernel) (by decide +kernel)
theorem wF_RX5_18 : Cond.fieldLink RX5 18 "PondLenses$TextReader" "fault" "I" ∈ W0 := W0_t (i := 142) (by decide +kernel) (by decide +kernel)
theorem wY_RX5_tokens : Cond.laysFinal "PondLenses$TextReader" "PondLenses$TextReader" "tokens" "LPondLenses$Tokens;" ∈ W0 := W0_t (i := 143) (by decide +kernel) (by decide +kernel)
theorem wY_RX5_fault : Cond.lays "PondLenses$TextReader" "PondLenses$TextReader" "fault" "I" ∈ W0 := W0_t (i := 145) (by decide +kernel) (by decide +kernel)
theorem wL_RX7_54 : Cond.classLink RX7 54 RX3 ∈ W0 := W0_t (i := 148) (by decide +kernel) (by decide +kernel)
theorem wT_RX3 : Cond.instantiable RX3 3 ∈ W0 := W0_t (i := 150) (by decide +kernel) (by decide +kernel)
theorem wI_yX3_init : Cond.instanceMethod yX3_init ∈ W0 := W0_t (i := 152) (by decide +kernel) (by decide +kernel)
set_option maxRecDepth 100000 in
theorem wC_yX3_init : Cond.code yX3_init prog_5_method_1_code 1 (Option.none : Option Jvm.ClassFile.FieldType) ∈ W0 := W0_t (i := 153) rfl rfl
theorem wM_RX3_3 : Cond.methodLink RX3 3 (⟨"java/lang/Object", "<init>", "()V"⟩ : MethodName) ∈ W0 := W0_t (i := 154) (by decide +kernel) (by decide +kernel)
theorem wF_RX3_9 : Cond.fieldLink RX3 9 "PondLenses$Sheet" "numbers" "[I" ∈ W0 := W0_t (i := 155) (by decide +kernel) (by decide +kernel)
theorem wF_RX2_38 : Cond.fieldLink RX2 38 "PondLenses$Sheet" "numbers" "[I" ∈ W0 := W0_t (i := 156) (by decide +kernel) (by decide +kernel)
theorem wF_RX7_278 : Cond.fieldLink RX7 278 "PondLenses$Sheet" "numbers" "[I" ∈ W0 := W0_t (i := 157) (by decide +kernel) (by decide +kernel)
theorem wF_RX3_15 : Cond.fieldLink RX3 15 "PondLenses$Sheet" "bits" "I" ∈ W0 := W0_t (i := 158) (by decide +kernel) (by decide +kernel)
theorem wF_RX7_272 : Cond.fieldLink RX7 272 "PondLenses$Sheet" "bits" "I" ∈ W0 := W0_t (i := 159) (by decide +kernel) (by decide +kernel)
theorem wF_RX3_19 : Cond.fieldLink RX3 19 "PondLenses$Sheet" "length" "I" ∈ W0 := W0_t (i := 160) (by decide +kernel) (by decide +kernel)
theorem wF_RX2_32 : Cond.fieldLink RX2 32 "PondLenses$Sheet" "length" "I" ∈ W0 := W0_t (i := 161) (by decide +kernel) (by decide +kernel)
theorem wF_RX7_265 : Cond.fieldLink RX7 265 "PondLenses$Sheet" "length" "I" ∈ W0 := W0_t (i := 162) (by decide +kernel) (by decide +kernel)
theorem wY_RX3_numbers : Cond.laysFinal "PondLenses$Sheet" "PondLenses$Sheet" "numbers" "[I" ∈ W0 := W0_t (i := 163) (by decide +kernel) (by decide +kernel)
theorem wY_RX3_bits : Cond.lays "PondLenses$Sheet" "PondLenses$Sheet" "bits" "I" ∈ W0 := W0_t (i := 165) (by decide +kernel) (by decide +kernel)
theorem wY_RX3_length : Cond.lays "PondLenses$Sheet" "PondLenses$Sheet" "length" "I" ∈ W0 := W0_t (i := 167) (by decide +kernel) (by decide +kernel)
theorem wF_RX7_12 : Cond.fieldLink RX7 12 "PondLenses" "fen" "LPondLenses$Fen;" ∈ W0 := W0_t (i := 170) (by decide +kernel) (by decide +kernel)
theorem wF_RX7_16 : Cond.fieldLink RX7 16 "PondLenses" "draft" "LPondLenses$Fen;" ∈ W0 := W0_t (i := 171) (by decide +kernel) (by decide +kernel)
theorem wF_RX7_19 : Cond.fieldLink RX7 19 "PondLenses" "kept" "LPondLenses$Fen;" ∈ W0 := W0_t (i := 172) (by decide +kernel) (by decide +kernel)
theorem wF_RX7_22 : Cond.fieldLink RX7 22 "PondLenses" "keeps" "Z" ∈ W0 := W0_t (i := 173) (by decide +kernel) (by decide +kernel)
theorem wF_RX7_29 : Cond.fieldLink RX7 29 "PondLenses" "walk" "LPondLenses$Chain;" ∈ W0 := W0_t (i := 174) (by decide +kernel) (by decide +kernel)
theorem wF_RX7_36 : Cond.fieldLink RX7 36 "PondLenses" "foresight" "LPondLenses$Foresight;" ∈ W0 := W0_t (i := 175) (by decide +kernel) (by decide +kernel)
theorem wF_RX7_43 : Cond.fieldLink RX7 43 "PondLenses" "tape" "LPondLenses$Tape;" ∈ W0 := W0_t (i := 176) (by decide +kernel) (by decide +kernel)
theorem wF_RX7_50 : Cond.fieldLink RX7 50 "PondLenses" "reader" "LPondLenses$TextReader;" ∈ W0 := W0_t (i := 177) (by decide +kernel) (by decide +kernel)
theorem wF_RX7_57 : Cond.fieldLink RX7 57 "PondLenses" "sheets" "[LPondLenses$Sheet;" ∈ W0 := W0_t (i := 178) (by decide +kernel) (by decide +kernel)
theorem wF_RX7_61 : Cond.fieldLink RX7 61 "PondLenses" "found" "[I" ∈ W0 := W0_t (i := 179) (by decide +kernel) (by decide +kernel)
theorem wY_RX7_fen : Cond.laysFinal "PondLenses" "PondLenses" "fen" "LPondLenses$Fen;" ∈ W0 := W0_t (i := 180) (by decide +kernel) (by decide +kernel)
theorem wY_RX7_draft : Cond.laysFinal "PondLenses" "PondLenses" "draft" "LPondLenses$Fen;" ∈ W0 := W0_t (i := 182) (by decide +kernel) (by decide +kernel)
theorem wY_RX7_kept : Cond.laysFinal "PondLenses" "PondLenses" "kept" "LPondLenses$Fen;" ∈ W0 := W0_t (i := 184) (by decide +kernel) (by decide +kernel)
theorem wY_RX7_keeps : Cond.lays "PondLenses" "PondLenses" "keeps" "Z" ∈ W0 := W0_t (i := 186) (by decide +kernel) (by decide +kernel)
theorem wY_RX7_walk : Cond.laysFinal "PondLenses" "PondLenses" "walk" "LPondLenses$Chain;" ∈ W0 := W0_t (i := 188) (by decide +kernel) (by decide +kernel)
theorem wY_RX7_foresight : Cond.laysFinal "PondLenses" "PondLenses" "foresight" "LPondLenses$Foresight;" ∈ W0 := W0_t (i := 190) (by decide +kernel) (by decide +kernel)
theorem wY_RX7_tape : Cond.laysFinal "PondLenses" "PondLenses" "tape" "LPondLenses$Tape;" ∈ W0 := W0_t (i := 192) (by decide +kernel) (by decide +kernel)
theorem wY_RX7_reader : Cond.laysFinal "PondLenses" "PondLenses" "reader" "LPondLenses$TextReader;" ∈ W0 := W0_t (i := 194) (by decide +kernel) (by decide +kernel)
theorem wY_RX7_sheets : Cond.laysFinal "PondLenses" "PondLenses" "sheets" "[LPondLenses$Sheet;" ∈ W0 := W0_t (i := 196) (by decide +kernel) (by decide +kernel)
theorem wY_RX7_found : Cond.laysFinal "PondLenses" "PondLenses" "found" "[I" ∈ W0 := W0_t (i := 198) (by decide +kernel) (by decide +kernel)
theorem wM_RL_13 : Cond.methodLink RL 13 yX7_pond ∈ W0 := W0_t (i := 201) (by decide +kernel) (by decide +kernel)
theorem wI_yX7_pond : Cond.instanceMethod yX7_pond ∈ W0 := W0_t (i := 202) (by decide +kernel) (by decide +kernel)
theorem wE_yX7_pond : Cond.selects RX7 yX7_pond yX7_pond ∈ W0 := W0_t (i := 203) (by decide +kernel) (by decide +kernel)
set_option maxRecDepth 100000 in
theorem wC_yX7_pond : Cond.code yX7_pond prog_1_method_2_code 3 (Option.some Jvm.ClassFile.FieldType.int) ∈ W0 := W0_t (i := 204) rfl rfl
theorem wM_RX7_65 : Cond.methodLink RX7 65 yX7_isPond ∈ W0 := W0_t (i := 205) (by decide +kernel) (by decide +kernel)
theorem wS_yX7_isPond : Cond.static yX7_isPond ∈ W0 := W0_t (i := 206) (by decide +kernel) (by decide +kernel)
set_option maxRecDepth 100000 in
theorem wC_yX7_isPond : Cond.code yX7_isPond prog_1_method_53_code 1 (Option.some Jvm.ClassFile.FieldType.boolean) ∈ W0 := W0_t (i := 207) rfl rfl
theorem wK_RX7_69 : Cond.constant RX7 69 (-1000001) ∈ W0 := W0_t (i := 208) (by decide +kernel) (by decide +kernel)
theorem wM_RX7_70 : Cond.methodLink RX7 70 yX7_finding ∈ W0 := W0_t (i := 209) (by decide +kernel) (by decide +kernel)
theorem wI_yX7_finding : Cond.instanceMethod yX7_finding ∈ W0 := W0_t (i := 211) (by decide +kernel) (by decide +kernel)
set_option maxRecDepth 100000 in
theorem wC_yX7_finding : Cond.code yX7_finding prog_1_method_48_code 3 (Option.some Jvm.ClassFile.FieldType.int) ∈ W0 := W0_t (i := 212) rfl rfl
theorem wM_RX7_74 : Cond.methodLink RX7 74 yX1_thingsIn ∈ W0 := W0_t (i := 213) (by decide +kernel) (by decide +kernel)
theorem wI_yX1_thingsIn : Cond.instanceMethod yX1_thingsIn ∈ W0 := W0_t (i := 214) (by decide +kernel) (by decide +kernel)
theorem wE_yX1_thingsIn : Cond.selects RX1 yX1_thingsIn yX1_thingsIn ∈ W0 := W0_t (i := 215) (by decide +kernel) (by decide +kernel)
set_option maxRecDepth 100000 in
theorem wC_yX1_thingsIn : Cond.code yX1_thingsIn prog_3_method_7_code 4 (Option.some Jvm.ClassFile.FieldType.int) ∈ W0 := W0_t (i := 216) rfl rfl
theorem wM_RX7_77 : Cond.methodLink RX7 77 yX1_thingsSeenIn ∈ W0 := W0_t (i := 217) (by decide +kernel) (by decide +kernel)
theorem wI_yX1_thingsSeenIn : Cond.instanceMethod yX1_thingsSeenIn ∈ W0 := W0_t (i := 218) (by decide +kernel) (by decide +kernel)
theorem wE_yX1_thingsSeenIn : Cond.selects RX1 yX1_thingsSeenIn yX1_thingsSeenIn ∈ W0 := W0_t (i := 219) (by decide +kernel) (by decide +kernel)
set_option maxRecDepth 100000 in
theorem wC_yX1_thingsSeenIn : Cond.code yX1_thingsSeenIn prog_3_method_8_code 2 (Option.some Jvm.ClassFile.FieldType.int) ∈ W0 := W0_t (i := 220) rfl rfl
theorem wM_RX1_45 : Cond.methodLink RX1 45 yX1_thingsIn ∈ W0 := W0_t (i := 221) (by decide +kernel) (by decide +kernel)
theorem wM_RL_18 : Cond.methodLink RL 18 yX7_dig ∈ W0 := W0_t (i := 222) (by decide +kernel) (by decide +kernel)
theorem wI_yX7_dig : Cond.instanceMethod yX7_dig ∈ W0 := W0_t (i := 223) (by decide +kernel) (by decide +kernel)
theorem wE_yX7_dig : Cond.selects RX7 yX7_dig yX7_dig ∈ W0 := W0_t (i := 224) (by decide +kernel) (by decide +kernel)
set_option maxRecDepth 100000 in
theorem wC_yX7_dig : Cond.code yX7_dig prog_1_method_3_code 5 (Option.some Jvm.ClassFile.FieldType.int) ∈ W0 := W0_t (i := 225) rfl rfl
theorem wM_RX7_84 : Cond.methodLink RX7 84 yX7_fitsPond ∈ W0 := W0_t (i := 226) (by decide +kernel) (by decide +kernel)
theorem wS_yX7_fitsPond : Cond.static yX7_fitsPond ∈ W0 := W0_t (i := 227) (by decide +kernel) (by decide +kernel)
set_option maxRecDepth 100000 in
theorem wC_yX7_fitsPond : Cond.code yX7_fitsPond prog_1_method_59_code 3 (Option.some Jvm.ClassFile.FieldType.boolean) ∈ W0 := W0_t (i := 228) rfl rfl
theorem wF_RX7_298 : Cond.fieldLink RX7 298 "PondLenses" "POND_LEAST" "[I" ∈ W0 := W0_t (i := 229) (by decide +kernel) (by decide +kernel)
theorem wF_RX7_301 : Cond.fieldLink RX7 301 "PondLenses" "POND_MOST" "[I" ∈ W0 := W0_t (i := 231) (by decide +kernel) (by decide +kernel)
theorem wM_RL_23 : Cond.methodLink RL 23 yX7_thing ∈ W0 := W0_t (i := 233) (by decide +kernel) (by decide +kernel)
theorem wI_yX7_thing : Cond.instanceMethod yX7_thing ∈ W0 := W0_t (i := 234) (by decide +kernel) (by decide +kernel)
theorem wE_yX7_thing : Cond.selects RX7 yX7_thing yX7_thing ∈ W0 := W0_t (i := 235) (by decide +kernel) (by decide +kernel)
set_option maxRecDepth 100000 in
theorem wC_yX7_thing : Cond.code yX7_thing prog_1_method_4_code 3 (Option.some Jvm.ClassFile.FieldType.int) ∈ W0 := W0_t (i := 236) rfl rfl
theorem wM_RX7_88 : Cond.methodLink RX7 88 yX7_isKind ∈ W0 := W0_t (i := 237) (by decide +kernel) (by decide +kernel)
theorem wS_yX7_isKind : Cond.static yX7_isKind ∈ W0 := W0_t (i := 238) (by decide +kernel) (by decide +kernel)
set_option maxRecDepth 100000 in
theorem wC_yX7_isKind : Cond.code yX7_isKind prog_1_method_54_code 1 (Option.some Jvm.ClassFile.FieldType.boolean) ∈ W0 := W0_t (i := 239) rfl rfl
theorem wM_RX7_91 : Cond.methodLink RX7 91 yX1_isFull ∈ W0 := W0_t (i := 240) (by decide +kernel) (by decide +kernel)
theorem wI_yX1_isFull : Cond.instanceMethod yX1_isFull ∈ W0 := W0_t (i := 241) (by decide +kernel) (by decide +kernel)
theorem wE_yX1_isFull : Cond.selects RX1 yX1_isFull yX1_isFull ∈ W0 := W0_t (i := 242) (by decide +kernel) (by decide +kernel)
set_option maxRecDepth 100000 in
theorem wC_yX1_isFull : Cond.code yX1_isFull prog_3_method_4_code 1 (Option.some Jvm.ClassFile.FieldType.boolean) ∈ W0 := W0_t (i := 243) rfl rfl
theorem wK_RX7_95 : Cond.constant RX7 95 (-1000002) ∈ W0 := W0_t (i := 244) (by decide +kernel) (by decide +kernel)
theorem wM_RX7_96 : Cond.methodLink RX7 96 yX1_add ∈ W0 := W0_t (i := 245) (by decide +kernel) (by decide +kernel)
theorem wI_yX1_add : Cond.instanceMethod yX1_add ∈ W0 := W0_t (i := 246) (by decide +kernel) (by decide +kernel)
theorem wE_yX1_add : Cond.selects RX1 yX1_add yX1_add ∈ W0 := W0_t (i := 247) (by decide +kernel) (by decide +kernel)
set_option maxRecDepth 100000 in
theorem wC_yX1_add : Cond.code yX1_add prog_3_method_5_code 5 (Option.some Jvm.ClassFile.FieldType.int) ∈ W0 := W0_t (i := 248) rfl rfl
theorem wM_RL_27 : Cond.methodLink RL 27 yX7_of ∈ W0 := W0_t (i := 249) (by decide +kernel) (by decide +kernel)
theorem wI_yX7_of : Cond.instanceMethod yX7_of ∈ W0 := W0_t (i := 250) (by decide +kernel) (by decide +kernel)
theorem wE_yX7_of : Cond.selects RX7 yX7_of yX7_of ∈ W0 := W0_t (i := 251) (by decide +kernel) (by decide +kernel)
set_option maxRecDepth 100000 in
theorem wC_yX7_of : Cond.code yX7_of prog_1_method_5_code 3 (Option.some Jvm.ClassFile.FieldType.int) ∈ W0 := W0_t (i := 252) rfl rfl
theorem wM_RX7_100 : Cond.methodLink RX7 100 yX1_has ∈ W0 := W0_t (i := 253) (by decide +kernel) (by decide +kernel)
theorem wI_yX1_has : Cond.instanceMethod yX1_has ∈ W0 := W0_t (i := 254) (by decide +kernel) (by decide +kernel)
theorem wE_yX1_has : Cond.selects RX1 yX1_has yX1_has ∈ W0 := W0_t (i := 255) (by decide +kernel) (by decide +kernel)
set_option maxRecDepth 100000 in
theorem wC_yX1_has : Cond.code yX1_has prog_3_method_3_code 2 (Option.some Jvm.ClassFile.FieldType.boolean) ∈ W0 := W0_t (i := 256) rfl rfl
theorem wM_RX7_103 : Cond.methodLink RX7 103 yX1_nextPond ∈ W0 := W0_t (i := 257) (by decide +kernel) (by decide +kernel)
theorem wI_yX1_nextPond : Cond.instanceMethod yX1_nextPond ∈ W0 := W0_t (i := 258) (by decide +kernel) (by decide +kernel)
theorem wE_yX1_nextPond : Cond.selects RX1 yX1_nextPond yX1_nextPond ∈ W0 := W0_t (i := 259) (by decide +kernel) (by decide +kernel)
set_option maxRecDepth 100000 in
theorem wC_yX1_nextPond : Cond.code yX1_nextPond prog_3_method_15_code 4 (Option.some Jvm.ClassFile.FieldType.int) ∈ W0 := W0_t (i := 260) rfl rfl
theorem wM_RX1_63 : Cond.methodLink RX1 63 yX1_nextOfFrog ∈ W0 := W0_t (i := 261) (by decide +kernel) (by decide +kernel)
theorem wI_yX1_nextOfFrog : Cond.instanceMethod yX1_nextOfFrog ∈ W0 := W0_t (i := 263) (by decide +kernel) (by decide +kernel)
set_option maxRecDepth 100000 in
theorem wC_yX1_nextOfFrog : Cond.code yX1_nextOfFrog prog_3_method_16_code 2 (Option.some Jvm.ClassFile.FieldType.int) ∈ W0 := W0_t (i := 264) rfl rfl
theorem wM_RX1_66 : Cond.methodLink RX1 66 yX1_nextOfHeron ∈ W0 := W0_t (i := 265) (by decide +kernel) (by decide +kernel)
theorem wI_yX1_nextOfHeron : Cond.instanceMethod yX1_nextOfHeron ∈ W0 := W0_t (i := 267) (by decide +kernel) (by decide +kernel)
set_option maxRecDepth 100000 in
theorem wC_yX1_nextOfHeron : Cond.code yX1_nextOfHeron prog_3_method_17_code 3 (Option.some Jvm.ClassFile.FieldType.int) ∈ W0 := W0_t (i := 268) rfl rfl
theorem wM_RX1_72 : Cond.methodLink RX1 72 yX1_hasFishIn ∈ W0 := W0_t (i := 269) (by decide +kernel) (by decide +kernel)
theorem wI_yX1_hasFishIn : Cond.instanceMethod yX1_hasFishIn ∈ W0 := W0_t (i := 271) (by decide +kernel) (by decide +kernel)
set_option maxRecDepth 100000 in
theorem wC_yX1_hasFishIn : Cond.code yX1_hasFishIn prog_3_method_19_code 4 (Option.some Jvm.ClassFile.FieldType.boolean) ∈ W0 := W0_t (i := 272) rfl rfl
theorem wM_RX1_69 : Cond.methodLink RX1 69 yX1_nextOfPike ∈ W0 := W0_t (i := 275) (by decide +kernel) (by decide +kernel)
theorem wI_yX1_nextOfPike : Cond.instanceMethod yX1_nextOfPike ∈ W0 := W0_t (i := 277) (by decide +kernel) (by decide +kernel)
set_option maxRecDepth 100000 in
theorem wC_yX1_nextOfPike : Cond.code yX1_nextOfPike prog_3_method_18_code 3 (Option.some Jvm.ClassFile.FieldType.int) ∈ W0 := W0_t (i := 278) rfl rfl
theorem wM_RX7_109 : Cond.methodLink RX7 109 yX1_showersOf ∈ W0 := W0_t (i := 279) (by decide +kernel) (by decide +kernel)
theorem wI_yX1_showersOf : Cond.instanceMethod yX1_showersOf ∈ W0 := W0_t (i := 280) (by decide +kernel) (by decide +kernel)
theorem wE_yX1_showersOf : Cond.selects RX1 yX1_showersOf yX1_showersOf ∈ W0 := W0_t (i := 281) (by decide +kernel) (by decide +kernel)
set_option maxRecDepth 100000 in
theorem wC_yX1_showersOf : Cond.code yX1_showersOf prog_3_method_9_code 4 (Option.some Jvm.ClassFile.FieldType.int) ∈ W0 := W0_t (i := 282) rfl rfl
theorem wM_RL_31 : Cond.methodLink RL 31 yX7_change ∈ W0 := W0_t (i := 283) (by decide +kernel) (by decide +kernel)
theorem wI_yX7_change : Cond.instanceMethod yX7_change ∈ W0 := W0_t (i := 284) (by decide +kernel) (by decide +kernel)
theorem wE_yX7_change : Cond.selects RX7 yX7_change yX7_change ∈ W0 := W0_t (i := 285) (by decide +kernel) (by decide +kernel)
set_option maxRecDepth 100000 in
theorem wC_yX7_change : Cond.code yX7_change prog_1_method_6_code 5 (Option.some Jvm.ClassFile.FieldType.int) ∈ W0 := W0_t (i := 286) rfl rfl
theorem wM_RX7_112 : Cond.methodLink RX7 112 yX7_fitsThing ∈ W0 := W0_t (i := 287) (by decide +kernel) (by decide +kernel)
theorem wS_yX7_fitsThing : Cond.static yX7_fitsThing ∈ W0 := W0_t (i := 288) (by decide +kernel) (by decide +kernel)
set_option maxRecDepth 100000 in
theorem wC_yX7_fitsThing : Cond.code yX7_fitsThing prog_1_method_60_code 2 (Option.some Jvm.ClassFile.FieldType.boolean) ∈ W0 := W0_t (i := 289) rfl rfl
theorem wF_RX7_304 : Cond.fieldLink RX7 304 "PondLenses" "THING_LEAST" "[I" ∈ W0 := W0_t (i := 290) (by decide +kernel) (by decide +kernel)
theorem wF_RX7_307 : Cond.fieldLink RX7 307 "PondLenses" "THING_MOST" "[I" ∈ W0 := W0_t (i := 292) (by decide +kernel) (by decide +kernel)
theorem wM_RL_35 : Cond.methodLink RL 35 yX7_rain ∈ W0 := W0_t (i := 294) (by decide +kernel) (by decide +kernel)
theorem wI_yX7_rain : Cond.instanceMethod yX7_rain ∈ W0 := W0_t (i := 295) (by decide +kernel) (by decide +kernel)
theorem wE_yX7_rain : Cond.selects RX7 yX7_rain yX7_rain ∈ W0 := W0_t (i := 296) (by decide +kernel) (by decide +kernel)
set_option maxRecDepth 100000 in
theorem wC_yX7_rain : Cond.code yX7_rain prog_1_method_7_code 3 (Option.some Jvm.ClassFile.FieldType.int) ∈ W0 := W0_t (i := 297) rfl rfl
theorem wM_RL_40 : Cond.methodLink RL 40 yX7_go ∈ W0 := W0_t (i := 298) (by decide +kernel) (by decide +kernel)
theorem wI_yX7_go : Cond.instanceMethod yX7_go ∈ W0 := W0_t (i := 299) (by decide +kernel) (by decide +kernel)
theorem wE_yX7_go : Cond.selects RX7 yX7_go yX7_go ∈ W0 := W0_t (i := 300) (by decide +kernel) (by decide +kernel)
set_option maxRecDepth 100000 in
theorem wC_yX7_go : Cond.code yX7_go prog_1_method_8_code 3 (Option.some Jvm.ClassFile.FieldType.int) ∈ W0 := W0_t (i := 301) rfl rfl
theorem wK_RX7_123 : Cond.constant RX7 123 (99999) ∈ W0 := W0_t (i := 302) (by decide +kernel) (by decide +kernel)
theorem wK_RX7_124 : Cond.constant RX7 124 (-1000005) ∈ W0 := W0_t (i := 303) (by decide +kernel) (by decide +kernel)
theorem wM_RX7_125 : Cond.methodLink RX7 125 yX1_passMinute ∈ W0 := W0_t (i := 304) (by decide +kernel) (by decide +kernel)
theorem wI_yX1_passMinute : Cond.instanceMethod yX1_passMinute ∈ W0 := W0_t (i := 305) (by decide +kernel) (by decide +kernel)
theorem wE_yX1_passMinute : Cond.selects RX1 yX1_passMinute yX1_passMinute ∈ W0 := W0_t (i := 306) (by decide +kernel) (by decide +kernel)
set_option maxRecDepth 100000 in
theorem wC_yX1_passMinute : Cond.code yX1_passMinute prog_3_method_14_code 2 (Option.none : Option Jvm.ClassFile.FieldType) ∈ W0 := W0_t (i := 307) rfl rfl
theorem wM_RX1_53 : Cond.methodLink RX1 53 yX1_nextPond ∈ W0 := W0_t (i := 308) (by decide +kernel) (by decide +kernel)
theorem wK_RX1_56 : Cond.constant RX1 56 (99999) ∈ W0 := W0_t (i := 309) (by decide +kernel) (by decide +kernel)
theorem wM_RX1_57 : Cond.methodLink RX1 57 yJ9_min_7cf53 ∈ W0 := W0_t (i := 310) (by decide +kernel) (by decide +kernel)
theorem wS_yJ9_min_7cf53 : Cond.static yJ9_min_7cf53 ∈ W0 := W0_t (i := 311) (by decide +kernel) (by decide +kernel)
set_option maxRecDepth 100000 in
theorem wC_yJ9_min_7cf53 : Cond.code yJ9_min_7cf53 prog_12_method_69_code 2 (Option.some Jvm.ClassFile.FieldType.int) ∈ W0 := W0_t (i := 312) rfl rfl
theorem wM_RL_44 : Cond.methodLink RL 44 yX7_now ∈ W0 := W0_t (i := 313) (by decide +kernel) (by decide +kernel)
theorem wI_yX7_now : Cond.instanceMethod yX7_now ∈ W0 := W0_t (i := 314) (by decide +kernel) (by decide +kernel)
theorem wE_yX7_now : Cond.selects RX7 yX7_now yX7_now ∈ W0 := W0_t (i := 315) (by decide +kernel) (by decide +kernel)
set_option maxRecDepth 100000 in
theorem wC_yX7_now : Cond.code yX7_now prog_1_method_9_code 2 (Option.some Jvm.ClassFile.FieldType.int) ∈ W0 := W0_t (i := 316) rfl rfl
theorem wM_RX7_128 : Cond.methodLink RX7 128 yX1_pondsWithThings ∈ W0 := W0_t (i := 317) (by decide +kernel) (by decide +kernel)
theorem wI_yX1_pondsWithThings : Cond.instanceMethod yX1_pondsWithThings ∈ W0 := W0_t (i := 318) (by decide +kernel) (by decide +kernel)
theorem wE_yX1_pondsWithThings : Cond.selects RX1 yX1_pondsWithThings yX1_pondsWithThings ∈ W0 := W0_t (i := 319) (by decide +kernel) (by decide +kernel)
set_option maxRecDepth 100000 in
theorem wC_yX1_pondsWithThings : Cond.code yX1_pondsWithThings prog_3_method_10_code 3 (Option.some Jvm.ClassFile.FieldType.int) ∈ W0 := W0_t (i := 320) rfl rfl
theorem wM_RX7_132 : Cond.methodLink RX7 132 yX1_pondsWithSights ∈ W0 := W0_t (i := 321) (by decide +kernel) (by decide +kernel)
theorem wI_yX1_pondsWithSights : Cond.instanceMethod yX1_pondsWithSights ∈ W0 := W0_t (i := 322) (by decide +kernel) (by decide +kernel)
theorem wE_yX1_pondsWithSights : Cond.selects RX1 yX1_pondsWithSights yX1_pondsWithSights ∈ W0 := W0_t (i := 323) (by decide +kernel) (by decide +kernel)
set_option maxRecDepth 100000 in
theorem wC_yX1_pondsWithSights : Cond.code yX1_pondsWithSights prog_3_method_11_code 4 (Option.some Jvm.ClassFile.FieldType.int) ∈ W0 := W0_t (i := 324) rfl rfl
theorem wM_RX1_49 : Cond.methodLink RX1 49 yX1_pondsWithThings ∈ W0 := W0_t (i := 325) (by decide +kernel) (by decide +kernel)
theorem wM_RX7_135 : Cond.methodLink RX7 135 yX1_lengths ∈ W0 := W0_t (i := 326) (by decide +kernel) (by decide +kernel)
theorem wI_yX1_lengths : Cond.instanceMethod yX1_lengths ∈ W0 := W0_t (i := 327) (by decide +kernel) (by decide +kernel)
theorem wE_yX1_lengths : Cond.selects RX1 yX1_lengths yX1_lengths ∈ W0 := W0_t (i := 328) (by decide +kernel) (by decide +kernel)
set_option maxRecDepth 100000 in
theorem wC_yX1_lengths : Cond.code yX1_lengths prog_3_method_12_code 3 (Option.some Jvm.ClassFile.FieldType.int) ∈ W0 := W0_t (i := 329) rfl rfl
theorem wM_RL_48 : Cond.methodLink RL 48 yX7_chain ∈ W0 := W0_t (i := 330) (by decide +kernel) (by decide +kernel)
theorem wI_yX7_chain : Cond.instanceMethod yX7_chain ∈ W0 := W0_t (i := 331) (by decide +kernel) (by decide +kernel)
theorem wE_yX7_chain : Cond.selects RX7 yX7_chain yX7_chain ∈ W0 := W0_t (i := 332) (by decide +kernel) (by decide +kernel)
set_option maxRecDepth 100000 in
theorem wC_yX7_chain : Cond.code yX7_chain prog_1_method_10_code 4 (Option.some Jvm.ClassFile.FieldType.int) ∈ W0 := W0_t (i := 333) rfl rfl
theorem wM_RX7_138 : Cond.methodLink RX7 138 yX7_isSteps ∈ W0 := W0_t (i := 334) (by decide +kernel) (by decide +kernel)
theorem wS_yX7_isSteps : Cond.static yX7_isSteps ∈ W0 := W0_t (i := 335) (by decide +kernel) (by decide +kernel)
set_option maxRecDepth 100000 in
theorem wC_yX7_isSteps : Cond.code yX7_isSteps prog_1_method_58_code 1 (Option.some Jvm.ClassFile.FieldType.boolean) ∈ W0 := W0_t (i := 336) rfl rfl
theorem wM_RX7_141 : Cond.methodLink RX7 141 yX0_take ∈ W0 := W0_t (i := 337) (by decide +kernel) (by decide +kernel)
theorem wI_yX0_take : Cond.instanceMethod yX0_take ∈ W0 := W0_t (i := 338) (by decide +kernel) (by decide +kernel)
theorem wE_yX0_take : Cond.selects RX0 yX0_take yX0_take ∈ W0 := W0_t (i := 339) (by decide +kernel) (by decide +kernel)
set_option maxRecDepth 100000 in
theorem wC_yX0_take : Cond.code yX0_take prog_2_method_4_code 5 (Option.none : Option Jvm.ClassFile.FieldType) ∈ W0 := W0_t (i := 340) rfl rfl
theorem wM_RX0_40 : Cond.methodLink RX0 40 yX0_begin ∈ W0 := W0_t (i := 341) (by decide +kernel) (by decide +kernel)
theorem wI_yX0_begin : Cond.instanceMethod yX0_begin ∈ W0 := W0_t (i := 342) (by decide +kernel) (by decide +kernel)
theorem wE_yX0_begin : Cond.selects RX0 yX0_begin yX0_begin ∈ W0 := W0_t (i := 343) (by decide +kernel) (by decide +kernel)
set_option maxRecDepth 100000 in
theorem wC_yX0_begin : Cond.code yX0_begin prog_2_method_2_code 2 (Option.none : Option Jvm.ClassFile.FieldType) ∈ W0 := W0_t (i := 344) rfl rfl
theorem wM_RX0_44 : Cond.methodLink RX0 44 yX0_step ∈ W0 := W0_t (i := 345) (by decide +kernel) (by decide +kernel)
theorem wI_yX0_step : Cond.instanceMethod yX0_step ∈ W0 := W0_t (i := 346) (by decide +kernel) (by decide +kernel)
theorem wE_yX0_step : Cond.selects RX0 yX0_step yX0_step ∈ W0 := W0_t (i := 347) (by decide +kernel) (by decide +kernel)
set_option maxRecDepth 100000 in
theorem wC_yX0_step : Cond.code yX0_step prog_2_method_3_code 3 (Option.none : Option Jvm.ClassFile.FieldType) ∈ W0 := W0_t (i := 348) rfl rfl
theorem wK_RX0_30 : Cond.constant RX0 30 (99999) ∈ W0 := W0_t (i := 349) (by decide +kernel) (by decide +kernel)
theorem wM_RX0_31 : Cond.methodLink RX0 31 yJ9_min_7cf53 ∈ W0 := W0_t (i := 350) (by decide +kernel) (by decide +kernel)
theorem wM_RX0_37 : Cond.methodLink RX0 37 yJ9_floorMod_7cf53 ∈ W0 := W0_t (i := 351) (by decide +kernel) (by decide +kernel)
theorem wS_yJ9_floorMod_7cf53 : Cond.static yJ9_floorMod_7cf53 ∈ W0 := W0_t (i := 352) (by decide +kernel) (by decide +kernel)
set_option maxRecDepth 100000 in
theorem wC_yJ9_floorMod_7cf53 : Cond.code yJ9_floorMod_7cf53 prog_12_method_50_code 3 (Option.some Jvm.ClassFile.FieldType.int) ∈ W0 := W0_t (i := 353) rfl rfl
theorem wM_RL_52 : Cond.methodLink RL 52 yX7_through ∈ W0 := W0_t (i := 354) (by decide +kernel) (by decide +kernel)
theorem wI_yX7_through : Cond.instanceMethod yX7_through ∈ W0 := W0_t (i := 355) (by decide +kernel) (by decide +kernel)
theorem wE_yX7_through : Cond.selects RX7 yX7_through yX7_through ∈ W0 := W0_t (i := 356) (by decide +kernel) (by decide +kernel)
set_option maxRecDepth 100000 in
theorem wC_yX7_through : Cond.code yX7_through prog_1_method_11_code 4 (Option.some Jvm.ClassFile.FieldType.int) ∈ W0 := W0_t (i := 357) rfl rfl
theorem wM_RX7_157 : Cond.methodLink RX7 157 yX0_begin ∈ W0 := W0_t (i := 358) (by decide +kernel) (by decide +kernel)
theorem wM_RX7_161 : Cond.methodLink RX7 161 yX0_step ∈ W0 := W0_t (i := 359) (by decide +kernel) (by decide +kernel)
theorem wK_RX7_165 : Cond.constant RX7 165 (-1000004) ∈ W0 := W0_t (i := 360) (by decide +kernel) (by decide +kernel)
theorem wM_RL_56 : Cond.methodLink RL 56 yX7_upright ∈ W0 := W0_t (i := 361) (by decide +kernel) (by decide +kernel)
theorem wI_yX7_upright : Cond.instanceMethod yX7_upright ∈ W0 := W0_t (i := 362) (by decide +kernel) (by decide +kernel)
theorem wE_yX7_upright : Cond.selects RX7 yX7_upright yX7_upright ∈ W0 := W0_t (i := 363) (by decide +kernel) (by decide +kernel)
set_option maxRecDepth 100000 in
theorem wC_yX7_upright : Cond.code yX7_upright prog_1_method_12_code 3 (Option.some Jvm.ClassFile.FieldType.int) ∈ W0 := W0_t (i := 364) rfl rfl
theorem wM_RL_60 : Cond.methodLink RL 60 yX7_large ∈ W0 := W0_t (i := 365) (by decide +kernel) (by decide +kernel)
theorem wI_yX7_large : Cond.instanceMethod yX7_large ∈ W0 := W0_t (i := 366) (by decide +kernel) (by decide +kernel)
theorem wE_yX7_large : Cond.selects RX7 yX7_large yX7_large ∈ W0 := W0_t (i := 367) (by decide +kernel) (by decide +kernel)
set_option maxRecDepth 100000 in
theorem wC_yX7_large : Cond.code yX7_large prog_1_method_13_code 4 (Option.some Jvm.ClassFile.FieldType.int) ∈ W0 := W0_t (i := 368) rfl rfl
theorem wM_RL_64 : Cond.methodLink RL 64 yX7_round ∈ W0 := W0_t (i := 369) (by decide +kernel) (by decide +kernel)
theorem wI_yX7_round : Cond.instanceMethod yX7_round ∈ W0 := W0_t (i := 370) (by decide +kernel) (by decide +kernel)
theorem wE_yX7_round : Cond.selects RX7 yX7_round yX7_round ∈ W0 := W0_t (i := 371) (by decide +kernel) (by decide +kernel)
set_option maxRecDepth 100000 in
theorem wC_yX7_round : Cond.code yX7_round prog_1_method_14_code 2 (Option.some Jvm.ClassFile.FieldType.int) ∈ W0 := W0_t (i := 372) rfl rfl
theorem wM_RX7_166 : Cond.methodLink RX7 166 yX1_chainEnd ∈ W0 := W0_t (i := 373) (by decide +kernel) (by decide +kernel)
theorem wI_yX1_chainEnd : Cond.instanceMethod yX1_chainEnd ∈ W0 := W0_t (i := 374) (by decide +kernel) (by decide +kernel)
theorem wE_yX1_chainEnd : Cond.selects RX1 yX1_chainEnd yX1_chainEnd ∈ W0 := W0_t (i := 375) (by decide +kernel) (by decide +kernel)
set_option maxRecDepth 100000 in
theorem wC_yX1_chainEnd : Cond.code yX1_chainEnd prog_3_method_22_code 5 (Option.some Jvm.ClassFile.FieldType.int) ∈ W0 := W0_t (i := 376) rfl rfl
theorem wM_RX7_170 : Cond.methodLink RX7 170 yX1_roundLength ∈ W0 := W0_t (i := 377) (by decide +kernel) (by decide +kernel)
theorem wI_yX1_roundLength : Cond.instanceMethod yX1_roundLength ∈ W0 := W0_t (i := 378) (by decide +kernel) (by decide +kernel)
theorem wE_yX1_roundLength : Cond.selects RX1 yX1_roundLength yX1_roundLength ∈ W0 := W0_t (i := 379) (by decide +kernel) (by decide +kernel)
set_option maxRecDepth 100000 in
theorem wC_yX1_roundLength : Cond.code yX1_roundLength prog_3_method_24_code 4 (Option.some Jvm.ClassFile.FieldType.int) ∈ W0 := W0_t (i := 380) rfl rfl
theorem wM_RL_68 : Cond.methodLink RL 68 yX7_rounds ∈ W0 := W0_t (i := 381) (by decide +kernel) (by decide +kernel)
theorem wI_yX7_rounds : Cond.instanceMethod yX7_rounds ∈ W0 := W0_t (i := 382) (by decide +kernel) (by decide +kernel)
theorem wE_yX7_rounds : Cond.selects RX7 yX7_rounds yX7_rounds ∈ W0 := W0_t (i := 383) (by decide +kernel) (by decide +kernel)
set_option maxRecDepth 100000 in
theorem wC_yX7_rounds : Cond.code yX7_rounds prog_1_method_15_code 3 (Option.some Jvm.ClassFile.FieldType.int) ∈ W0 := W0_t (i := 384) rfl rfl
theorem wM_RX7_173 : Cond.methodLink RX7 173 yX1_isLeastOfRound ∈ W0 := W0_t (i := 385) (by decide +kernel) (by decide +kernel)
theorem wI_yX1_isLeastOfRound : Cond.instanceMethod yX1_isLeastOfRound ∈ W0 := W0_t (i := 386) (by decide +kernel) (by decide +kernel)
theorem wE_yX1_isLeastOfRound : Cond.selects RX1 yX1_isLeastOfRound yX1_isLeastOfRound ∈ W0 := W0_t (i := 387) (by decide +kernel) (by decide +kernel)
set_option maxRecDepth 100000 in
theorem wC_yX1_isLeastOfRound : Cond.code yX1_isLeastOfRound prog_3_method_25_code 5 (Option.some Jvm.ClassFile.FieldType.boolean) ∈ W0 := W0_t (i := 388) rfl rfl
theorem wM_RX1_80 : Cond.methodLink RX1 80 yX1_roundLength ∈ W0 := W0_t (i := 389) (by decide +kernel) (by decide +kernel)
theorem wM_RL_73 : Cond.methodLink RL 73 yX7_before ∈ W0 := W0_t (i := 390) (by decide +kernel) (by decide +kernel)
theorem wI_yX7_before : Cond.instanceMethod yX7_before ∈ W0 := W0_t (i := 391) (by decide +kernel) (by decide +kernel)
theorem wE_yX7_before : Cond.selects RX7 yX7_before yX7_before ∈ W0 := W0_t (i := 392) (by decide +kernel) (by decide +kernel)
set_option maxRecDepth 100000 in
theorem wC_yX7_before : Cond.code yX7_before prog_1_method_16_code 4 (Option.some Jvm.ClassFile.FieldType.int) ∈ W0 := W0_t (i := 393) rfl rfl
theorem wM_RL_77 : Cond.methodLink RL 77 yX7_shownBy ∈ W0 := W0_t (i := 394) (by decide +kernel) (by decide +kernel)
theorem wI_yX7_shownBy : Cond.instanceMethod yX7_shownBy ∈ W0 := W0_t (i := 395) (by decide +kernel) (by decide +kernel)
theorem wE_yX7_shownBy : Cond.selects RX7 yX7_shownBy yX7_shownBy ∈ W0 := W0_t (i := 396) (by decide +kernel) (by decide +kernel)
set_option maxRecDepth 100000 in
theorem wC_yX7_shownBy : Cond.code yX7_shownBy prog_1_method_17_code 4 (Option.some Jvm.ClassFile.FieldType.int) ∈ W0 := W0_t (i := 397) rfl rfl
theorem wM_RX7_176 : Cond.methodLink RX7 176 yX1_chainComes ∈ W0 := W0_t (i := 398) (by decide +kernel) (by decide +kernel)
theorem wI_yX1_chainComes : Cond.instanceMethod yX1_chainComes ∈ W0 := W0_t (i := 399) (by decide +kernel) (by decide +kernel)
theorem wE_yX1_chainComes : Cond.selects RX1 yX1_chainComes yX1_chainComes ∈ W0 := W0_t (i := 400) (by decide +kernel) (by decide +kernel)
set_option maxRecDepth 100000 in
theorem wC_yX1_chainComes : Cond.code yX1_chainComes prog_3_method_23_code 5 (Option.some Jvm.ClassFile.FieldType.boolean) ∈ W0 := W0_t (i := 401) rfl rfl
theorem wM_RL_81 : Cond.methodLink RL 81 yX7_ahead ∈ W0 := W0_t (i := 402) (by decide +kernel) (by decide +kernel)
theorem wI_yX7_ahead : Cond.instanceMethod yX7_ahead ∈ W0 := W0_t (i := 403) (by decide +kernel) (by decide +kernel)
theorem wE_yX7_ahead : Cond.selects RX7 yX7_ahead yX7_ahead ∈ W0 := W0_t (i := 404) (by decide +kernel) (by decide +kernel)
set_option maxRecDepth 100000 in
theorem wC_yX7_ahead : Cond.code yX7_ahead prog_1_method_18_code 4 (Option.some Jvm.ClassFile.FieldType.int) ∈ W0 := W0_t (i := 405) rfl rfl
theorem wM_RX7_179 : Cond.methodLink RX7 179 yX1_become ∈ W0 := W0_t (i := 406) (by decide +kernel) (by decide +kernel)
theorem wI_yX1_become : Cond.instanceMethod yX1_become ∈ W0 := W0_t (i := 407) (by decide +kernel) (by decide +kernel)
theorem wE_yX1_become : Cond.selects RX1 yX1_become yX1_become ∈ W0 := W0_t (i := 408) (by decide +kernel) (by decide +kernel)
set_option maxRecDepth 100000 in
theorem wC_yX1_become : Cond.code yX1_become prog_3_method_2_code 3 (Option.none : Option Jvm.ClassFile.FieldType) ∈ W0 := W0_t (i := 409) rfl rfl
theorem wM_RX1_36 : Cond.methodLink RX1 36 (⟨"java/lang/System", "arraycopy", "(Ljava/lang/Object;ILjava/lang/Object;II)V"⟩ : MethodName) ∈ W0 := W0_t (i := 410) (by decide +kernel) (by decide +kernel)
theorem wS_java_lang_System_arraycopy_Ljava_lang_Object_ILjava_lang_Object_II_V_MethodName : Cond.static (⟨"java/lang/System", "arraycopy", "(Ljava/lang/Object;ILjava/lang/Object;II)V"⟩ : MethodName) ∈ W0 := W0_t (i := 411) (by decide +kernel) (by decide +kernel)
theorem wV_java_lang_System_arraycopy_Ljava_lang_Object_ILjava_lang_Object_II_V_MethodName : Cond.native (⟨"java/lang/System", "arraycopy", "(Ljava/lang/Object;ILjava/lang/Object;II)V"⟩ : MethodName) ∈ W0 := W0_t (i := 412) (by decide +kernel) (by decide +kernel)
theorem wM_RL_85 : Cond.methodLink RL 85 yX7_comes ∈ W0 := W0_t (i := 413) (by decide +kernel) (by decide +kernel)
theorem wI_yX7_comes : Cond.instanceMethod yX7_comes ∈ W0 := W0_t (i := 414) (by decide +kernel) (by decide +kernel)
theorem wE_yX7_comes : Cond.selects RX7 yX7_comes yX7_comes ∈ W0 := W0_t (i := 415) (by decide +kernel) (by decide +kernel)
set_option maxRecDepth 100000 in
theorem wC_yX7_comes : Cond.code yX7_comes prog_1_method_19_code 3 (Option.some Jvm.ClassFile.FieldType.int) ∈ W0 := W0_t (i := 416) rfl rfl
theorem wM_RX7_182 : Cond.methodLink RX7 182 yX2_minutesTo ∈ W0 := W0_t (i := 417) (by decide +kernel) (by decide +kernel)
theorem wI_yX2_minutesTo : Cond.instanceMethod yX2_minutesTo ∈ W0 := W0_t (i := 418) (by decide +kernel) (by decide +kernel)
theorem wE_yX2_minutesTo : Cond.selects RX2 yX2_minutesTo yX2_minutesTo ∈ W0 := W0_t (i := 419) (by decide +kernel) (by decide +kernel)
set_option maxRecDepth 100000 in
theorem wC_yX2_minutesTo : Cond.code yX2_minutesTo prog_4_method_2_code 5 (Option.some Jvm.ClassFile.FieldType.int) ∈ W0 := W0_t (i := 420) rfl rfl
theorem wM_RX2_21 : Cond.methodLink RX2 21 yX1_passMinute ∈ W0 := W0_t (i := 421) (by decide +kernel) (by decide +kernel)
theorem wK_RX2_24 : Cond.constant RX2 24 (-1000004) ∈ W0 := W0_t (i := 422) (by decide +kernel) (by decide +kernel)
theorem wM_RX7_186 : Cond.methodLink RX7 186 yX7_findingOrAnswer ∈ W0 := W0_t (i := 423) (by decide +kernel) (by decide +kernel)
theorem wI_yX7_findingOrAnswer : Cond.instanceMethod yX7_findingOrAnswer ∈ W0 := W0_t (i := 425) (by decide +kernel) (by decide +kernel)
set_option maxRecDepth 100000 in
theorem wC_yX7_findingOrAnswer : Cond.code yX7_findingOrAnswer prog_1_method_49_code 2 (Option.some Jvm.ClassFile.FieldType.int) ∈ W0 := W0_t (i := 426) rfl rfl
theorem wM_RL_89 : Cond.methodLink RL 89 yX7_seen ∈ W0 := W0_t (i := 427) (by decide +kernel) (by decide +kernel)
theorem wI_yX7_seen : Cond.instanceMethod yX7_seen ∈ W0 := W0_t (i := 428) (by decide +kernel) (by decide +kernel)
theorem wE_yX7_seen : Cond.selects RX7 yX7_seen yX7_seen ∈ W0 := W0_t (i := 429) (by decide +kernel) (by decide +kernel)
set_option maxRecDepth 100000 in
theorem wC_yX7_seen : Cond.code yX7_seen prog_1_method_20_code 3 (Option.some Jvm.ClassFile.FieldType.int) ∈ W0 := W0_t (i := 430) rfl rfl
theorem wM_RL_93 : Cond.methodLink RL 93 yX7_meet ∈ W0 := W0_t (i := 431) (by decide +kernel) (by decide +kernel)
theorem wI_yX7_meet : Cond.instanceMethod yX7_meet ∈ W0 := W0_t (i := 432) (by decide +kernel) (by decide +kernel)
theorem wE_yX7_meet : Cond.selects RX7 yX7_meet yX7_meet ∈ W0 := W0_t (i := 433) (by decide +kernel) (by decide +kernel)
set_option maxRecDepth 100000 in
theorem wC_yX7_meet : Cond.code yX7_meet prog_1_method_21_code 3 (Option.some Jvm.ClassFile.FieldType.int) ∈ W0 := W0_t (i := 434) rfl rfl
theorem wM_RX7_189 : Cond.methodLink RX7 189 yX2_minutesToMeeting ∈ W0 := W0_t (i := 435) (by decide +kernel) (by decide +kernel)
theorem wI_yX2_minutesToMeeting : Cond.instanceMethod yX2_minutesToMeeting ∈ W0 := W0_t (i := 436) (by decide +kernel) (by decide +kernel)
theorem wE_yX2_minutesToMeeting : Cond.selects RX2 yX2_minutesToMeeting yX2_minutesToMeeting ∈ W0 := W0_t (i := 437) (by decide +kernel) (by decide +kernel)
set_option maxRecDepth 100000 in
theorem wC_yX2_minutesToMeeting : Cond.code yX2_minutesToMeeting prog_4_method_3_code 5 (Option.some Jvm.ClassFile.FieldType.int) ∈ W0 := W0_t (i := 438) rfl rfl
theorem wM_RL_97 : Cond.methodLink RL 97 yX7_cast ∈ W0 := W0_t (i := 439) (by decide +kernel) (by decide +kernel)
theorem wI_yX7_cast : Cond.instanceMethod yX7_cast ∈ W0 := W0_t (i := 440) (by decide +kernel) (by decide +kernel)
theorem wE_yX7_cast : Cond.selects RX7 yX7_cast yX7_cast ∈ W0 := W0_t (i := 441) (by decide +kernel) (by decide +kernel)
set_option maxRecDepth 100000 in
theorem wC_yX7_cast : Cond.code yX7_cast prog_1_method_22_code 3 (Option.some Jvm.ClassFile.FieldType.int) ∈ W0 := W0_t (i := 442) rfl rfl
theorem wM_RX7_192 : Cond.methodLink RX7 192 yX2_usualPond ∈ W0 := W0_t (i := 443) (by decide +kernel) (by decide +kernel)
theorem wI_yX2_usualPond : Cond.instanceMethod yX2_usualPond ∈ W0 := W0_t (i := 444) (by decide +kernel) (by decide +kernel)
theorem wE_yX2_usualPond : Cond.selects RX2 yX2_usualPond yX2_usualPond ∈ W0 := W0_t (i := 445) (by decide +kernel) (by decide +kernel)
set_option maxRecDepth 100000 in
theorem wC_yX2_usualPond : Cond.code yX2_usualPond prog_4_method_4_code 5 (Option.some Jvm.ClassFile.FieldType.int) ∈ W0 := W0_t (i := 446) rfl rfl
theorem wM_RX2_25 : Cond.methodLink RX2 25 yX2_clearTally ∈ W0 := W0_t (i := 447) (by decide +kernel) (by decide +kernel)
theorem wI_yX2_clearTally : Cond.instanceMethod yX2_clearTally ∈ W0 := W0_t (i := 449) (by decide +kernel) (by decide +kernel)
set_option maxRecDepth 100000 in
theorem wC_yX2_clearTally : Cond.code yX2_clearTally prog_4_method_9_code 2 (Option.none : Option Jvm.ClassFile.FieldType) ∈ W0 := W0_t (i := 450) rfl rfl
theorem wM_RX2_28 : Cond.methodLink RX2 28 yX2_leastOfMost ∈ W0 := W0_t (i := 451) (by decide +kernel) (by decide +kernel)
theorem wI_yX2_leastOfMost : Cond.instanceMethod yX2_leastOfMost ∈ W0 := W0_t (i := 453) (by decide +kernel) (by decide +kernel)
set_option maxRecDepth 100000 in
theorem wC_yX2_leastOfMost : Cond.code yX2_leastOfMost prog_4_method_10_code 3 (Option.some Jvm.ClassFile.FieldType.int) ∈ W0 := W0_t (i := 454) rfl rfl
theorem wM_RL_101 : Cond.methodLink RL 101 yX7_kindFor ∈ W0 := W0_t (i := 455) (by decide +kernel) (by decide +kernel)
theorem wI_yX7_kindFor : Cond.instanceMethod yX7_kindFor ∈ W0 := W0_t (i := 456) (by decide +kernel) (by decide +kernel)
theorem wE_yX7_kindFor : Cond.selects RX7 yX7_kindFor yX7_kindFor ∈ W0 := W0_t (i := 457) (by decide +kernel) (by decide +kernel)
set_option maxRecDepth 100000 in
theorem wC_yX7_kindFor : Cond.code yX7_kindFor prog_1_method_23_code 6 (Option.some Jvm.ClassFile.FieldType.int) ∈ W0 := W0_t (i := 458) rfl rfl
theorem wM_RX7_195 : Cond.methodLink RX7 195 yX2_pondsVisited ∈ W0 := W0_t (i := 459) (by decide +kernel) (by decide +kernel)
theorem wI_yX2_pondsVisited : Cond.instanceMethod yX2_pondsVisited ∈ W0 := W0_t (i := 460) (by decide +kernel) (by decide +kernel)
theorem wE_yX2_pondsVisited : Cond.selects RX2 yX2_pondsVisited yX2_pondsVisited ∈ W0 := W0_t (i := 461) (by decide +kernel) (by decide +kernel)
set_option maxRecDepth 100000 in
theorem wC_yX2_pondsVisited : Cond.code yX2_pondsVisited prog_4_method_5_code 5 (Option.some Jvm.ClassFile.FieldType.int) ∈ W0 := W0_t (i := 462) rfl rfl
theorem wM_RX7_199 : Cond.methodLink RX7 199 yJ6_bitCount_0f7a4 ∈ W0 := W0_t (i := 463) (by decide +kernel) (by decide +kernel)
theorem wS_yJ6_bitCount_0f7a4 : Cond.static yJ6_bitCount_0f7a4 ∈ W0 := W0_t (i := 464) (by decide +kernel) (by decide +kernel)
set_option maxRecDepth 100000 in
theorem wC_yJ6_bitCount_0f7a4 : Cond.code yJ6_bitCount_0f7a4 prog_11_method_49_code 1 (Option.some Jvm.ClassFile.FieldType.int) ∈ W0 := W0_t (i := 465) rfl rfl
theorem wK_RJ6_265 : Cond.constant RJ6 265 (1431655765) ∈ W0 := W0_t (i := 466) (by decide +kernel) (by decide +kernel)
theorem wK_RJ6_266 : Cond.constant RJ6 266 (858993459) ∈ W0 := W0_t (i := 467) (by decide +kernel) (by decide +kernel)
theorem wK_RJ6_267 : Cond.constant RJ6 267 (252645135) ∈ W0 := W0_t (i := 468) (by decide +kernel) (by decide +kernel)
theorem wM_RL_105 : Cond.methodLink RL 105 yX7_fits ∈ W0 := W0_t (i := 469) (by decide +kernel) (by decide +kernel)
theorem wI_yX7_fits : Cond.instanceMethod yX7_fits ∈ W0 := W0_t (i := 470) (by decide +kernel) (by decide +kernel)
theorem wE_yX7_fits : Cond.selects RX7 yX7_fits yX7_fits ∈ W0 := W0_t (i := 471) (by decide +kernel) (by decide +kernel)
set_option maxRecDepth 100000 in
theorem wC_yX7_fits : Cond.code yX7_fits prog_1_method_24_code 4 (Option.some Jvm.ClassFile.FieldType.int) ∈ W0 := W0_t (i := 472) rfl rfl
theorem wM_RX7_204 : Cond.methodLink RX7 204 yX7_lackOfSight ∈ W0 := W0_t (i := 473) (by decide +kernel) (by decide +kernel)
theorem wI_yX7_lackOfSight : Cond.instanceMethod yX7_lackOfSight ∈ W0 := W0_t (i := 475) (by decide +kernel) (by decide +kernel)
set_option maxRecDepth 100000 in
theorem wC_yX7_lackOfSight : Cond.code yX7_lackOfSight prog_1_method_51_code 4 (Option.some Jvm.ClassFile.FieldType.int) ∈ W0 := W0_t (i := 476) rfl rfl
theorem wM_RX7_214 : Cond.methodLink RX7 214 yX7_lackOfSheet ∈ W0 := W0_t (i := 477) (by decide +kernel) (by decide +kernel)
theorem wI_yX7_lackOfSheet : Cond.instanceMethod yX7_lackOfSheet ∈ W0 := W0_t (i := 479) (by decide +kernel) (by decide +kernel)
set_option maxRecDepth 100000 in
theorem wC_yX7_lackOfSheet : Cond.code yX7_lackOfSheet prog_1_method_50_code 2 (Option.some Jvm.ClassFile.FieldType.int) ∈ W0 := W0_t (i := 480) rfl rfl
theorem wM_RX7_254 : Cond.methodLink RX7 254 yX7_isSheet ∈ W0 := W0_t (i := 481) (by decide +kernel) (by decide +kernel)
theorem wS_yX7_isSheet : Cond.static yX7_isSheet ∈ W0 := W0_t (i := 482) (by decide +kernel) (by decide +kernel)
set_option maxRecDepth 100000 in
theorem wC_yX7_isSheet : Cond.code yX7_isSheet prog_1_method_56_code 1 (Option.some Jvm.ClassFile.FieldType.boolean) ∈ W0 := W0_t (i := 483) rfl rfl
theorem wM_RX7_269 : Cond.methodLink RX7 269 yX3_isMissing ∈ W0 := W0_t (i := 484) (by decide +kernel) (by decide +kernel)
theorem wI_yX3_isMissing : Cond.instanceMethod yX3_isMissing ∈ W0 := W0_t (i := 485) (by decide +kernel) (by decide +kernel)
theorem wE_yX3_isMissing : Cond.selects RX3 yX3_isMissing yX3_isMissing ∈ W0 := W0_t (i := 486) (by decide +kernel) (by decide +kernel)
set_option maxRecDepth 100000 in
theorem wC_yX3_isMissing : Cond.code yX3_isMissing prog_5_method_2_code 1 (Option.some Jvm.ClassFile.FieldType.boolean) ∈ W0 := W0_t (i := 487) rfl rfl
theorem wK_RX7_249 : Cond.constant RX7 249 (-1000006) ∈ W0 := W0_t (i := 488) (by decide +kernel) (by decide +kernel)
theorem wM_RX7_207 : Cond.methodLink RX7 207 yX7_lensesFor ∈ W0 := W0_t (i := 489) (by decide +kernel) (by decide +kernel)
theorem wI_yX7_lensesFor : Cond.instanceMethod yX7_lensesFor ∈ W0 := W0_t (i := 491) (by decide +kernel) (by decide +kernel)
set_option maxRecDepth 100000 in
theorem wC_yX7_lensesFor : Cond.code yX7_lensesFor prog_1_method_52_code 5 (Option.some Jvm.ClassFile.FieldType.int) ∈ W0 := W0_t (i := 492) rfl rfl
theorem wM_RX7_294 : Cond.methodLink RX7 294 yX2_showsAsTold ∈ W0 := W0_t (i := 493) (by decide +kernel) (by decide +kernel)
theorem wI_yX2_showsAsTold : Cond.instanceMethod yX2_showsAsTold ∈ W0 := W0_t (i := 494) (by decide +kernel) (by decide +kernel)
theorem wE_yX2_showsAsTold : Cond.selects RX2 yX2_showsAsTold yX2_showsAsTold ∈ W0 := W0_t (i := 495) (by decide +kernel) (by decide +kernel)
set_option maxRecDepth 100000 in
theorem wC_yX2_showsAsTold : Cond.code yX2_showsAsTold prog_4_method_6_code 6 (Option.some Jvm.ClassFile.FieldType.boolean) ∈ W0 := W0_t (i := 496) rfl rfl
theorem wM_RX2_41 : Cond.methodLink RX2 41 yX1_thingsSeenIn ∈ W0 := W0_t (i := 497) (by decide +kernel) (by decide +kernel)
theorem wM_RL_109 : Cond.methodLink RL 109 yX7_lens ∈ W0 := W0_t (i := 498) (by decide +kernel) (by decide +kernel)
theorem wI_yX7_lens : Cond.instanceMethod yX7_lens ∈ W0 := W0_t (i := 499) (by decide +kernel) (by decide +kernel)
theorem wE_yX7_lens : Cond.selects RX7 yX7_lens yX7_lens ∈ W0 := W0_t (i := 500) (by decide +kernel) (by decide +kernel)
set_option maxRecDepth 100000 in
theorem wC_yX7_lens : Cond.code yX7_lens prog_1_method_25_code 5 (Option.some Jvm.ClassFile.FieldType.int) ∈ W0 := W0_t (i := 501) rfl rfl
theorem wM_RX7_211 : Cond.methodLink RX7 211 yJ6_numberOfTrailingZeros_0f7a4 ∈ W0 := W0_t (i := 502) (by decide +kernel) (by decide +kernel)
theorem wS_yJ6_numberOfTrailingZeros_0f7a4 : Cond.static yJ6_numberOfTrailingZeros_0f7a4 ∈ W0 := W0_t (i := 503) (by decide +kernel) (by decide +kernel)
set_option maxRecDepth 100000 in
theorem wC_yJ6_numberOfTrailingZeros_0f7a4 : Cond.code yJ6_numberOfTrailingZeros_0f7a4 prog_11_method_48_code 2 (Option.some Jvm.ClassFile.FieldType.int) ∈ W0 := W0_t (i := 504) rfl rfl
theorem wK_RJ6_264 : Cond.constant RJ6 264 (65536) ∈ W0 := W0_t (i := 505) (by decide +kernel) (by decide +kernel)
theorem wM_RL_113 : Cond.methodLink RL 113 yX7_which ∈ W0 := W0_t (i := 506) (by decide +kernel) (by decide +kernel)
theorem wI_yX7_which : Cond.instanceMethod yX7_which ∈ W0 := W0_t (i := 507) (by decide +kernel) (by decide +kernel)
theorem wE_yX7_which : Cond.selects RX7 yX7_which yX7_which ∈ W0 := W0_t (i := 508) (by decide +kernel) (by decide +kernel)
set_option maxRecDepth 100000 in
theorem wC_yX7_which : Cond.code yX7_which prog_1_method_26_code 3 (Option.some Jvm.ClassFile.FieldType.int) ∈ W0 := W0_t (i := 509) rfl rfl
theorem wM_RX7_217 : Cond.methodLink RX7 217 yX2_thingsOnCourse ∈ W0 := W0_t (i := 510) (by decide +kernel) (by decide +kernel)
theorem wI_yX2_thingsOnCourse : Cond.instanceMethod yX2_thingsOnCourse ∈ W0 := W0_t (i := 511) (by decide +kernel) (by decide +kernel)
theorem wE_yX2_thingsOnCourse : Cond.selects RX2 yX2_thingsOnCourse yX2_thingsOnCourse ∈ W0 := W0_t (i := 512) (by decide +kernel) (by decide +kernel)
set_option maxRecDepth 100000 in
theorem wC_yX2_thingsOnCourse : Cond.code yX2_thingsOnCourse prog_4_method_7_code 6 (Option.some Jvm.ClassFile.FieldType.int) ∈ W0 := W0_t (i := 513) rfl rfl
theorem wM_RX2_48 : Cond.methodLink RX2 48 yX1_thingsIn ∈ W0 := W0_t (i := 514) (by decide +kernel) (by decide +kernel)
theorem wM_RL_117 : Cond.methodLink RL 117 yX7_eyes ∈ W0 := W0_t (i := 515) (by decide +kernel) (by decide +kernel)
theorem wI_yX7_eyes : Cond.instanceMethod yX7_eyes ∈ W0 := W0_t (i := 516) (by decide +kernel) (by decide +kernel)
theorem wE_yX7_eyes : Cond.selects RX7 yX7_eyes yX7_eyes ∈ W0 := W0_t (i := 517) (by decide +kernel) (by decide +kernel)
set_option maxRecDepth 100000 in
theorem wC_yX7_eyes : Cond.code yX7_eyes prog_1_method_27_code 5 (Option.some Jvm.ClassFile.FieldType.int) ∈ W0 := W0_t (i := 518) rfl rfl
theorem wM_RX7_221 : Cond.methodLink RX7 221 yJ6_lowestOneBit_0f7a4 ∈ W0 := W0_t (i := 519) (by decide +kernel) (by decide +kernel)
theorem wS_yJ6_lowestOneBit_0f7a4 : Cond.static yJ6_lowestOneBit_0f7a4 ∈ W0 := W0_t (i := 520) (by decide +kernel) (by decide +kernel)
set_option maxRecDepth 100000 in
theorem wC_yJ6_lowestOneBit_0f7a4 : Cond.code yJ6_lowestOneBit_0f7a4 prog_11_method_46_code 1 (Option.some Jvm.ClassFile.FieldType.int) ∈ W0 := W0_t (i := 521) rfl rfl
theorem wM_RL_121 : Cond.methodLink RL 121 yX7_dredge ∈ W0 := W0_t (i := 522) (by decide +kernel) (by decide +kernel)
theorem wI_yX7_dredge : Cond.instanceMethod yX7_dredge ∈ W0 := W0_t (i := 523) (by decide +kernel) (by decide +kernel)
theorem wE_yX7_dredge : Cond.selects RX7 yX7_dredge yX7_dredge ∈ W0 := W0_t (i := 524) (by decide +kernel) (by decide +kernel)
set_option maxRecDepth 100000 in
theorem wC_yX7_dredge : Cond.code yX7_dredge prog_1_method_28_code 7 (Option.some Jvm.ClassFile.FieldType.int) ∈ W0 := W0_t (i := 525) rfl rfl
theorem wM_RL_125 : Cond.methodLink RL 125 yX7_watch ∈ W0 := W0_t (i := 526) (by decide +kernel) (by decide +kernel)
theorem wI_yX7_watch : Cond.instanceMethod yX7_watch ∈ W0 := W0_t (i := 527) (by decide +kernel) (by decide +kernel)
theorem wE_yX7_watch : Cond.selects RX7 yX7_watch yX7_watch ∈ W0 := W0_t (i := 528) (by decide +kernel) (by decide +kernel)
set_option maxRecDepth 100000 in
theorem wC_yX7_watch : Cond.code yX7_watch prog_1_method_29_code 2 (Option.some Jvm.ClassFile.FieldType.int) ∈ W0 := W0_t (i := 529) rfl rfl
theorem wM_RX7_224 : Cond.methodLink RX7 224 yX2_busiestPond ∈ W0 := W0_t (i := 530) (by decide +kernel) (by decide +kernel)
theorem wI_yX2_busiestPond : Cond.instanceMethod yX2_busiestPond ∈ W0 := W0_t (i := 531) (by decide +kernel) (by decide +kernel)
theorem wE_yX2_busiestPond : Cond.selects RX2 yX2_busiestPond yX2_busiestPond ∈ W0 := W0_t (i := 532) (by decide +kernel) (by decide +kernel)
set_option maxRecDepth 100000 in
theorem wC_yX2_busiestPond : Cond.code yX2_busiestPond prog_4_method_8_code 5 (Option.some Jvm.ClassFile.FieldType.int) ∈ W0 := W0_t (i := 533) rfl rfl
theorem wM_RX2_51 : Cond.methodLink RX2 51 yJ6_bitCount_0f7a4 ∈ W0 := W0_t (i := 534) (by decide +kernel) (by decide +kernel)
theorem wM_RL_129 : Cond.methodLink RL 129 yX7_falls ∈ W0 := W0_t (i := 535) (by decide +kernel) (by decide +kernel)
theorem wI_yX7_falls : Cond.instanceMethod yX7_falls ∈ W0 := W0_t (i := 536) (by decide +kernel) (by decide +kernel)
theorem wE_yX7_falls : Cond.selects RX7 yX7_falls yX7_falls ∈ W0 := W0_t (i := 537) (by decide +kernel) (by decide +kernel)
set_option maxRecDepth 100000 in
theorem wC_yX7_falls : Cond.code yX7_falls prog_1_method_30_code 4 (Option.some Jvm.ClassFile.FieldType.int) ∈ W0 := W0_t (i := 538) rfl rfl
theorem wM_RX7_227 : Cond.methodLink RX7 227 yX1_dropOne ∈ W0 := W0_t (i := 539) (by decide +kernel) (by decide +kernel)
theorem wI_yX1_dropOne : Cond.instanceMethod yX1_dropOne ∈ W0 := W0_t (i := 540) (by decide +kernel) (by decide +kernel)
theorem wE_yX1_dropOne : Cond.selects RX1 yX1_dropOne yX1_dropOne ∈ W0 := W0_t (i := 541) (by decide +kernel) (by decide +kernel)
set_option maxRecDepth 100000 in
theorem wC_yX1_dropOne : Cond.code yX1_dropOne prog_3_method_21_code 2 (Option.none : Option Jvm.ClassFile.FieldType) ∈ W0 := W0_t (i := 542) rfl rfl
theorem wM_RX1_77 : Cond.methodLink RX1 77 yX1_draw ∈ W0 := W0_t (i := 543) (by decide +kernel) (by decide +kernel)
theorem wI_yX1_draw : Cond.instanceMethod yX1_draw ∈ W0 := W0_t (i := 545) (by decide +kernel) (by decide +kernel)
set_option maxRecDepth 100000 in
theorem wC_yX1_draw : Cond.code yX1_draw prog_3_method_20_code 1 (Option.some Jvm.ClassFile.FieldType.int) ∈ W0 := W0_t (i := 546) rfl rfl
theorem wK_RX1_76 : Cond.constant RX1 76 (1103515245) ∈ W0 := W0_t (i := 547) (by decide +kernel) (by decide +kernel)
theorem wM_RL_133 : Cond.methodLink RL 133 yX7_odds ∈ W0 := W0_t (i := 548) (by decide +kernel) (by decide +kernel)
theorem wI_yX7_odds : Cond.instanceMethod yX7_odds ∈ W0 := W0_t (i := 549) (by decide +kernel) (by decide +kernel)
theorem wE_yX7_odds : Cond.selects RX7 yX7_odds yX7_odds ∈ W0 := W0_t (i := 550) (by decide +kernel) (by decide +kernel)
set_option maxRecDepth 100000 in
theorem wC_yX7_odds : Cond.code yX7_odds prog_1_method_31_code 9 (Option.some Jvm.ClassFile.FieldType.long) ∈ W0 := W0_t (i := 551) rfl rfl
theorem wM_RL_138 : Cond.methodLink RL 138 yX7_seed ∈ W0 := W0_t (i := 552) (by decide +kernel) (by decide +kernel)
theorem wI_yX7_seed : Cond.instanceMethod yX7_seed ∈ W0 := W0_t (i := 553) (by decide +kernel) (by decide +kernel)
theorem wE_yX7_seed : Cond.selects RX7 yX7_seed yX7_seed ∈ W0 := W0_t (i := 554) (by decide +kernel) (by decide +kernel)
set_option maxRecDepth 100000 in
theorem wC_yX7_seed : Cond.code yX7_seed prog_1_method_32_code 3 (Option.some Jvm.ClassFile.FieldType.int) ∈ W0 := W0_t (i := 555) rfl rfl
theorem wM_RL_142 : Cond.methodLink RL 142 yX7_feed ∈ W0 := W0_t (i := 556) (by decide +kernel) (by decide +kernel)
theorem wI_yX7_feed : Cond.instanceMethod yX7_feed ∈ W0 := W0_t (i := 557) (by decide +kernel) (by decide +kernel)
theorem wE_yX7_feed : Cond.selects RX7 yX7_feed yX7_feed ∈ W0 := W0_t (i := 558) (by decide +kernel) (by decide +kernel)
set_option maxRecDepth 100000 in
theorem wC_yX7_feed : Cond.code yX7_feed prog_1_method_33_code 4 (Option.some Jvm.ClassFile.FieldType.int) ∈ W0 := W0_t (i := 559) rfl rfl
theorem wM_RX7_236 : Cond.methodLink RX7 236 yX4_append ∈ W0 := W0_t (i := 560) (by decide +kernel) (by decide +kernel)
theorem wI_yX4_append : Cond.instanceMethod yX4_append ∈ W0 := W0_t (i := 561) (by decide +kernel) (by decide +kernel)
theorem wE_yX4_append : Cond.selects RX4 yX4_append yX4_append ∈ W0 := W0_t (i := 562) (by decide +kernel) (by decide +kernel)
set_option maxRecDepth 100000 in
theorem wC_yX4_append : Cond.code yX4_append prog_6_method_2_code 2 (Option.none : Option Jvm.ClassFile.FieldType) ∈ W0 := W0_t (i := 563) rfl rfl
theorem wM_RL_146 : Cond.methodLink RL 146 yX7_wipe ∈ W0 := W0_t (i := 564) (by decide +kernel) (by decide +kernel)
theorem wI_yX7_wipe : Cond.instanceMethod yX7_wipe ∈ W0 := W0_t (i := 565) (by decide +kernel) (by decide +kernel)
theorem wE_yX7_wipe : Cond.selects RX7 yX7_wipe yX7_wipe ∈ W0 := W0_t (i := 566) (by decide +kernel) (by decide +kernel)
set_option maxRecDepth 100000 in
theorem wC_yX7_wipe : Cond.code yX7_wipe prog_1_method_34_code 2 (Option.some Jvm.ClassFile.FieldType.int) ∈ W0 := W0_t (i := 567) rfl rfl
theorem wM_RL_150 : Cond.methodLink RL 150 yX7_text ∈ W0 := W0_t (i := 568) (by decide +kernel) (by decide +kernel)
theorem wI_yX7_text : Cond.instanceMethod yX7_text ∈ W0 := W0_t (i := 569) (by decide +kernel) (by decide +kernel)
theorem wE_yX7_text : Cond.selects RX7 yX7_text yX7_text ∈ W0 := W0_t (i := 570) (by decide +kernel) (by decide +kernel)
set_option maxRecDepth 100000 in
theorem wC_yX7_text : Cond.code yX7_text prog_1_method_35_code 2 (Option.some Jvm.ClassFile.FieldType.int) ∈ W0 := W0_t (i := 571) rfl rfl
theorem wM_RX7_239 : Cond.methodLink RX7 239 yX5_read ∈ W0 := W0_t (i := 572) (by decide +kernel) (by decide +kernel)
theorem wI_yX5_read : Cond.instanceMethod yX5_read ∈ W0 := W0_t (i := 573) (by decide +kernel) (by decide +kernel)
theorem wE_yX5_read : Cond.selects RX5 yX5_read yX5_read ∈ W0 := W0_t (i := 574) (by decide +kernel) (by decide +kernel)
set_option maxRecDepth 100000 in
theorem wC_yX5_read : Cond.code yX5_read prog_7_method_2_code 4 (Option.some Jvm.ClassFile.FieldType.int) ∈ W0 := W0_t (i := 575) rfl rfl
theorem wM_RX5_22 : Cond.methodLink RX5 22 yX6_take ∈ W0 := W0_t (i := 576) (by decide +kernel) (by decide +kernel)
theorem wI_yX6_take : Cond.instanceMethod yX6_take ∈ W0 := W0_t (i := 577) (by decide +kernel) (by decide +kernel)
theorem wE_yX6_take : Cond.selects RX6 yX6_take yX6_take ∈ W0 := W0_t (i := 578) (by decide +kernel) (by decide +kernel)
set_option maxRecDepth 100000 in
theorem wC_yX6_take : Cond.code yX6_take prog_8_method_2_code 4 (Option.none : Option Jvm.ClassFile.FieldType) ∈ W0 := W0_t (i := 579) rfl rfl
theorem wM_RX6_30 : Cond.methodLink RX6 30 yX4_at ∈ W0 := W0_t (i := 580) (by decide +kernel) (by decide +kernel)
theorem wI_yX4_at : Cond.instanceMethod yX4_at ∈ W0 := W0_t (i := 581) (by decide +kernel) (by decide +kernel)
theorem wE_yX4_at : Cond.selects RX4 yX4_at yX4_at ∈ W0 := W0_t (i := 582) (by decide +kernel) (by decide +kernel)
set_option maxRecDepth 100000 in
theorem wC_yX4_at : Cond.code yX4_at prog_6_method_3_code 2 (Option.some Jvm.ClassFile.FieldType.int) ∈ W0 := W0_t (i := 583) rfl rfl
theorem wM_RX6_33 : Cond.methodLink RX6 33 yX6_takeOne ∈ W0 := W0_t (i := 584) (by decide +kernel) (by decide +kernel)
theorem wI_yX6_takeOne : Cond.instanceMethod yX6_takeOne ∈ W0 := W0_t (i := 586) (by decide +kernel) (by decide +kernel)
set_option maxRecDepth 100000 in
theorem wC_yX6_takeOne : Cond.code yX6_takeOne prog_8_method_8_code 7 (Option.some Jvm.ClassFile.FieldType.int) ∈ W0 := W0_t (i := 587) rfl rfl
theorem wM_RX6_37 : Cond.methodLink RX6 37 yX6_isLetter ∈ W0 := W0_t (i := 588) (by decide +kernel) (by decide +kernel)
theorem wS_yX6_isLetter : Cond.static yX6_isLetter ∈ W0 := W0_t (i := 589) (by decide +kernel) (by decide +kernel)
set_option maxRecDepth 100000 in
theorem wC_yX6_isLetter : Cond.code yX6_isLetter prog_8_method_9_code 1 (Option.some Jvm.ClassFile.FieldType.boolean) ∈ W0 := W0_t (i := 590) rfl rfl
theorem wM_RX6_41 : Cond.methodLink RX6 41 yX6_wordAt ∈ W0 := W0_t (i := 591) (by decide +kernel) (by decide +kernel)
theorem wS_yX6_wordAt : Cond.static yX6_wordAt ∈ W0 := W0_t (i := 592) (by decide +kernel) (by decide +kernel)
set_option maxRecDepth 100000 in
theorem wC_yX6_wordAt : Cond.code yX6_wordAt prog_8_method_11_code 4 (Option.some Jvm.ClassFile.FieldType.int) ∈ W0 := W0_t (i := 593) rfl rfl
theorem wM_RX6_53 : Cond.methodLink RX6 53 yX6_nameOf ∈ W0 := W0_t (i := 594) (by decide +kernel) (by decide +kernel)
theorem wS_yX6_nameOf : Cond.static yX6_nameOf ∈ W0 := W0_t (i := 595) (by decide +kernel) (by decide +kernel)
set_option maxRecDepth 100000 in
theorem wC_yX6_nameOf : Cond.code yX6_nameOf prog_8_method_12_code 1 (Option.some (Jvm.ClassFile.FieldType.object "java/lang/String")) ∈ W0 := W0_t (i := 596) rfl rfl
theorem wM_RX6_57 : Cond.methodLink RX6 57 yX4_says ∈ W0 := W0_t (i := 615) (by decide +kernel) (by decide +kernel)
theorem wI_yX4_says : Cond.instanceMethod yX4_says ∈ W0 := W0_t (i := 616) (by decide +kernel) (by decide +kernel)
theorem wE_yX4_says : Cond.selects RX4 yX4_says yX4_says ∈ W0 := W0_t (i := 617) (by decide +kernel) (by decide +kernel)
set_option maxRecDepth 100000 in
theorem wC_yX4_says : Cond.code yX4_says prog_6_method_4_code 5 (Option.some Jvm.ClassFile.FieldType.boolean) ∈ W0 := W0_t (i := 618) rfl rfl
theorem wM_RX4_19 : Cond.methodLink RX4 19 yJ0_length_8abf5 ∈ W0 := W0_t (i := 619) (by decide +kernel) (by decide +kernel)
theorem wI_yJ0_length_8abf5 : Cond.instanceMethod yJ0_length_8abf5 ∈ W0 := W0_t (i := 620) (by decide +kernel) (by decide +kernel)
theorem wE_yJ0_length_8abf5 : Cond.selects RJ0 yJ0_length_8abf5 yJ0_length_8abf5 ∈ W0 := W0_t (i := 621) (by decide +kernel) (by decide +kernel)
set_option maxRecDepth 100000 in
theorem wC_yJ0_length_8abf5 : Cond.code yJ0_length_8abf5 prog_13_method_54_code 1 (Option.some Jvm.ClassFile.FieldType.int) ∈ W0 := W0_t (i := 622) rfl rfl
theorem wM_RJ0_335 : Cond.methodLink RJ0 335 yJ0_coder_7d493 ∈ W0 := W0_t (i := 623) (by decide +kernel) (by decide +kernel)
theorem wI_yJ0_coder_7d493 : Cond.instanceMethod yJ0_coder_7d493 ∈ W0 := W0_t (i := 624) (by decide +kernel) (by decide +kernel)
theorem wE_yJ0_coder_7d493 : Cond.selects RJ0 yJ0_coder_7d493 yJ0_coder_7d493 ∈ W0 := W0_t (i := 625) (by decide +kernel) (by decide +kernel)
set_option maxRecDepth 100000 in
theorem wC_yJ0_coder_7d493 : Cond.code yJ0_coder_7d493 prog_13_method_152_code 1 (Option.some Jvm.ClassFile.FieldType.byte) ∈ W0 := W0_t (i := 626) rfl rfl
theorem wF_RJ0_38 : Cond.fieldLink RJ0 38 "java/lang/String" "COMPACT_STRINGS" "Z" ∈ W0 := W0_t (i := 627) (by decide +kernel) (by decide +kernel)
theorem wM_RX4_24 : Cond.methodLink RX4 24 yX4_at ∈ W0 := W0_t (i := 629) (by decide +kernel) (by decide +kernel)
theorem wM_RX4_28 : Cond.methodLink RX4 28 yJ0_charAt_5068e ∈ W0 := W0_t (i := 630) (by decide +kernel) (by decide +kernel)
theorem wI_yJ0_charAt_5068e : Cond.instanceMethod yJ0_charAt_5068e ∈ W0 := W0_t (i := 631) (by decide +kernel) (by decide +kernel)
theorem wE_yJ0_charAt_5068e : Cond.selects RJ0 yJ0_charAt_5068e yJ0_charAt_5068e ∈ W0 := W0_t (i := 632) (by decide +kernel) (by decide +kernel)
set_option maxRecDepth 100000 in
theorem wC_yJ0_charAt_5068e : Cond.code yJ0_charAt_5068e prog_13_method_56_code 2 (Option.some Jvm.ClassFile.FieldType.char) ∈ W0 := W0_t (i := 633) rfl rfl
theorem wM_RJ0_492 : Cond.methodLink RJ0 492 yJ0_isLatin1_aae02 ∈ W0 := W0_t (i := 634) (by decide +kernel) (by decide +kernel)
theorem wI_yJ0_isLatin1_aae02 : Cond.instanceMethod yJ0_isLatin1_aae02 ∈ W0 := W0_t (i := 635) (by decide +kernel) (by decide +kernel)
theorem wE_yJ0_isLatin1_aae02 : Cond.selects RJ0 yJ0_isLatin1_aae02 yJ0_isLatin1_aae02 ∈ W0 := W0_t (i := 636) (by decide +kernel) (by decide +kernel)
set_option maxRecDepth 100000 in
theorem wC_yJ0_isLatin1_aae02 : Cond.code yJ0_isLatin1_aae02 prog_13_method_154_code 1 (Option.some Jvm.ClassFile.FieldType.boolean) ∈ W0 := W0_t (i := 637) rfl rfl
theorem wM_RJ0_495 : Cond.methodLink RJ0 495 yJ1_charAt_3b067 ∈ W0 := W0_t (i := 638) (by decide +kernel) (by decide +kernel)
theorem wS_yJ1_charAt_3b067 : Cond.static yJ1_charAt_3b067 ∈ W0 := W0_t (i := 639) (by decide +kernel) (by decide +kernel)
set_option maxRecDepth 100000 in
theorem wC_yJ1_charAt_3b067 : Cond.code yJ1_charAt_3b067 prog_14_method_2_code 2 (Option.some Jvm.ClassFile.FieldType.char) ∈ W0 := W0_t (i := 640) rfl rfl
theorem wM_RJ1_9 : Cond.methodLink RJ1 9 yJ0_checkIndex_df160 ∈ W0 := W0_t (i := 641) (by decide +kernel) (by decide +kernel)
theorem wS_yJ0_checkIndex_df160 : Cond.static yJ0_checkIndex_df160 ∈ W0 := W0_t (i := 642) (by decide +kernel) (by decide +kernel)
set_option maxRecDepth 100000 in
theorem wC_yJ0_checkIndex_df160 : Cond.code yJ0_checkIndex_df160 prog_13_method_155_code 2 (Option.none : Option Jvm.ClassFile.FieldType) ∈ W0 := W0_t (i := 643) rfl rfl
theorem wF_RJ0_1053 : Cond.fieldLink RJ0 1053 "jdk/internal/util/Preconditions" "SIOOBE_FORMATTER" "Ljava/util/function/BiFunction;" ∈ W0 := W0_t (i := 644) (by decide +kernel) (by decide +kernel)
theorem wM_RJ0_1059 : Cond.methodLink RJ0 1059 yJ3_checkIndex_8e157 ∈ W0 := W0_t (i := 646) (by decide +kernel) (by decide +kernel)
theorem wS_yJ3_checkIndex_8e157 : Cond.static yJ3_checkIndex_8e157 ∈ W0 := W0_t (i := 647) (by decide +kernel) (by decide +kernel)
set_option maxRecDepth 100000 in
theorem wC_yJ3_checkIndex_8e157 : Cond.code yJ3_checkIndex_8e157 prog_17_method_11_code 3 (Option.some Jvm.ClassFile.FieldType.int) ∈ W0 := W0_t (i := 648) rfl rfl
theorem wM_RJ0_498 : Cond.methodLink RJ0 498 yJ2_charAt_3b067 ∈ W0 := W0_t (i := 649) (by decide +kernel) (by decide +kernel)
theorem wS_yJ2_charAt_3b067 : Cond.static yJ2_charAt_3b067 ∈ W0 := W0_t (i := 650) (by decide +kernel) (by decide +kernel)
set_option maxRecDepth 100000 in
theorem wC_yJ2_charAt_3b067 : Cond.code yJ2_charAt_3b067 prog_15_method_83_code 2 (Option.some Jvm.ClassFile.FieldType.char) ∈ W0 := W0_t (i := 651) rfl rfl
theorem wM_RJ2_67 : Cond.methodLink RJ2 67 yJ2_checkIndex_2214a ∈ W0 := W0_t (i := 652) (by decide +kernel) (by decide +kernel)
theorem wS_yJ2_checkIndex_2214a : Cond.static yJ2_checkIndex_2214a ∈ W0 := W0_t (i := 653) (by decide +kernel) (by decide +kernel)
set_option maxRecDepth 100000 in
theorem wC_yJ2_checkIndex_2214a : Cond.code yJ2_checkIndex_2214a prog_15_method_91_code 2 (Option.none : Option Jvm.ClassFile.FieldType) ∈ W0 := W0_t (i := 654) rfl rfl
theorem wM_RJ2_48 : Cond.methodLink RJ2 48 yJ2_length_9d52b ∈ W0 := W0_t (i := 655) (by decide +kernel) (by decide +kernel)
theorem wS_yJ2_length_9d52b : Cond.static yJ2_length_9d52b ∈ W0 := W0_t (i := 656) (by decide +kernel) (by decide +kernel)
set_option maxRecDepth 100000 in
theorem wC_yJ2_length_9d52b : Cond.code yJ2_length_9d52b prog_15_method_6_code 1 (Option.some Jvm.ClassFile.FieldType.int) ∈ W0 := W0_t (i := 657) rfl rfl
theorem wM_RJ2_414 : Cond.methodLink RJ2 414 yJ0_checkIndex_df160 ∈ W0 := W0_t (i := 658) (by decide +kernel) (by decide +kernel)
theorem wM_RJ2_71 : Cond.methodLink RJ2 71 yJ2_getChar_3b067 ∈ W0 := W0_t (i := 659) (by decide +kernel) (by decide +kernel)
theorem wS_yJ2_getChar_3b067 : Cond.static yJ2_getChar_3b067 ∈ W0 := W0_t (i := 660) (by decide +kernel) (by decide +kernel)
set_option maxRecDepth 100000 in
theorem wC_yJ2_getChar_3b067 : Cond.code yJ2_getChar_3b067 prog_15_method_5_code 2 (Option.some Jvm.ClassFile.FieldType.char) ∈ W0 := W0_t (i := 661) rfl rfl
theorem wF_RJ2_44 : Cond.fieldLink RJ2 44 "java/lang/StringUTF16" "$assertionsDisabled" "Z" ∈ W0 := W0_t (i := 662) (by decide +kernel) (by decide +kernel)
theorem wF_RJ2_59 : Cond.fieldLink RJ2 59 "java/lang/StringUTF16" "HI_BYTE_SHIFT" "I" ∈ W0 := W0_t (i := 664) (by decide +kernel) (by decide +kernel)
theorem wF_RJ2_63 : Cond.fieldLink RJ2 63 "java/lang/StringUTF16" "LO_BYTE_SHIFT" "I" ∈ W0 := W0_t (i := 666) (by decide +kernel) (by decide +kernel)
theorem wM_RX6_44 : Cond.methodLink RX6 44 yX6_isDigit ∈ W0 := W0_t (i := 668) (by decide +kernel) (by decide +kernel)
theorem wS_yX6_isDigit : Cond.static yX6_isDigit ∈ W0 := W0_t (i := 669) (by decide +kernel) (by decide +kernel)
set_option maxRecDepth 100000 in
theorem wC_yX6_isDigit : Cond.code yX6_isDigit prog_8_method_10_code 1 (Option.some Jvm.ClassFile.FieldType.boolean) ∈ W0 := W0_t (i := 670) rfl rfl
theorem wM_RX6_47 : Cond.methodLink RX6 47 yJ9_min_7cf53 ∈ W0 := W0_t (i := 671) (by decide +kernel) (by decide +kernel)
theorem wM_RX5_26 : Cond.methodLink RX5 26 yX5_readItem ∈ W0 := W0_t (i := 672) (by decide +kernel) (by decide +kernel)
theorem wI_yX5_readItem : Cond.instanceMethod yX5_readItem ∈ W0 := W0_t (i := 674) (by decide +kernel) (by decide +kernel)
set_option maxRecDepth 100000 in
theorem wC_yX5_readItem : Cond.code yX5_readItem prog_7_method_3_code 2 (Option.none : Option Jvm.ClassFile.FieldType) ∈ W0 := W0_t (i := 675) rfl rfl
theorem wM_RX5_44 : Cond.methodLink RX5 44 yX5_hasKind ∈ W0 := W0_t (i := 676) (by decide +kernel) (by decide +kernel)
theorem wI_yX5_hasKind : Cond.instanceMethod yX5_hasKind ∈ W0 := W0_t (i := 678) (by decide +kernel) (by decide +kernel)
set_option maxRecDepth 100000 in
theorem wC_yX5_hasKind : Cond.code yX5_hasKind prog_7_method_8_code 1 (Option.some Jvm.ClassFile.FieldType.boolean) ∈ W0 := W0_t (i := 679) rfl rfl
theorem wM_RX5_37 : Cond.methodLink RX5 37 yX6_isSort ∈ W0 := W0_t (i := 680) (by decide +kernel) (by decide +kernel)
theorem wI_yX6_isSort : Cond.instanceMethod yX6_isSort ∈ W0 := W0_t (i := 681) (by decide +kernel) (by decide +kernel)
theorem wE_yX6_isSort : Cond.selects RX6 yX6_isSort yX6_isSort ∈ W0 := W0_t (i := 682) (by decide +kernel) (by decide +kernel)
set_option maxRecDepth 100000 in
theorem wC_yX6_isSort : Cond.code yX6_isSort prog_8_method_5_code 2 (Option.some Jvm.ClassFile.FieldType.boolean) ∈ W0 := W0_t (i := 683) rfl rfl
theorem wM_RX5_64 : Cond.methodLink RX5 64 yX6_value ∈ W0 := W0_t (i := 684) (by decide +kernel) (by decide +kernel)
theorem wI_yX6_value : Cond.instanceMethod yX6_value ∈ W0 := W0_t (i := 685) (by decide +kernel) (by decide +kernel)
theorem wE_yX6_value : Cond.selects RX6 yX6_value yX6_value ∈ W0 := W0_t (i := 686) (by decide +kernel) (by decide +kernel)
set_option maxRecDepth 100000 in
theorem wC_yX6_value : Cond.code yX6_value prog_8_method_4_code 1 (Option.some Jvm.ClassFile.FieldType.int) ∈ W0 := W0_t (i := 687) rfl rfl
theorem wM_RX5_47 : Cond.methodLink RX5 47 yX5_readThing ∈ W0 := W0_t (i := 688) (by decide +kernel) (by decide +kernel)
theorem wI_yX5_readThing : Cond.instanceMethod yX5_readThing ∈ W0 := W0_t (i := 690) (by decide +kernel) (by decide +kernel)
set_option maxRecDepth 100000 in
theorem wC_yX5_readThing : Cond.code yX5_readThing prog_7_method_4_code 5 (Option.none : Option Jvm.ClassFile.FieldType) ∈ W0 := W0_t (i := 691) rfl rfl
theorem wM_RX5_61 : Cond.methodLink RX5 61 yX1_isFull ∈ W0 := W0_t (i := 692) (by decide +kernel) (by decide +kernel)
theorem wM_RX5_41 : Cond.methodLink RX5 41 yX5_fail ∈ W0 := W0_t (i := 693) (by decide +kernel) (by decide +kernel)
theorem wI_yX5_fail : Cond.instanceMethod yX5_fail ∈ W0 := W0_t (i := 695) (by decide +kernel) (by decide +kernel)
set_option maxRecDepth 100000 in
theorem wC_yX5_fail : Cond.code yX5_fail prog_7_method_11_code 1 (Option.none : Option Jvm.ClassFile.FieldType) ∈ W0 := W0_t (i := 696) rfl rfl
theorem wM_RX5_98 : Cond.methodLink RX5 98 yX6_begin ∈ W0 := W0_t (i := 697) (by decide +kernel) (by decide +kernel)
theorem wI_yX6_begin : Cond.instanceMethod yX6_begin ∈ W0 := W0_t (i := 698) (by decide +kernel) (by decide +kernel)
theorem wE_yX6_begin : Cond.selects RX6 yX6_begin yX6_begin ∈ W0 := W0_t (i := 699) (by decide +kernel) (by decide +kernel)
set_option maxRecDepth 100000 in
theorem wC_yX6_begin : Cond.code yX6_begin prog_8_method_3_code 1 (Option.some Jvm.ClassFile.FieldType.int) ∈ W0 := W0_t (i := 700) rfl rfl
theorem wM_RX5_34 : Cond.methodLink RX5 34 yX6_advance ∈ W0 := W0_t (i := 701) (by decide +kernel) (by decide +kernel)
theorem wI_yX6_advance : Cond.instanceMethod yX6_advance ∈ W0 := W0_t (i := 702) (by decide +kernel) (by decide +kernel)
theorem wE_yX6_advance : Cond.selects RX6 yX6_advance yX6_advance ∈ W0 := W0_t (i := 703) (by decide +kernel) (by decide +kernel)
set_option maxRecDepth 100000 in
theorem wC_yX6_advance : Cond.code yX6_advance prog_8_method_7_code 1 (Option.none : Option Jvm.ClassFile.FieldType) ∈ W0 := W0_t (i := 704) rfl rfl
theorem wM_RX5_50 : Cond.methodLink RX5 50 yX5_hasWord ∈ W0 := W0_t (i := 705) (by decide +kernel) (by decide +kernel)
theorem wI_yX5_hasWord : Cond.instanceMethod yX5_hasWord ∈ W0 := W0_t (i := 707) (by decide +kernel) (by decide +kernel)
set_option maxRecDepth 100000 in
theorem wC_yX5_hasWord : Cond.code yX5_hasWord prog_7_method_7_code 2 (Option.some Jvm.ClassFile.FieldType.boolean) ∈ W0 := W0_t (i := 708) rfl rfl
theorem wM_RX5_95 : Cond.methodLink RX5 95 yX6_isWord ∈ W0 := W0_t (i := 709) (by decide +kernel) (by decide +kernel)
theorem wI_yX6_isWord : Cond.instanceMethod yX6_isWord ∈ W0 := W0_t (i := 710) (by decide +kernel) (by decide +kernel)
theorem wE_yX6_isWord : Cond.selects RX6 yX6_isWord yX6_isWord ∈ W0 := W0_t (i := 711) (by decide +kernel) (by decide +kernel)
set_option maxRecDepth 100000 in
theorem wC_yX6_isWord : Cond.code yX6_isWord prog_8_method_6_code 2 (Option.some Jvm.ClassFile.FieldType.boolean) ∈ W0 := W0_t (i := 712) rfl rfl
theorem wM_RX5_75 : Cond.methodLink RX5 75 yX5_readNumber ∈ W0 := W0_t (i := 715) (by decide +kernel) (by decide +kernel)
theorem wI_yX5_readNumber : Cond.instanceMethod yX5_readNumber ∈ W0 := W0_t (i := 717) (by decide +kernel) (by decide +kernel)
set_option maxRecDepth 100000 in
theorem wC_yX5_readNumber : Cond.code yX5_readNumber prog_7_method_6_code 5 (Option.some Jvm.ClassFile.FieldType.int) ∈ W0 := W0_t (i := 718) rfl rfl
theorem wM_RX5_92 : Cond.methodLink RX5 92 yX5_hasNumber ∈ W0 := W0_t (i := 719) (by decide +kernel) (by decide +kernel)
theorem wI_yX5_hasNumber : Cond.instanceMethod yX5_hasNumber ∈ W0 := W0_t (i := 721) (by decide +kernel) (by decide +kernel)
set_option maxRecDepth 100000 in
theorem wC_yX5_hasNumber : Cond.code yX5_hasNumber prog_7_method_9_code 1 (Option.some Jvm.ClassFile.FieldType.boolean) ∈ W0 := W0_t (i := 722) rfl rfl
theorem wM_RX5_79 : Cond.methodLink RX5 79 yX1_add ∈ W0 := W0_t (i := 723) (by decide +kernel) (by decide +kernel)
theorem wM_RX5_53 : Cond.methodLink RX5 53 yX5_readPond ∈ W0 := W0_t (i := 724) (by decide +kernel) (by decide +kernel)
theorem wI_yX5_readPond : Cond.instanceMethod yX5_readPond ∈ W0 := W0_t (i := 726) (by decide +kernel) (by decide +kernel)
set_option maxRecDepth 100000 in
theorem wC_yX5_readPond : Cond.code yX5_readPond prog_7_method_5_code 4 (Option.none : Option Jvm.ClassFile.FieldType) ∈ W0 := W0_t (i := 727) rfl rfl
theorem wM_RX5_30 : Cond.methodLink RX5 30 yX5_hasSign ∈ W0 := W0_t (i := 730) (by decide +kernel) (by decide +kernel)
theorem wI_yX5_hasSign : Cond.instanceMethod yX5_hasSign ∈ W0 := W0_t (i := 732) (by decide +kernel) (by decide +kernel)
set_option maxRecDepth 100000 in
theorem wC_yX5_hasSign : Cond.code yX5_hasSign prog_7_method_10_code 1 (Option.some Jvm.ClassFile.FieldType.boolean) ∈ W0 := W0_t (i := 733) rfl rfl
theorem wM_RL_154 : Cond.methodLink RL 154 yX7_hold ∈ W0 := W0_t (i := 735) (by decide +kernel) (by decide +kernel)
theorem wI_yX7_hold : Cond.instanceMethod yX7_hold ∈ W0 := W0_t (i := 736) (by decide +kernel) (by decide +kernel)
theorem wE_yX7_hold : Cond.selects RX7 yX7_hold yX7_hold ∈ W0 := W0_t (i := 737) (by decide +kernel) (by decide +kernel)
set_option maxRecDepth 100000 in
theorem wC_yX7_hold : Cond.code yX7_hold prog_1_method_36_code 3 (Option.some Jvm.ClassFile.FieldType.int) ∈ W0 := W0_t (i := 738) rfl rfl
theorem wM_RX7_243 : Cond.methodLink RX7 243 yX7_isSpot ∈ W0 := W0_t (i := 739) (by decide +kernel) (by decide +kernel)
theorem wS_yX7_isSpot : Cond.static yX7_isSpot ∈ W0 := W0_t (i := 740) (by decide +kernel) (by decide +kernel)
set_option maxRecDepth 100000 in
theorem wC_yX7_isSpot : Cond.code yX7_isSpot prog_1_method_55_code 1 (Option.some Jvm.ClassFile.FieldType.boolean) ∈ W0 := W0_t (i := 741) rfl rfl
theorem wM_RL_158 : Cond.methodLink RL 158 yX7_as ∈ W0 := W0_t (i := 742) (by decide +kernel) (by decide +kernel)
theorem wI_yX7_as : Cond.instanceMethod yX7_as ∈ W0 := W0_t (i := 743) (by decide +kernel) (by decide +kernel)
theorem wE_yX7_as : Cond.selects RX7 yX7_as yX7_as ∈ W0 := W0_t (i := 744) (by decide +kernel) (by decide +kernel)
set_option maxRecDepth 100000 in
theorem wC_yX7_as : Cond.code yX7_as prog_1_method_37_code 4 (Option.some Jvm.ClassFile.FieldType.int) ∈ W0 := W0_t (i := 745) rfl rfl
theorem wM_RX7_250 : Cond.methodLink RX7 250 yX1_isOfKind ∈ W0 := W0_t (i := 746) (by decide +kernel) (by decide +kernel)
theorem wI_yX1_isOfKind : Cond.instanceMethod yX1_isOfKind ∈ W0 := W0_t (i := 747) (by decide +kernel) (by decide +kernel)
theorem wE_yX1_isOfKind : Cond.selects RX1 yX1_isOfKind yX1_isOfKind ∈ W0 := W0_t (i := 748) (by decide +kernel) (by decide +kernel)
set_option maxRecDepth 100000 in
theorem wC_yX1_isOfKind : Cond.code yX1_isOfKind prog_3_method_6_code 3 (Option.some Jvm.ClassFile.FieldType.boolean) ∈ W0 := W0_t (i := 749) rfl rfl
theorem wK_RX7_253 : Cond.constant RX7 253 (-1000003) ∈ W0 := W0_t (i := 750) (by decide +kernel) (by decide +kernel)
theorem wM_RL_162 : Cond.methodLink RL 162 yX7_sheet ∈ W0 := W0_t (i := 751) (by decide +kernel) (by decide +kernel)
theorem wI_yX7_sheet : Cond.instanceMethod yX7_sheet ∈ W0 := W0_t (i := 752) (by decide +kernel) (by decide +kernel)
theorem wE_yX7_sheet : Cond.selects RX7 yX7_sheet yX7_sheet ∈ W0 := W0_t (i := 753) (by decide +kernel) (by decide +kernel)
set_option maxRecDepth 100000 in
theorem wC_yX7_sheet : Cond.code yX7_sheet prog_1_method_38_code 4 (Option.some Jvm.ClassFile.FieldType.int) ∈ W0 := W0_t (i := 754) rfl rfl
theorem wM_RX7_257 : Cond.methodLink RX7 257 yX7_isBits ∈ W0 := W0_t (i := 755) (by decide +kernel) (by decide +kernel)
theorem wS_yX7_isBits : Cond.static yX7_isBits ∈ W0 := W0_t (i := 756) (by decide +kernel) (by decide +kernel)
set_option maxRecDepth 100000 in
theorem wC_yX7_isBits : Cond.code yX7_isBits prog_1_method_57_code 1 (Option.some Jvm.ClassFile.FieldType.boolean) ∈ W0 := W0_t (i := 757) rfl rfl
theorem wK_RX7_260 : Cond.constant RX7 260 (-1000007) ∈ W0 := W0_t (i := 758) (by decide +kernel) (by decide +kernel)
theorem wM_RX7_261 : Cond.methodLink RX7 261 yX3_clear ∈ W0 := W0_t (i := 759) (by decide +kernel) (by decide +kernel)
theorem wI_yX3_clear : Cond.instanceMethod yX3_clear ∈ W0 := W0_t (i := 760) (by decide +kernel) (by decide +kernel)
theorem wE_yX3_clear : Cond.selects RX3 yX3_clear yX3_clear ∈ W0 := W0_t (i := 761) (by decide +kernel) (by decide +kernel)
set_option maxRecDepth 100000 in
theorem wC_yX3_clear : Cond.code yX3_clear prog_5_method_3_code 4 (Option.none : Option Jvm.ClassFile.FieldType) ∈ W0 := W0_t (i := 762) rfl rfl
theorem wM_RL_166 : Cond.methodLink RL 166 yX7_write ∈ W0 := W0_t (i := 763) (by decide +kernel) (by decide +kernel)
theorem wI_yX7_write : Cond.instanceMethod yX7_write ∈ W0 := W0_t (i := 764) (by decide +kernel) (by decide +kernel)
theorem wE_yX7_write : Cond.selects RX7 yX7_write yX7_write ∈ W0 := W0_t (i := 765) (by decide +kernel) (by decide +kernel)
set_option maxRecDepth 100000 in
theorem wC_yX7_write : Cond.code yX7_write prog_1_method_39_code 5 (Option.some Jvm.ClassFile.FieldType.int) ∈ W0 := W0_t (i := 766) rfl rfl
theorem wM_RX7_266 : Cond.methodLink RX7 266 yX3_put ∈ W0 := W0_t (i := 767) (by decide +kernel) (by decide +kernel)
theorem wI_yX3_put : Cond.instanceMethod yX3_put ∈ W0 := W0_t (i := 768) (by decide +kernel) (by decide +kernel)
theorem wE_yX3_put : Cond.selects RX3 yX3_put yX3_put ∈ W0 := W0_t (i := 769) (by decide +kernel) (by decide +kernel)
set_option maxRecDepth 100000 in
theorem wC_yX3_put : Cond.code yX3_put prog_5_method_4_code 3 (Option.none : Option Jvm.ClassFile.FieldType) ∈ W0 := W0_t (i := 770) rfl rfl
theorem wM_RL_170 : Cond.methodLink RL 170 yX7_copy ∈ W0 := W0_t (i := 771) (by decide +kernel) (by decide +kernel)
theorem wI_yX7_copy : Cond.instanceMethod yX7_copy ∈ W0 := W0_t (i := 772) (by decide +kernel) (by decide +kernel)
theorem wE_yX7_copy : Cond.selects RX7 yX7_copy yX7_copy ∈ W0 := W0_t (i := 773) (by decide +kernel) (by decide +kernel)
set_option maxRecDepth 100000 in
theorem wC_yX7_copy : Cond.code yX7_copy prog_1_method_40_code 8 (Option.some Jvm.ClassFile.FieldType.int) ∈ W0 := W0_t (i := 774) rfl rfl
theorem wM_RX7_275 : Cond.methodLink RX7 275 yX3_reaches ∈ W0 := W0_t (i := 775) (by decide +kernel) (by decide +kernel)
theorem wI_yX3_reaches : Cond.instanceMethod yX3_reaches ∈ W0 := W0_t (i := 776) (by decide +kernel) (by decide +kernel)
theorem wE_yX3_reaches : Cond.selects RX3 yX3_reaches yX3_reaches ∈ W0 := W0_t (i := 777) (by decide +kernel) (by decide +kernel)
set_option maxRecDepth 100000 in
theorem wC_yX3_reaches : Cond.code yX3_reaches prog_5_method_5_code 3 (Option.some Jvm.ClassFile.FieldType.boolean) ∈ W0 := W0_t (i := 778) rfl rfl
theorem wM_RX7_281 : Cond.methodLink RX7 281 (⟨"java/lang/System", "arraycopy", "(Ljava/lang/Object;ILjava/lang/Object;II)V"⟩ : MethodName) ∈ W0 := W0_t (i := 779) (by decide +kernel) (by decide +kernel)
theorem wM_RL_175 : Cond.methodLink RL 175 yX7_load ∈ W0 := W0_t (i := 780) (by decide +kernel) (by decide +kernel)
theorem wI_yX7_load : Cond.instanceMethod yX7_load ∈ W0 := W0_t (i := 781) (by decide +kernel) (by decide +kernel)
theorem wE_yX7_load : Cond.selects RX7 yX7_load yX7_load ∈ W0 := W0_t (i := 782) (by decide +kernel) (by decide +kernel)
set_option maxRecDepth 100000 in
theorem wC_yX7_load : Cond.code yX7_load prog_1_method_41_code 5 (Option.some Jvm.ClassFile.FieldType.int) ∈ W0 := W0_t (i := 783) rfl rfl
theorem wM_RX7_287 : Cond.methodLink RX7 287 yX7_fitsDepth ∈ W0 := W0_t (i := 784) (by decide +kernel) (by decide +kernel)
theorem wS_yX7_fitsDepth : Cond.static yX7_fitsDepth ∈ W0 := W0_t (i := 785) (by decide +kernel) (by decide +kernel)
set_option maxRecDepth 100000 in
theorem wC_yX7_fitsDepth : Cond.code yX7_fitsDepth prog_1_method_61_code 2 (Option.some Jvm.ClassFile.FieldType.boolean) ∈ W0 := W0_t (i := 786) rfl rfl
theorem wM_RL_179 : Cond.methodLink RL 179 yX7_judge ∈ W0 := W0_t (i := 787) (by decide +kernel) (by decide +kernel)
theorem wI_yX7_judge : Cond.instanceMethod yX7_judge ∈ W0 := W0_t (i := 788) (by decide +kernel) (by decide +kernel)
theorem wE_yX7_judge : Cond.selects RX7 yX7_judge yX7_judge ∈ W0 := W0_t (i := 789) (by decide +kernel) (by decide +kernel)
set_option maxRecDepth 100000 in
theorem wC_yX7_judge : Cond.code yX7_judge prog_1_method_42_code 6 (Option.some Jvm.ClassFile.FieldType.int) ∈ W0 := W0_t (i := 790) rfl rfl
theorem wM_RL_183 : Cond.methodLink RL 183 yX7_image ∈ W0 := W0_t (i := 791) (by decide +kernel) (by decide +kernel)
theorem wI_yX7_image : Cond.instanceMethod yX7_image ∈ W0 := W0_t (i := 792) (by decide +kernel) (by decide +kernel)
theorem wE_yX7_image : Cond.selects RX7 yX7_image yX7_image ∈ W0 := W0_t (i := 793) (by decide +kernel) (by decide +kernel)
set_option maxRecDepth 100000 in
theorem wC_yX7_image : Cond.code yX7_image prog_1_method_43_code 1 (Option.some Jvm.ClassFile.FieldType.int) ∈ W0 := W0_t (i := 794) rfl rfl
theorem wM_RL_187 : Cond.methodLink RL 187 yX7_undo ∈ W0 := W0_t (i := 795) (by decide +kernel) (by decide +kernel)
theorem wI_yX7_undo : Cond.instanceMethod yX7_undo ∈ W0 := W0_t (i := 796) (by decide +kernel) (by decide +kernel)
theorem wE_yX7_undo : Cond.selects RX7 yX7_undo yX7_undo ∈ W0 := W0_t (i := 797) (by decide +kernel) (by decide +kernel)
set_option maxRecDepth 100000 in
theorem wC_yX7_undo : Cond.code yX7_undo prog_1_method_44_code 1 (Option.some Jvm.ClassFile.FieldType.int) ∈ W0 := W0_t (i := 798) rfl rfl
theorem wM_RL_191 : Cond.methodLink RL 191 yX7_tear ∈ W0 := W0_t (i := 799) (by decide +kernel) (by decide +kernel)
theorem wI_yX7_tear : Cond.instanceMethod yX7_tear ∈ W0 := W0_t (i := 800) (by decide +kernel) (by decide +kernel)
theorem wE_yX7_tear : Cond.selects RX7 yX7_tear yX7_tear ∈ W0 := W0_t (i := 801) (by decide +kernel) (by decide +kernel)
set_option maxRecDepth 100000 in
theorem wC_yX7_tear : Cond.code yX7_tear prog_1_method_45_code 2 (Option.some Jvm.ClassFile.FieldType.int) ∈ W0 := W0_t (i := 802) rfl rfl
theorem wM_RL_195 : Cond.methodLink RL 195 yX7_count ∈ W0 := W0_t (i := 803) (by decide +kernel) (by decide +kernel)
theorem wI_yX7_count : Cond.instanceMethod yX7_count ∈ W0 := W0_t (i := 804) (by decide +kernel) (by decide +kernel)
theorem wE_yX7_count : Cond.selects RX7 yX7_count yX7_count ∈ W0 := W0_t (i := 805) (by decide +kernel) (by decide +kernel)
set_option maxRecDepth 100000 in
theorem wC_yX7_count : Cond.code yX7_count prog_1_method_46_code 2 (Option.some Jvm.ClassFile.FieldType.int) ∈ W0 := W0_t (i := 806) rfl rfl
theorem wM_RX7_291 : Cond.methodLink RX7 291 yX1_spotsInUse ∈ W0 := W0_t (i := 807) (by decide +kernel) (by decide +kernel)
theorem wI_yX1_spotsInUse : Cond.instanceMethod yX1_spotsInUse ∈ W0 := W0_t (i := 808) (by decide +kernel) (by decide +kernel)
theorem wE_yX1_spotsInUse : Cond.selects RX1 yX1_spotsInUse yX1_spotsInUse ∈ W0 := W0_t (i := 809) (by decide +kernel) (by decide +kernel)
set_option maxRecDepth 100000 in
theorem wC_yX1_spotsInUse : Cond.code yX1_spotsInUse prog_3_method_13_code 6 (Option.some Jvm.ClassFile.FieldType.int) ∈ W0 := W0_t (i := 810) rfl rfl
theorem wM_RL_199 : Cond.methodLink RL 199 yX7_status ∈ W0 := W0_t (i := 811) (by decide +kernel) (by decide +kernel)
theorem wI_yX7_status : Cond.instanceMethod yX7_status ∈ W0 := W0_t (i := 812) (by decide +kernel) (by decide +kernel)
theorem wE_yX7_status : Cond.selects RX7 yX7_status yX7_status ∈ W0 := W0_t (i := 813) (by decide +kernel) (by decide +kernel)
set_option maxRecDepth 100000 in
theorem wC_yX7_status : Cond.code yX7_status prog_1_method_47_code 7 (Option.some Jvm.ClassFile.FieldType.int) ∈ W0 := W0_t (i := 814) rfl rfl
theorem wL_RL_10 : Cond.classLink RL 10 RX8 ∈ W0 := W0_t (i := 815) (by decide +kernel) (by decide +kernel)
theorem wT_RX8 : Cond.instantiable RX8 24 ∈ W0 := W0_t (i := 816) (by decide +kernel) (by decide +kernel)
theorem wM_RL_12 : Cond.methodLink RL 12 yX8_init ∈ W0 := W0_t (i := 817) (by decide +kernel) (by decide +kernel)
theorem wI_yX8_init : Cond.instanceMethod yX8_init ∈ W0 := W0_t (i := 818) (by decide +kernel) (by decide +kernel)
set_option maxRecDepth 100000 in
theorem wC_yX8_init : Cond.code yX8_init prog_10_method_1_code 2 (Option.none : Option Jvm.ClassFile.FieldType) ∈ W0 := W0_t (i := 819) rfl rfl
theorem wM_RX8_1 : Cond.methodLink RX8 1 (⟨"java/lang/Object", "<init>", "()V"⟩ : MethodName) ∈ W0 := W0_t (i := 820) (by decide +kernel) (by decide +kernel)
theorem wM_RX8_53 : Cond.methodLink RX8 53 yX8_lays1 ∈ W0 := W0_t (i := 821) (by decide +kernel) (by decide +kernel)
theorem wI_yX8_lays1 : Cond.instanceMethod yX8_lays1 ∈ W0 := W0_t (i := 823) (by decide +kernel) (by decide +kernel)
set_option maxRecDepth 100000 in
theorem wC_yX8_lays1 : Cond.code yX8_lays1 prog_10_method_9_code 4 (Option.none : Option Jvm.ClassFile.FieldType) ∈ W0 := W0_t (i := 824) rfl rfl
theorem wF_RX8_9 : Cond.fieldLink RX8 9 "PondLensesModel" "s" "[I" ∈ W0 := W0_t (i := 825) (by decide +kernel) (by decide +kernel)
theorem wF_RX8_13 : Cond.fieldLink RX8 13 "PondLensesModel" "kept" "[I" ∈ W0 := W0_t (i := 826) (by decide +kernel) (by decide +kernel)
theorem wF_RX8_16 : Cond.fieldLink RX8 16 "PondLensesModel" "aside" "[I" ∈ W0 := W0_t (i := 827) (by decide +kernel) (by decide +kernel)
theorem wF_RX8_263 : Cond.fieldLink RX8 263 "PondLensesModel" "isKept" "Z" ∈ W0 := W0_t (i := 828) (by decide +kernel) (by decide +kernel)
theorem wF_RX8_19 : Cond.fieldLink RX8 19 "PondLensesModel" "found" "[I" ∈ W0 := W0_t (i := 829) (by decide +kernel) (by decide +kernel)
theorem wF_RX8_130 : Cond.fieldLink RX8 130 "PondLensesModel" "ends" "I" ∈ W0 := W0_t (i := 830) (by decide +kernel) (by decide +kernel)
theorem wF_RX8_134 : Cond.fieldLink RX8 134 "PondLensesModel" "size" "I" ∈ W0 := W0_t (i := 831) (by decide +kernel) (by decide +kernel)
theorem wF_RX8_137 : Cond.fieldLink RX8 137 "PondLensesModel" "turned" "I" ∈ W0 := W0_t (i := 832) (by decide +kernel) (by decide +kernel)
theorem wF_RX8_140 : Cond.fieldLink RX8 140 "PondLensesModel" "flipped" "I" ∈ W0 := W0_t (i := 833) (by decide +kernel) (by decide +kernel)
theorem wF_RX8_22 : Cond.fieldLink RX8 22 "PondLensesModel" "counts" "[I" ∈ W0 := W0_t (i := 834) (by decide +kernel) (by decide +kernel)
theorem wF_RX8_25 : Cond.fieldLink RX8 25 "PondLensesModel" "tape" "[I" ∈ W0 := W0_t (i := 835) (by decide +kernel) (by decide +kernel)
theorem wF_RX8_203 : Cond.fieldLink RX8 203 "PondLensesModel" "taped" "I" ∈ W0 := W0_t (i := 836) (by decide +kernel) (by decide +kernel)
theorem wF_RX8_216 : Cond.fieldLink RX8 216 "PondLensesModel" "token" "I" ∈ W0 := W0_t (i := 837) (by decide +kernel) (by decide +kernel)
theorem wF_RX8_209 : Cond.fieldLink RX8 209 "PondLensesModel" "begun" "I" ∈ W0 := W0_t (i := 838) (by decide +kernel) (by decide +kernel)
theorem wF_RX8_206 : Cond.fieldLink RX8 206 "PondLensesModel" "ended" "I" ∈ W0 := W0_t (i := 839) (by decide +kernel) (by decide +kernel)
theorem wF_RX8_212 : Cond.fieldLink RX8 212 "PondLensesModel" "value" "J" ∈ W0 := W0_t (i := 840) (by decide +kernel) (by decide +kernel)
theorem wF_RX8_28 : Cond.fieldLink RX8 28 "PondLensesModel" "letters" "[C" ∈ W0 := W0_t (i := 841) (by decide +kernel) (by decide +kernel)
theorem wF_RX8_32 : Cond.fieldLink RX8 32 "PondLensesModel" "more" "[C" ∈ W0 := W0_t (i := 842) (by decide +kernel) (by decide +kernel)
theorem wF_RX8_35 : Cond.fieldLink RX8 35 "PondLensesModel" "others" "[C" ∈ W0 := W0_t (i := 843) (by decide +kernel) (by decide +kernel)
theorem wF_RX8_38 : Cond.fieldLink RX8 38 "PondLensesModel" "about" "[C" ∈ W0 := W0_t (i := 844) (by decide +kernel) (by decide +kernel)
theorem wF_RX8_41 : Cond.fieldLink RX8 41 "PondLensesModel" "widths" "[I" ∈ W0 := W0_t (i := 845) (by decide +kernel) (by decide +kernel)
theorem wF_RX8_44 : Cond.fieldLink RX8 44 "PondLensesModel" "sizes" "[I" ∈ W0 := W0_t (i := 846) (by decide +kernel) (by decide +kernel)
theorem wF_RX8_47 : Cond.fieldLink RX8 47 "PondLensesModel" "cells" "[I" ∈ W0 := W0_t (i := 847) (by decide +kernel) (by decide +kernel)
theorem wF_RX8_50 : Cond.fieldLink RX8 50 "PondLensesModel" "carried" "[I" ∈ W0 := W0_t (i := 848) (by decide +kernel) (by decide +kernel)
theorem wY_RX8_s : Cond.laysFinal "PondLensesModel" "PondLensesModel" "s" "[I" ∈ W0 := W0_t (i := 849) (by decide +kernel) (by decide +kernel)
theorem wY_RX8_kept : Cond.laysFinal "PondLensesModel" "PondLensesModel" "kept" "[I" ∈ W0 := W0_t (i := 851) (by decide +kernel) (by decide +kernel)
theorem wY_RX8_aside : Cond.laysFinal "PondLensesModel" "PondLensesModel" "aside" "[I" ∈ W0 := W0_t (i := 853) (by decide +kernel) (by decide +kernel)
theorem wY_RX8_isKept : Cond.lays "PondLensesModel" "PondLensesModel" "isKept" "Z" ∈ W0 := W0_t (i := 855) (by decide +kernel) (by decide +kernel)
theorem wY_RX8_found : Cond.laysFinal "PondLensesModel" "PondLensesModel" "found" "[I" ∈ W0 := W0_t (i := 857) (by decide +kernel) (by decide +kernel)
theorem wY_RX8_ends : Cond.lays "PondLensesModel" "PondLensesModel" "ends" "I" ∈ W0 := W0_t (i := 859) (by decide +kernel) (by decide +kernel)
theorem wY_RX8_size : Cond.lays "PondLensesModel" "PondLensesModel" "size" "I" ∈ W0 := W0_t (i := 861) (by decide +kernel) (by decide +kernel)
theorem wY_RX8_turned : Cond.lays "PondLensesModel" "PondLensesModel" "turned" "I" ∈ W0 := W0_t (i := 863) (by decide +kernel) (by decide +kernel)
theorem wY_RX8_flipped : Cond.lays "PondLensesModel" "PondLensesModel" "flipped" "I" ∈ W0 := W0_t (i := 865) (by decide +kernel) (by decide +kernel)
theorem wY_RX8_counts : Cond.laysFinal "PondLensesModel" "PondLensesModel" "counts" "[I" ∈ W0 := W0_t (i := 867) (by decide +kernel) (by decide +kernel)
theorem wY_RX8_tape : Cond.laysFinal "PondLensesModel" "PondLensesModel" "tape" "[I" ∈ W0 := W0_t (i := 869) (by decide +kernel) (by decide +kernel)
theorem wY_RX8_taped : Cond.lays "PondLensesModel" "PondLensesModel" "taped" "I" ∈ W0 := W0_t (i := 871) (by decide +kernel) (by decide +kernel)
theorem wY_RX8_token : Cond.lays "PondLensesModel" "PondLensesModel" "token" "I" ∈ W0 := W0_t (i := 873) (by decide +kernel) (by decide +kernel)
theorem wY_RX8_begun : Cond.lays "PondLensesModel" "PondLensesModel" "begun" "I" ∈ W0 := W0_t (i := 875) (by decide +kernel) (by decide +kernel)
theorem wY_RX8_ended : Cond.lays "PondLensesModel" "PondLensesModel" "ended" "I" ∈ W0 := W0_t (i := 877) (by decide +kernel) (by decide +kernel)
theorem wY_RX8_value : Cond.lays "PondLensesModel" "PondLensesModel" "value" "J" ∈ W0 := W0_t (i := 879) (by decide +kernel) (by decide +kernel)
theorem wY_RX8_letters : Cond.laysFinal "PondLensesModel" "PondLensesModel" "letters" "[C" ∈ W0 := W0_t (i := 881) (by decide +kernel) (by decide +kernel)
theorem wY_RX8_more : Cond.laysFinal "PondLensesModel" "PondLensesModel" "more" "[C" ∈ W0 := W0_t (i := 883) (by decide +kernel) (by decide +kernel)
theorem wY_RX8_others : Cond.laysFinal "PondLensesModel" "PondLensesModel" "others" "[C" ∈ W0 := W0_t (i := 885) (by decide +kernel) (by decide +kernel)
theorem wY_RX8_about : Cond.laysFinal "PondLensesModel" "PondLensesModel" "about" "[C" ∈ W0 := W0_t (i := 887) (by decide +kernel) (by decide +kernel)
theorem wY_RX8_widths : Cond.laysFinal "PondLensesModel" "PondLensesModel" "widths" "[I" ∈ W0 := W0_t (i := 889) (by decide +kernel) (by decide +kernel)
theorem wY_RX8_sizes : Cond.laysFinal "PondLensesModel" "PondLensesModel" "sizes" "[I" ∈ W0 := W0_t (i := 891) (by decide +kernel) (by decide +kernel)
theorem wY_RX8_cells : Cond.laysFinal "PondLensesModel" "PondLensesModel" "cells" "[I" ∈ W0 := W0_t (i := 893) (by decide +kernel) (by decide +kernel)
theorem wY_RX8_carried : Cond.laysFinal "PondLensesModel" "PondLensesModel" "carried" "[I" ∈ W0 := W0_t (i := 895) (by decide +kernel) (by decide +kernel)
theorem wM_RL_17 : Cond.methodLink RL 17 yX8_pond ∈ W0 := W0_t (i := 899) (by decide +kernel) (by decide +kernel)
theorem wI_yX8_pond : Cond.instanceMethod yX8_pond ∈ W0 := W0_t (i := 900) (by decide +kernel) (by decide +kernel)
theorem wE_yX8_pond : Cond.selects RX8 yX8_pond yX8_pond ∈ W0 := W0_t (i := 901) (by decide +kernel) (by decide +kernel)
set_option maxRecDepth 100000 in
theorem wC_yX8_pond : Cond.code yX8_pond prog_10_method_25_code 3 (Option.some Jvm.ClassFile.FieldType.int) ∈ W0 := W0_t (i := 902) rfl rfl
theorem wM_RX8_102 : Cond.methodLink RX8 102 yX8_isPond ∈ W0 := W0_t (i := 903) (by decide +kernel) (by decide +kernel)
theorem wS_yX8_isPond : Cond.static yX8_isPond ∈ W0 := W0_t (i := 904) (by decide +kernel) (by decide +kernel)
set_option maxRecDepth 100000 in
theorem wC_yX8_isPond : Cond.code yX8_isPond prog_10_method_6_code 1 (Option.some Jvm.ClassFile.FieldType.boolean) ∈ W0 := W0_t (i := 905) rfl rfl
theorem wM_RX8_58 : Cond.methodLink RX8 58 yX8_in1 ∈ W0 := W0_t (i := 906) (by decide +kernel) (by decide +kernel)
theorem wS_yX8_in1 : Cond.static yX8_in1 ∈ W0 := W0_t (i := 907) (by decide +kernel) (by decide +kernel)
set_option maxRecDepth 100000 in
theorem wC_yX8_in1 : Cond.code yX8_in1 prog_10_method_3_code 3 (Option.some Jvm.ClassFile.FieldType.boolean) ∈ W0 := W0_t (i := 908) rfl rfl
theorem wM_RX8_106 : Cond.methodLink RX8 106 yX8_no ∈ W0 := W0_t (i := 909) (by decide +kernel) (by decide +kernel)
theorem wI_yX8_no : Cond.instanceMethod yX8_no ∈ W0 := W0_t (i := 911) (by decide +kernel) (by decide +kernel)
set_option maxRecDepth 100000 in
theorem wC_yX8_no : Cond.code yX8_no prog_10_method_2_code 2 (Option.some Jvm.ClassFile.FieldType.int) ∈ W0 := W0_t (i := 912) rfl rfl
theorem wK_RX8_57 : Cond.constant RX8 57 (-1000001) ∈ W0 := W0_t (i := 913) (by decide +kernel) (by decide +kernel)
theorem wM_RX8_66 : Cond.methodLink RX8 66 yX8_of1 ∈ W0 := W0_t (i := 914) (by decide +kernel) (by decide +kernel)
theorem wI_yX8_of1 : Cond.instanceMethod yX8_of1 ∈ W0 := W0_t (i := 916) (by decide +kernel) (by decide +kernel)
set_option maxRecDepth 100000 in
theorem wC_yX8_of1 : Cond.code yX8_of1 prog_10_method_8_code 3 (Option.some Jvm.ClassFile.FieldType.int) ∈ W0 := W0_t (i := 917) rfl rfl
theorem wM_RX8_69 : Cond.methodLink RX8 69 yX8_inside ∈ W0 := W0_t (i := 918) (by decide +kernel) (by decide +kernel)
theorem wI_yX8_inside : Cond.instanceMethod yX8_inside ∈ W0 := W0_t (i := 920) (by decide +kernel) (by decide +kernel)
set_option maxRecDepth 100000 in
theorem wC_yX8_inside : Cond.code yX8_inside prog_10_method_14_code 4 (Option.some Jvm.ClassFile.FieldType.int) ∈ W0 := W0_t (i := 921) rfl rfl
theorem wM_RX8_62 : Cond.methodLink RX8 62 yX8_get ∈ W0 := W0_t (i := 922) (by decide +kernel) (by decide +kernel)
theorem wI_yX8_get : Cond.instanceMethod yX8_get ∈ W0 := W0_t (i := 924) (by decide +kernel) (by decide +kernel)
set_option maxRecDepth 100000 in
theorem wC_yX8_get : Cond.code yX8_get prog_10_method_10_code 3 (Option.some Jvm.ClassFile.FieldType.int) ∈ W0 := W0_t (i := 925) rfl rfl
theorem wM_RX8_73 : Cond.methodLink RX8 73 yX8_seenIn ∈ W0 := W0_t (i := 926) (by decide +kernel) (by decide +kernel)
theorem wI_yX8_seenIn : Cond.instanceMethod yX8_seenIn ∈ W0 := W0_t (i := 928) (by decide +kernel) (by decide +kernel)
set_option maxRecDepth 100000 in
theorem wC_yX8_seenIn : Cond.code yX8_seenIn prog_10_method_15_code 2 (Option.some Jvm.ClassFile.FieldType.int) ∈ W0 := W0_t (i := 929) rfl rfl
theorem wM_RL_22 : Cond.methodLink RL 22 yX8_dig ∈ W0 := W0_t (i := 930) (by decide +kernel) (by decide +kernel)
theorem wI_yX8_dig : Cond.instanceMethod yX8_dig ∈ W0 := W0_t (i := 931) (by decide +kernel) (by decide +kernel)
theorem wE_yX8_dig : Cond.selects RX8 yX8_dig yX8_dig ∈ W0 := W0_t (i := 932) (by decide +kernel) (by decide +kernel)
set_option maxRecDepth 100000 in
theorem wC_yX8_dig : Cond.code yX8_dig prog_10_method_27_code 5 (Option.some Jvm.ClassFile.FieldType.int) ∈ W0 := W0_t (i := 933) rfl rfl
theorem wM_RX8_109 : Cond.methodLink RX8 109 yX8_isOfPond ∈ W0 := W0_t (i := 934) (by decide +kernel) (by decide +kernel)
theorem wS_yX8_isOfPond : Cond.static yX8_isOfPond ∈ W0 := W0_t (i := 935) (by decide +kernel) (by decide +kernel)
set_option maxRecDepth 100000 in
theorem wC_yX8_isOfPond : Cond.code yX8_isOfPond prog_10_method_26_code 4 (Option.some Jvm.ClassFile.FieldType.boolean) ∈ W0 := W0_t (i := 936) rfl rfl
theorem wM_RL_26 : Cond.methodLink RL 26 yX8_thing ∈ W0 := W0_t (i := 937) (by decide +kernel) (by decide +kernel)
theorem wI_yX8_thing : Cond.instanceMethod yX8_thing ∈ W0 := W0_t (i := 938) (by decide +kernel) (by decide +kernel)
theorem wE_yX8_thing : Cond.selects RX8 yX8_thing yX8_thing ∈ W0 := W0_t (i := 939) (by decide +kernel) (by decide +kernel)
set_option maxRecDepth 100000 in
theorem wC_yX8_thing : Cond.code yX8_thing prog_10_method_29_code 3 (Option.some Jvm.ClassFile.FieldType.int) ∈ W0 := W0_t (i := 940) rfl rfl
theorem wM_RX8_112 : Cond.methodLink RX8 112 yX8_addsThing ∈ W0 := W0_t (i := 941) (by decide +kernel) (by decide +kernel)
theorem wI_yX8_addsThing : Cond.instanceMethod yX8_addsThing ∈ W0 := W0_t (i := 943) (by decide +kernel) (by decide +kernel)
set_option maxRecDepth 100000 in
theorem wC_yX8_addsThing : Cond.code yX8_addsThing prog_10_method_28_code 4 (Option.none : Option Jvm.ClassFile.FieldType) ∈ W0 := W0_t (i := 944) rfl rfl
theorem wM_RX8_95 : Cond.methodLink RX8 95 yX8_puts ∈ W0 := W0_t (i := 945) (by decide +kernel) (by decide +kernel)
theorem wI_yX8_puts : Cond.instanceMethod yX8_puts ∈ W0 := W0_t (i := 947) (by decide +kernel) (by decide +kernel)
set_option maxRecDepth 100000 in
theorem wC_yX8_puts : Cond.code yX8_puts prog_10_method_11_code 4 (Option.none : Option Jvm.ClassFile.FieldType) ∈ W0 := W0_t (i := 948) rfl rfl
theorem wM_RL_30 : Cond.methodLink RL 30 yX8_of ∈ W0 := W0_t (i := 949) (by decide +kernel) (by decide +kernel)
theorem wI_yX8_of : Cond.instanceMethod yX8_of ∈ W0 := W0_t (i := 950) (by decide +kernel) (by decide +kernel)
theorem wE_yX8_of : Cond.selects RX8 yX8_of yX8_of ∈ W0 := W0_t (i := 951) (by decide +kernel) (by decide +kernel)
set_option maxRecDepth 100000 in
theorem wC_yX8_of : Cond.code yX8_of prog_10_method_30_code 3 (Option.some Jvm.ClassFile.FieldType.int) ∈ W0 := W0_t (i := 952) rfl rfl
theorem wM_RX8_116 : Cond.methodLink RX8 116 yX8_isThing ∈ W0 := W0_t (i := 953) (by decide +kernel) (by decide +kernel)
theorem wI_yX8_isThing : Cond.instanceMethod yX8_isThing ∈ W0 := W0_t (i := 955) (by decide +kernel) (by decide +kernel)
set_option maxRecDepth 100000 in
theorem wC_yX8_isThing : Cond.code yX8_isThing prog_10_method_7_code 2 (Option.some Jvm.ClassFile.FieldType.boolean) ∈ W0 := W0_t (i := 956) rfl rfl
theorem wM_RX8_92 : Cond.methodLink RX8 92 yX8_nextOf ∈ W0 := W0_t (i := 957) (by decide +kernel) (by decide +kernel)
theorem wI_yX8_nextOf : Cond.instanceMethod yX8_nextOf ∈ W0 := W0_t (i := 959) (by decide +kernel) (by decide +kernel)
set_option maxRecDepth 100000 in
theorem wC_yX8_nextOf : Cond.code yX8_nextOf prog_10_method_23_code 2 (Option.some Jvm.ClassFile.FieldType.int) ∈ W0 := W0_t (i := 960) rfl rfl
theorem wM_RX8_89 : Cond.methodLink RX8 89 yX8_dryNext ∈ W0 := W0_t (i := 961) (by decide +kernel) (by decide +kernel)
theorem wI_yX8_dryNext : Cond.instanceMethod yX8_dryNext ∈ W0 := W0_t (i := 963) (by decide +kernel) (by decide +kernel)
set_option maxRecDepth 100000 in
theorem wC_yX8_dryNext : Cond.code yX8_dryNext prog_10_method_22_code 5 (Option.some Jvm.ClassFile.FieldType.int) ∈ W0 := W0_t (i := 964) rfl rfl
theorem wM_RX8_83 : Cond.methodLink RX8 83 yX8_asFrog ∈ W0 := W0_t (i := 965) (by decide +kernel) (by decide +kernel)
theorem wI_yX8_asFrog : Cond.instanceMethod yX8_asFrog ∈ W0 := W0_t (i := 967) (by decide +kernel) (by decide +kernel)
set_option maxRecDepth 100000 in
theorem wC_yX8_asFrog : Cond.code yX8_asFrog prog_10_method_20_code 2 (Option.some Jvm.ClassFile.FieldType.int) ∈ W0 := W0_t (i := 968) rfl rfl
theorem wM_RX8_86 : Cond.methodLink RX8 86 yX8_asHeron ∈ W0 := W0_t (i := 969) (by decide +kernel) (by decide +kernel)
theorem wI_yX8_asHeron : Cond.instanceMethod yX8_asHeron ∈ W0 := W0_t (i := 971) (by decide +kernel) (by decide +kernel)
set_option maxRecDepth 100000 in
theorem wC_yX8_asHeron : Cond.code yX8_asHeron prog_10_method_21_code 4 (Option.some Jvm.ClassFile.FieldType.int) ∈ W0 := W0_t (i := 972) rfl rfl
theorem wM_RX8_76 : Cond.methodLink RX8 76 yX8_showing ∈ W0 := W0_t (i := 973) (by decide +kernel) (by decide +kernel)
theorem wI_yX8_showing : Cond.instanceMethod yX8_showing ∈ W0 := W0_t (i := 975) (by decide +kernel) (by decide +kernel)
set_option maxRecDepth 100000 in
theorem wC_yX8_showing : Cond.code yX8_showing prog_10_method_17_code 4 (Option.some Jvm.ClassFile.FieldType.int) ∈ W0 := W0_t (i := 976) rfl rfl
theorem wM_RX8_79 : Cond.methodLink RX8 79 yX8_hasFish ∈ W0 := W0_t (i := 977) (by decide +kernel) (by decide +kernel)
theorem wI_yX8_hasFish : Cond.instanceMethod yX8_hasFish ∈ W0 := W0_t (i := 979) (by decide +kernel) (by decide +kernel)
set_option maxRecDepth 100000 in
theorem wC_yX8_hasFish : Cond.code yX8_hasFish prog_10_method_19_code 6 (Option.some Jvm.ClassFile.FieldType.boolean) ∈ W0 := W0_t (i := 980) rfl rfl
theorem wM_RL_34 : Cond.methodLink RL 34 yX8_change ∈ W0 := W0_t (i := 981) (by decide +kernel) (by decide +kernel)
theorem wI_yX8_change : Cond.instanceMethod yX8_change ∈ W0 := W0_t (i := 982) (by decide +kernel) (by decide +kernel)
theorem wE_yX8_change : Cond.selects RX8 yX8_change yX8_change ∈ W0 := W0_t (i := 983) (by decide +kernel) (by decide +kernel)
set_option maxRecDepth 100000 in
theorem wC_yX8_change : Cond.code yX8_change prog_10_method_31_code 5 (Option.some Jvm.ClassFile.FieldType.int) ∈ W0 := W0_t (i := 984) rfl rfl
theorem wM_RL_39 : Cond.methodLink RL 39 yX8_rain ∈ W0 := W0_t (i := 985) (by decide +kernel) (by decide +kernel)
theorem wI_yX8_rain : Cond.instanceMethod yX8_rain ∈ W0 := W0_t (i := 986) (by decide +kernel) (by decide +kernel)
theorem wE_yX8_rain : Cond.selects RX8 yX8_rain yX8_rain ∈ W0 := W0_t (i := 987) (by decide +kernel) (by decide +kernel)
set_option maxRecDepth 100000 in
theorem wC_yX8_rain : Cond.code yX8_rain prog_10_method_32_code 3 (Option.some Jvm.ClassFile.FieldType.int) ∈ W0 := W0_t (i := 988) rfl rfl
theorem wM_RL_43 : Cond.methodLink RL 43 yX8_go ∈ W0 := W0_t (i := 989) (by decide +kernel) (by decide +kernel)
theorem wI_yX8_go : Cond.instanceMethod yX8_go ∈ W0 := W0_t (i := 990) (by decide +kernel) (by decide +kernel)
theorem wE_yX8_go : Cond.selects RX8 yX8_go yX8_go ∈ W0 := W0_t (i := 991) (by decide +kernel) (by decide +kernel)
set_option maxRecDepth 100000 in
theorem wC_yX8_go : Cond.code yX8_go prog_10_method_33_code 3 (Option.some Jvm.ClassFile.FieldType.int) ∈ W0 := W0_t (i := 992) rfl rfl
theorem wK_RX8_98 : Cond.constant RX8 98 (99999) ∈ W0 := W0_t (i := 993) (by decide +kernel) (by decide +kernel)
theorem wM_RX8_119 : Cond.methodLink RX8 119 yX8_minute ∈ W0 := W0_t (i := 994) (by decide +kernel) (by decide +kernel)
theorem wI_yX8_minute : Cond.instanceMethod yX8_minute ∈ W0 := W0_t (i := 996) (by decide +kernel) (by decide +kernel)
set_option maxRecDepth 100000 in
theorem wC_yX8_minute : Cond.code yX8_minute prog_10_method_24_code 2 (Option.none : Option Jvm.ClassFile.FieldType) ∈ W0 := W0_t (i := 997) rfl rfl
theorem wM_RX8_99 : Cond.methodLink RX8 99 yX8_less ∈ W0 := W0_t (i := 998) (by decide +kernel) (by decide +kernel)
theorem wS_yX8_less : Cond.static yX8_less ∈ W0 := W0_t (i := 999) (by decide +kernel) (by decide +kernel)
set_option maxRecDepth 100000 in
theorem wC_yX8_less : Cond.code yX8_less prog_10_method_4_code 2 (Option.some Jvm.ClassFile.FieldType.int) ∈ W0 := W0_t (i := 1000) rfl rfl
theorem wM_RL_47 : Cond.methodLink RL 47 yX8_now ∈ W0 := W0_t (i := 1001) (by decide +kernel) (by decide +kernel)
theorem wI_yX8_now : Cond.instanceMethod yX8_now ∈ W0 := W0_t (i := 1002) (by decide +kernel) (by decide +kernel)
theorem wE_yX8_now : Cond.selects RX8 yX8_now yX8_now ∈ W0 := W0_t (i := 1003) (by decide +kernel) (by decide +kernel)
set_option maxRecDepth 100000 in
theorem wC_yX8_now : Cond.code yX8_now prog_10_method_34_code 2 (Option.some Jvm.ClassFile.FieldType.int) ∈ W0 := W0_t (i := 1004) rfl rfl
theorem wM_RX8_122 : Cond.methodLink RX8 122 yX8_pondsWith ∈ W0 := W0_t (i := 1005) (by decide +kernel) (by decide +kernel)
theorem wI_yX8_pondsWith : Cond.instanceMethod yX8_pondsWith ∈ W0 := W0_t (i := 1007) (by decide +kernel) (by decide +kernel)
set_option maxRecDepth 100000 in
theorem wC_yX8_pondsWith : Cond.code yX8_pondsWith prog_10_method_16_code 4 (Option.some Jvm.ClassFile.FieldType.int) ∈ W0 := W0_t (i := 1008) rfl rfl
theorem wM_RX8_126 : Cond.methodLink RX8 126 yX8_lengths ∈ W0 := W0_t (i := 1009) (by decide +kernel) (by decide +kernel)
theorem wI_yX8_lengths : Cond.instanceMethod yX8_lengths ∈ W0 := W0_t (i := 1011) (by decide +kernel) (by decide +kernel)
set_option maxRecDepth 100000 in
theorem wC_yX8_lengths : Cond.code yX8_lengths prog_10_method_18_code 3 (Option.some Jvm.ClassFile.FieldType.int) ∈ W0 := W0_t (i := 1012) rfl rfl
theorem wM_RL_51 : Cond.methodLink RL 51 yX8_chain ∈ W0 := W0_t (i := 1013) (by decide +kernel) (by decide +kernel)
theorem wI_yX8_chain : Cond.instanceMethod yX8_chain ∈ W0 := W0_t (i := 1014) (by decide +kernel) (by decide +kernel)
theorem wE_yX8_chain : Cond.selects RX8 yX8_chain yX8_chain ∈ W0 := W0_t (i := 1015) (by decide +kernel) (by decide +kernel)
set_option maxRecDepth 100000 in
theorem wC_yX8_chain : Cond.code yX8_chain prog_10_method_38_code 4 (Option.some Jvm.ClassFile.FieldType.int) ∈ W0 := W0_t (i := 1016) rfl rfl
theorem wM_RX8_150 : Cond.methodLink RX8 150 yX8_goesThrough ∈ W0 := W0_t (i := 1017) (by decide +kernel) (by decide +kernel)
theorem wI_yX8_goesThrough : Cond.instanceMethod yX8_goesThrough ∈ W0 := W0_t (i := 1019) (by decide +kernel) (by decide +kernel)
set_option maxRecDepth 100000 in
theorem wC_yX8_goesThrough : Cond.code yX8_goesThrough prog_10_method_37_code 4 (Option.none : Option Jvm.ClassFile.FieldType) ∈ W0 := W0_t (i := 1020) rfl rfl
theorem wM_RX8_143 : Cond.methodLink RX8 143 yX8_begins ∈ W0 := W0_t (i := 1021) (by decide +kernel) (by decide +kernel)
theorem wI_yX8_begins : Cond.instanceMethod yX8_begins ∈ W0 := W0_t (i := 1023) (by decide +kernel) (by decide +kernel)
set_option maxRecDepth 100000 in
theorem wC_yX8_begins : Cond.code yX8_begins prog_10_method_35_code 2 (Option.none : Option Jvm.ClassFile.FieldType) ∈ W0 := W0_t (i := 1024) rfl rfl
theorem wM_RX8_147 : Cond.methodLink RX8 147 yX8_steps ∈ W0 := W0_t (i := 1025) (by decide +kernel) (by decide +kernel)
theorem wI_yX8_steps : Cond.instanceMethod yX8_steps ∈ W0 := W0_t (i := 1027) (by decide +kernel) (by decide +kernel)
set_option maxRecDepth 100000 in
theorem wC_yX8_steps : Cond.code yX8_steps prog_10_method_36_code 1 (Option.none : Option Jvm.ClassFile.FieldType) ∈ W0 := W0_t (i := 1028) rfl rfl
theorem wM_RL_55 : Cond.methodLink RL 55 yX8_through ∈ W0 := W0_t (i := 1029) (by decide +kernel) (by decide +kernel)
theorem wI_yX8_through : Cond.instanceMethod yX8_through ∈ W0 := W0_t (i := 1030) (by decide +kernel) (by decide +kernel)
theorem wE_yX8_through : Cond.selects RX8 yX8_through yX8_through ∈ W0 := W0_t (i := 1031) (by decide +kernel) (by decide +kernel)
set_option maxRecDepth 100000 in
theorem wC_yX8_through : Cond.code yX8_through prog_10_method_39_code 4 (Option.some Jvm.ClassFile.FieldType.int) ∈ W0 := W0_t (i := 1032) rfl rfl
theorem wM_RL_59 : Cond.methodLink RL 59 yX8_upright ∈ W0 := W0_t (i := 1033) (by decide +kernel) (by decide +kernel)
theorem wI_yX8_upright : Cond.instanceMethod yX8_upright ∈ W0 := W0_t (i := 1034) (by decide +kernel) (by decide +kernel)
theorem wE_yX8_upright : Cond.selects RX8 yX8_upright yX8_upright ∈ W0 := W0_t (i := 1035) (by decide +kernel) (by decide +kernel)
set_option maxRecDepth 100000 in
theorem wC_yX8_upright : Cond.code yX8_upright prog_10_method_40_code 3 (Option.some Jvm.ClassFile.FieldType.int) ∈ W0 := W0_t (i := 1036) rfl rfl
theorem wM_RL_63 : Cond.methodLink RL 63 yX8_large ∈ W0 := W0_t (i := 1037) (by decide +kernel) (by decide +kernel)
theorem wI_yX8_large : Cond.instanceMethod yX8_large ∈ W0 := W0_t (i := 1038) (by decide +kernel) (by decide +kernel)
theorem wE_yX8_large : Cond.selects RX8 yX8_large yX8_large ∈ W0 := W0_t (i := 1039) (by decide +kernel) (by decide +kernel)
set_option maxRecDepth 100000 in
theorem wC_yX8_large : Cond.code yX8_large prog_10_method_41_code 4 (Option.some Jvm.ClassFile.FieldType.int) ∈ W0 := W0_t (i := 1040) rfl rfl
theorem wM_RL_67 : Cond.methodLink RL 67 yX8_round ∈ W0 := W0_t (i := 1041) (by decide +kernel) (by decide +kernel)
theorem wI_yX8_round : Cond.instanceMethod yX8_round ∈ W0 := W0_t (i := 1042) (by decide +kernel) (by decide +kernel)
theorem wE_yX8_round : Cond.selects RX8 yX8_round yX8_round ∈ W0 := W0_t (i := 1043) (by decide +kernel) (by decide +kernel)
set_option maxRecDepth 100000 in
theorem wC_yX8_round : Cond.code yX8_round prog_10_method_45_code 2 (Option.some Jvm.ClassFile.FieldType.int) ∈ W0 := W0_t (i := 1044) rfl rfl
theorem wM_RX8_156 : Cond.methodLink RX8 156 yX8_roundOf ∈ W0 := W0_t (i := 1045) (by decide +kernel) (by decide +kernel)
theorem wI_yX8_roundOf : Cond.instanceMethod yX8_roundOf ∈ W0 := W0_t (i := 1047) (by decide +kernel) (by decide +kernel)
set_option maxRecDepth 100000 in
theorem wC_yX8_roundOf : Cond.code yX8_roundOf prog_10_method_44_code 5 (Option.some Jvm.ClassFile.FieldType.int) ∈ W0 := W0_t (i := 1048) rfl rfl
theorem wM_RX8_159 : Cond.methodLink RX8 159 yX8_bits ∈ W0 := W0_t (i := 1049) (by decide +kernel) (by decide +kernel)
theorem wS_yX8_bits : Cond.static yX8_bits ∈ W0 := W0_t (i := 1050) (by decide +kernel) (by decide +kernel)
set_option maxRecDepth 100000 in
theorem wC_yX8_bits : Cond.code yX8_bits prog_10_method_5_code 3 (Option.some Jvm.ClassFile.FieldType.int) ∈ W0 := W0_t (i := 1051) rfl rfl
theorem wM_RL_72 : Cond.methodLink RL 72 yX8_rounds ∈ W0 := W0_t (i := 1052) (by decide +kernel) (by decide +kernel)
theorem wI_yX8_rounds : Cond.instanceMethod yX8_rounds ∈ W0 := W0_t (i := 1053) (by decide +kernel) (by decide +kernel)
theorem wE_yX8_rounds : Cond.selects RX8 yX8_rounds yX8_rounds ∈ W0 := W0_t (i := 1054) (by decide +kernel) (by decide +kernel)
set_option maxRecDepth 100000 in
theorem wC_yX8_rounds : Cond.code yX8_rounds prog_10_method_46_code 4 (Option.some Jvm.ClassFile.FieldType.int) ∈ W0 := W0_t (i := 1055) rfl rfl
theorem wM_RX8_153 : Cond.methodLink RX8 153 yX8_isRound ∈ W0 := W0_t (i := 1056) (by decide +kernel) (by decide +kernel)
theorem wI_yX8_isRound : Cond.instanceMethod yX8_isRound ∈ W0 := W0_t (i := 1058) (by decide +kernel) (by decide +kernel)
set_option maxRecDepth 100000 in
theorem wC_yX8_isRound : Cond.code yX8_isRound prog_10_method_42_code 4 (Option.some Jvm.ClassFile.FieldType.boolean) ∈ W0 := W0_t (i := 1059) rfl rfl
theorem wM_RL_76 : Cond.methodLink RL 76 yX8_before ∈ W0 := W0_t (i := 1060) (by decide +kernel) (by decide +kernel)
theorem wI_yX8_before : Cond.instanceMethod yX8_before ∈ W0 := W0_t (i := 1061) (by decide +kernel) (by decide +kernel)
theorem wE_yX8_before : Cond.selects RX8 yX8_before yX8_before ∈ W0 := W0_t (i := 1062) (by decide +kernel) (by decide +kernel)
set_option maxRecDepth 100000 in
theorem wC_yX8_before : Cond.code yX8_before prog_10_method_47_code 2 (Option.some Jvm.ClassFile.FieldType.int) ∈ W0 := W0_t (i := 1063) rfl rfl
theorem wM_RX8_162 : Cond.methodLink RX8 162 yX8_aheadOf ∈ W0 := W0_t (i := 1064) (by decide +kernel) (by decide +kernel)
theorem wI_yX8_aheadOf : Cond.instanceMethod yX8_aheadOf ∈ W0 := W0_t (i := 1066) (by decide +kernel) (by decide +kernel)
set_option maxRecDepth 100000 in
theorem wC_yX8_aheadOf : Cond.code yX8_aheadOf prog_10_method_43_code 4 (Option.some Jvm.ClassFile.FieldType.int) ∈ W0 := W0_t (i := 1067) rfl rfl
theorem wM_RL_80 : Cond.methodLink RL 80 yX8_shownBy ∈ W0 := W0_t (i := 1068) (by decide +kernel) (by decide +kernel)
theorem wI_yX8_shownBy : Cond.instanceMethod yX8_shownBy ∈ W0 := W0_t (i := 1069) (by decide +kernel) (by decide +kernel)
theorem wE_yX8_shownBy : Cond.selects RX8 yX8_shownBy yX8_shownBy ∈ W0 := W0_t (i := 1070) (by decide +kernel) (by decide +kernel)
set_option maxRecDepth 100000 in
theorem wC_yX8_shownBy : Cond.code yX8_shownBy prog_10_method_48_code 6 (Option.some Jvm.ClassFile.FieldType.int) ∈ W0 := W0_t (i := 1071) rfl rfl
theorem wM_RL_84 : Cond.methodLink RL 84 yX8_ahead ∈ W0 := W0_t (i := 1072) (by decide +kernel) (by decide +kernel)
theorem wI_yX8_ahead : Cond.instanceMethod yX8_ahead ∈ W0 := W0_t (i := 1073) (by decide +kernel) (by decide +kernel)
theorem wE_yX8_ahead : Cond.selects RX8 yX8_ahead yX8_ahead ∈ W0 := W0_t (i := 1074) (by decide +kernel) (by decide +kernel)
set_option maxRecDepth 100000 in
theorem wC_yX8_ahead : Cond.code yX8_ahead prog_10_method_49_code 4 (Option.some Jvm.ClassFile.FieldType.int) ∈ W0 := W0_t (i := 1075) rfl rfl
theorem wM_RX8_165 : Cond.methodLink RX8 165 yX8_setsAside ∈ W0 := W0_t (i := 1076) (by decide +kernel) (by decide +kernel)
theorem wI_yX8_setsAside : Cond.instanceMethod yX8_setsAside ∈ W0 := W0_t (i := 1078) (by decide +kernel) (by decide +kernel)
set_option maxRecDepth 100000 in
theorem wC_yX8_setsAside : Cond.code yX8_setsAside prog_10_method_12_code 2 (Option.none : Option Jvm.ClassFile.FieldType) ∈ W0 := W0_t (i := 1079) rfl rfl
theorem wM_RX8_168 : Cond.methodLink RX8 168 yX8_laysBack ∈ W0 := W0_t (i := 1080) (by decide +kernel) (by decide +kernel)
theorem wI_yX8_laysBack : Cond.instanceMethod yX8_laysBack ∈ W0 := W0_t (i := 1082) (by decide +kernel) (by decide +kernel)
set_option maxRecDepth 100000 in
theorem wC_yX8_laysBack : Cond.code yX8_laysBack prog_10_method_13_code 2 (Option.none : Option Jvm.ClassFile.FieldType) ∈ W0 := W0_t (i := 1083) rfl rfl
theorem wM_RL_88 : Cond.methodLink RL 88 yX8_comes ∈ W0 := W0_t (i := 1084) (by decide +kernel) (by decide +kernel)
theorem wI_yX8_comes : Cond.instanceMethod yX8_comes ∈ W0 := W0_t (i := 1085) (by decide +kernel) (by decide +kernel)
theorem wE_yX8_comes : Cond.selects RX8 yX8_comes yX8_comes ∈ W0 := W0_t (i := 1086) (by decide +kernel) (by decide +kernel)
set_option maxRecDepth 100000 in
theorem wC_yX8_comes : Cond.code yX8_comes prog_10_method_51_code 3 (Option.some Jvm.ClassFile.FieldType.int) ∈ W0 := W0_t (i := 1087) rfl rfl
theorem wM_RX8_171 : Cond.methodLink RX8 171 yX8_firstBy ∈ W0 := W0_t (i := 1088) (by decide +kernel) (by decide +kernel)
theorem wI_yX8_firstBy : Cond.instanceMethod yX8_firstBy ∈ W0 := W0_t (i := 1090) (by decide +kernel) (by decide +kernel)
set_option maxRecDepth 100000 in
theorem wC_yX8_firstBy : Cond.code yX8_firstBy prog_10_method_50_code 7 (Option.some Jvm.ClassFile.FieldType.int) ∈ W0 := W0_t (i := 1091) rfl rfl
theorem wM_RL_92 : Cond.methodLink RL 92 yX8_seen ∈ W0 := W0_t (i := 1092) (by decide +kernel) (by decide +kernel)
theorem wI_yX8_seen : Cond.instanceMethod yX8_seen ∈ W0 := W0_t (i := 1093) (by decide +kernel) (by decide +kernel)
theorem wE_yX8_seen : Cond.selects RX8 yX8_seen yX8_seen ∈ W0 := W0_t (i := 1094) (by decide +kernel) (by decide +kernel)
set_option maxRecDepth 100000 in
theorem wC_yX8_seen : Cond.code yX8_seen prog_10_method_52_code 3 (Option.some Jvm.ClassFile.FieldType.int) ∈ W0 := W0_t (i := 1095) rfl rfl
theorem wM_RL_96 : Cond.methodLink RL 96 yX8_meet ∈ W0 := W0_t (i := 1096) (by decide +kernel) (by decide +kernel)
theorem wI_yX8_meet : Cond.instanceMethod yX8_meet ∈ W0 := W0_t (i := 1097) (by decide +kernel) (by decide +kernel)
theorem wE_yX8_meet : Cond.selects RX8 yX8_meet yX8_meet ∈ W0 := W0_t (i := 1098) (by decide +kernel) (by decide +kernel)
set_option maxRecDepth 100000 in
theorem wC_yX8_meet : Cond.code yX8_meet prog_10_method_53_code 3 (Option.some Jvm.ClassFile.FieldType.int) ∈ W0 := W0_t (i := 1099) rfl rfl
theorem wM_RL_100 : Cond.methodLink RL 100 yX8_cast ∈ W0 := W0_t (i := 1100) (by decide +kernel) (by decide +kernel)
theorem wI_yX8_cast : Cond.instanceMethod yX8_cast ∈ W0 := W0_t (i := 1101) (by decide +kernel) (by decide +kernel)
theorem wE_yX8_cast : Cond.selects RX8 yX8_cast yX8_cast ∈ W0 := W0_t (i := 1102) (by decide +kernel) (by decide +kernel)
set_option maxRecDepth 100000 in
theorem wC_yX8_cast : Cond.code yX8_cast prog_10_method_56_code 4 (Option.some Jvm.ClassFile.FieldType.int) ∈ W0 := W0_t (i := 1103) rfl rfl
theorem wM_RX8_175 : Cond.methodLink RX8 175 yX8_countsNone ∈ W0 := W0_t (i := 1104) (by decide +kernel) (by decide +kernel)
theorem wI_yX8_countsNone : Cond.instanceMethod yX8_countsNone ∈ W0 := W0_t (i := 1106) (by decide +kernel) (by decide +kernel)
set_option maxRecDepth 100000 in
theorem wC_yX8_countsNone : Cond.code yX8_countsNone prog_10_method_55_code 2 (Option.none : Option Jvm.ClassFile.FieldType) ∈ W0 := W0_t (i := 1107) rfl rfl
theorem wM_RX8_178 : Cond.methodLink RX8 178 yX8_mostOf ∈ W0 := W0_t (i := 1108) (by decide +kernel) (by decide +kernel)
theorem wI_yX8_mostOf : Cond.instanceMethod yX8_mostOf ∈ W0 := W0_t (i := 1110) (by decide +kernel) (by decide +kernel)
set_option maxRecDepth 100000 in
theorem wC_yX8_mostOf : Cond.code yX8_mostOf prog_10_method_54_code 3 (Option.some Jvm.ClassFile.FieldType.int) ∈ W0 := W0_t (i := 1111) rfl rfl
theorem wM_RL_104 : Cond.methodLink RL 104 yX8_kindFor ∈ W0 := W0_t (i := 1112) (by decide +kernel) (by decide +kernel)
theorem wI_yX8_kindFor : Cond.instanceMethod yX8_kindFor ∈ W0 := W0_t (i := 1113) (by decide +kernel) (by decide +kernel)
theorem wE_yX8_kindFor : Cond.selects RX8 yX8_kindFor yX8_kindFor ∈ W0 := W0_t (i := 1114) (by decide +kernel) (by decide +kernel)
set_option maxRecDepth 100000 in
theorem wC_yX8_kindFor : Cond.code yX8_kindFor prog_10_method_57_code 7 (Option.some Jvm.ClassFile.FieldType.int) ∈ W0 := W0_t (i := 1115) rfl rfl
theorem wM_RL_108 : Cond.methodLink RL 108 yX8_fits ∈ W0 := W0_t (i := 1116) (by decide +kernel) (by decide +kernel)
theorem wI_yX8_fits : Cond.instanceMethod yX8_fits ∈ W0 := W0_t (i := 1117) (by decide +kernel) (by decide +kernel)
theorem wE_yX8_fits : Cond.selects RX8 yX8_fits yX8_fits ∈ W0 := W0_t (i := 1118) (by decide +kernel) (by decide +kernel)
set_option maxRecDepth 100000 in
theorem wC_yX8_fits : Cond.code yX8_fits prog_10_method_63_code 6 (Option.some Jvm.ClassFile.FieldType.int) ∈ W0 := W0_t (i := 1119) rfl rfl
theorem wM_RX8_190 : Cond.methodLink RX8 190 yX8_wrongSight ∈ W0 := W0_t (i := 1120) (by decide +kernel) (by decide +kernel)
theorem wI_yX8_wrongSight : Cond.instanceMethod yX8_wrongSight ∈ W0 := W0_t (i := 1122) (by decide +kernel) (by decide +kernel)
set_option maxRecDepth 100000 in
theorem wC_yX8_wrongSight : Cond.code yX8_wrongSight prog_10_method_60_code 4 (Option.some Jvm.ClassFile.FieldType.int) ∈ W0 := W0_t (i := 1123) rfl rfl
theorem wM_RX8_184 : Cond.methodLink RX8 184 yX8_wrongSheet ∈ W0 := W0_t (i := 1124) (by decide +kernel) (by decide +kernel)
theorem wI_yX8_wrongSheet : Cond.instanceMethod yX8_wrongSheet ∈ W0 := W0_t (i := 1126) (by decide +kernel) (by decide +kernel)
set_option maxRecDepth 100000 in
theorem wC_yX8_wrongSheet : Cond.code yX8_wrongSheet prog_10_method_59_code 2 (Option.some Jvm.ClassFile.FieldType.int) ∈ W0 := W0_t (i := 1127) rfl rfl
theorem wM_RX8_181 : Cond.methodLink RX8 181 yX8_isSheet ∈ W0 := W0_t (i := 1128) (by decide +kernel) (by decide +kernel)
theorem wS_yX8_isSheet : Cond.static yX8_isSheet ∈ W0 := W0_t (i := 1129) (by decide +kernel) (by decide +kernel)
set_option maxRecDepth 100000 in
theorem wC_yX8_isSheet : Cond.code yX8_isSheet prog_10_method_58_code 1 (Option.some Jvm.ClassFile.FieldType.boolean) ∈ W0 := W0_t (i := 1130) rfl rfl
theorem wM_RX8_193 : Cond.methodLink RX8 193 yX8_fitsAs ∈ W0 := W0_t (i := 1131) (by decide +kernel) (by decide +kernel)
theorem wI_yX8_fitsAs : Cond.instanceMethod yX8_fitsAs ∈ W0 := W0_t (i := 1133) (by decide +kernel) (by decide +kernel)
set_option maxRecDepth 100000 in
theorem wC_yX8_fitsAs : Cond.code yX8_fitsAs prog_10_method_62_code 6 (Option.some Jvm.ClassFile.FieldType.boolean) ∈ W0 := W0_t (i := 1134) rfl rfl
theorem wM_RX8_187 : Cond.methodLink RX8 187 yX8_told ∈ W0 := W0_t (i := 1135) (by decide +kernel) (by decide +kernel)
theorem wI_yX8_told : Cond.instanceMethod yX8_told ∈ W0 := W0_t (i := 1137) (by decide +kernel) (by decide +kernel)
set_option maxRecDepth 100000 in
theorem wC_yX8_told : Cond.code yX8_told prog_10_method_61_code 3 (Option.some Jvm.ClassFile.FieldType.int) ∈ W0 := W0_t (i := 1138) rfl rfl
theorem wM_RL_112 : Cond.methodLink RL 112 yX8_lens ∈ W0 := W0_t (i := 1139) (by decide +kernel) (by decide +kernel)
theorem wI_yX8_lens : Cond.instanceMethod yX8_lens ∈ W0 := W0_t (i := 1140) (by decide +kernel) (by decide +kernel)
theorem wE_yX8_lens : Cond.selects RX8 yX8_lens yX8_lens ∈ W0 := W0_t (i := 1141) (by decide +kernel) (by decide +kernel)
set_option maxRecDepth 100000 in
theorem wC_yX8_lens : Cond.code yX8_lens prog_10_method_64_code 5 (Option.some Jvm.ClassFile.FieldType.int) ∈ W0 := W0_t (i := 1142) rfl rfl
theorem wM_RL_116 : Cond.methodLink RL 116 yX8_which ∈ W0 := W0_t (i := 1143) (by decide +kernel) (by decide +kernel)
theorem wI_yX8_which : Cond.instanceMethod yX8_which ∈ W0 := W0_t (i := 1144) (by decide +kernel) (by decide +kernel)
theorem wE_yX8_which : Cond.selects RX8 yX8_which yX8_which ∈ W0 := W0_t (i := 1145) (by decide +kernel) (by decide +kernel)
set_option maxRecDepth 100000 in
theorem wC_yX8_which : Cond.code yX8_which prog_10_method_65_code 6 (Option.some Jvm.ClassFile.FieldType.int) ∈ W0 := W0_t (i := 1146) rfl rfl
theorem wM_RL_120 : Cond.methodLink RL 120 yX8_eyes ∈ W0 := W0_t (i := 1147) (by decide +kernel) (by decide +kernel)
theorem wI_yX8_eyes : Cond.instanceMethod yX8_eyes ∈ W0 := W0_t (i := 1148) (by decide +kernel) (by decide +kernel)
theorem wE_yX8_eyes : Cond.selects RX8 yX8_eyes yX8_eyes ∈ W0 := W0_t (i := 1149) (by decide +kernel) (by decide +kernel)
set_option maxRecDepth 100000 in
theorem wC_yX8_eyes : Cond.code yX8_eyes prog_10_method_66_code 5 (Option.some Jvm.ClassFile.FieldType.int) ∈ W0 := W0_t (i := 1150) rfl rfl
theorem wK_RX8_196 : Cond.constant RX8 196 (65536) ∈ W0 := W0_t (i := 1151) (by decide +kernel) (by decide +kernel)
theorem wM_RL_124 : Cond.methodLink RL 124 yX8_dredge ∈ W0 := W0_t (i := 1152) (by decide +kernel) (by decide +kernel)
theorem wI_yX8_dredge : Cond.instanceMethod yX8_dredge ∈ W0 := W0_t (i := 1153) (by decide +kernel) (by decide +kernel)
theorem wE_yX8_dredge : Cond.selects RX8 yX8_dredge yX8_dredge ∈ W0 := W0_t (i := 1154) (by decide +kernel) (by decide +kernel)
set_option maxRecDepth 100000 in
theorem wC_yX8_dredge : Cond.code yX8_dredge prog_10_method_67_code 8 (Option.some Jvm.ClassFile.FieldType.int) ∈ W0 := W0_t (i := 1155) rfl rfl
theorem wM_RL_128 : Cond.methodLink RL 128 yX8_watch ∈ W0 := W0_t (i := 1156) (by decide +kernel) (by decide +kernel)
theorem wI_yX8_watch : Cond.instanceMethod yX8_watch ∈ W0 := W0_t (i := 1157) (by decide +kernel) (by decide +kernel)
theorem wE_yX8_watch : Cond.selects RX8 yX8_watch yX8_watch ∈ W0 := W0_t (i := 1158) (by decide +kernel) (by decide +kernel)
set_option maxRecDepth 100000 in
theorem wC_yX8_watch : Cond.code yX8_watch prog_10_method_68_code 4 (Option.some Jvm.ClassFile.FieldType.int) ∈ W0 := W0_t (i := 1159) rfl rfl
theorem wM_RL_132 : Cond.methodLink RL 132 yX8_falls ∈ W0 := W0_t (i := 1160) (by decide +kernel) (by decide +kernel)
theorem wI_yX8_falls : Cond.instanceMethod yX8_falls ∈ W0 := W0_t (i := 1161) (by decide +kernel) (by decide +kernel)
theorem wE_yX8_falls : Cond.selects RX8 yX8_falls yX8_falls ∈ W0 := W0_t (i := 1162) (by decide +kernel) (by decide +kernel)
set_option maxRecDepth 100000 in
theorem wC_yX8_falls : Cond.code yX8_falls prog_10_method_70_code 5 (Option.some Jvm.ClassFile.FieldType.int) ∈ W0 := W0_t (i := 1163) rfl rfl
theorem wM_RX8_198 : Cond.methodLink RX8 198 yX8_draw ∈ W0 := W0_t (i := 1164) (by decide +kernel) (by decide +kernel)
theorem wI_yX8_draw : Cond.instanceMethod yX8_draw ∈ W0 := W0_t (i := 1166) (by decide +kernel) (by decide +kernel)
set_option maxRecDepth 100000 in
theorem wC_yX8_draw : Cond.code yX8_draw prog_10_method_69_code 1 (Option.some Jvm.ClassFile.FieldType.int) ∈ W0 := W0_t (i := 1167) rfl rfl
theorem wK_RX8_197 : Cond.constant RX8 197 (1103515245) ∈ W0 := W0_t (i := 1168) (by decide +kernel) (by decide +kernel)
theorem wM_RL_137 : Cond.methodLink RL 137 yX8_odds ∈ W0 := W0_t (i := 1169) (by decide +kernel) (by decide +kernel)
theorem wI_yX8_odds : Cond.instanceMethod yX8_odds ∈ W0 := W0_t (i := 1170) (by decide +kernel) (by decide +kernel)
theorem wE_yX8_odds : Cond.selects RX8 yX8_odds yX8_odds ∈ W0 := W0_t (i := 1171) (by decide +kernel) (by decide +kernel)
set_option maxRecDepth 100000 in
theorem wC_yX8_odds : Cond.code yX8_odds prog_10_method_71_code 13 (Option.some Jvm.ClassFile.FieldType.long) ∈ W0 := W0_t (i := 1172) rfl rfl
theorem wKL_RX8_201 : Cond.constantLong RX8 201 (16) ∈ W0 := W0_t (i := 1173) (by decide +kernel) (by decide +kernel)
theorem wM_RL_141 : Cond.methodLink RL 141 yX8_seed ∈ W0 := W0_t (i := 1174) (by decide +kernel) (by decide +kernel)
theorem wI_yX8_seed : Cond.instanceMethod yX8_seed ∈ W0 := W0_t (i := 1175) (by decide +kernel) (by decide +kernel)
theorem wE_yX8_seed : Cond.selects RX8 yX8_seed yX8_seed ∈ W0 := W0_t (i := 1176) (by decide +kernel) (by decide +kernel)
set_option maxRecDepth 100000 in
theorem wC_yX8_seed : Cond.code yX8_seed prog_10_method_72_code 3 (Option.some Jvm.ClassFile.FieldType.int) ∈ W0 := W0_t (i := 1177) rfl rfl
theorem wM_RL_145 : Cond.methodLink RL 145 yX8_feed ∈ W0 := W0_t (i := 1178) (by decide +kernel) (by decide +kernel)
theorem wI_yX8_feed : Cond.instanceMethod yX8_feed ∈ W0 := W0_t (i := 1179) (by decide +kernel) (by decide +kernel)
theorem wE_yX8_feed : Cond.selects RX8 yX8_feed yX8_feed ∈ W0 := W0_t (i := 1180) (by decide +kernel) (by decide +kernel)
set_option maxRecDepth 100000 in
theorem wC_yX8_feed : Cond.code yX8_feed prog_10_method_73_code 4 (Option.some Jvm.ClassFile.FieldType.int) ∈ W0 := W0_t (i := 1181) rfl rfl
theorem wM_RL_149 : Cond.methodLink RL 149 yX8_wipe ∈ W0 := W0_t (i := 1182) (by decide +kernel) (by decide +kernel)
theorem wI_yX8_wipe : Cond.instanceMethod yX8_wipe ∈ W0 := W0_t (i := 1183) (by decide +kernel) (by decide +kernel)
theorem wE_yX8_wipe : Cond.selects RX8 yX8_wipe yX8_wipe ∈ W0 := W0_t (i := 1184) (by decide +kernel) (by decide +kernel)
set_option maxRecDepth 100000 in
theorem wC_yX8_wipe : Cond.code yX8_wipe prog_10_method_74_code 2 (Option.some Jvm.ClassFile.FieldType.int) ∈ W0 := W0_t (i := 1185) rfl rfl
theorem wM_RL_153 : Cond.methodLink RL 153 yX8_text ∈ W0 := W0_t (i := 1186) (by decide +kernel) (by decide +kernel)
theorem wI_yX8_text : Cond.instanceMethod yX8_text ∈ W0 := W0_t (i := 1187) (by decide +kernel) (by decide +kernel)
theorem wE_yX8_text : Cond.selects RX8 yX8_text yX8_text ∈ W0 := W0_t (i := 1188) (by decide +kernel) (by decide +kernel)
set_option maxRecDepth 100000 in
theorem wC_yX8_text : Cond.code yX8_text prog_10_method_83_code 3 (Option.some Jvm.ClassFile.FieldType.int) ∈ W0 := W0_t (i := 1189) rfl rfl
theorem wM_RX8_237 : Cond.methodLink RX8 237 yX8_nextToken ∈ W0 := W0_t (i := 1190) (by decide +kernel) (by decide +kernel)
theorem wI_yX8_nextToken : Cond.instanceMethod yX8_nextToken ∈ W0 := W0_t (i := 1192) (by decide +kernel) (by decide +kernel)
set_option maxRecDepth 100000 in
theorem wC_yX8_nextToken : Cond.code yX8_nextToken prog_10_method_77_code 1 (Option.none : Option Jvm.ClassFile.FieldType) ∈ W0 := W0_t (i := 1193) rfl rfl
theorem wM_RX8_219 : Cond.methodLink RX8 219 yX8_isLetter ∈ W0 := W0_t (i := 1194) (by decide +kernel) (by decide +kernel)
theorem wS_yX8_isLetter : Cond.static yX8_isLetter ∈ W0 := W0_t (i := 1195) (by decide +kernel) (by decide +kernel)
set_option maxRecDepth 100000 in
theorem wC_yX8_isLetter : Cond.code yX8_isLetter prog_10_method_75_code 1 (Option.some Jvm.ClassFile.FieldType.boolean) ∈ W0 := W0_t (i := 1196) rfl rfl
theorem wKL_RX8_222 : Cond.constantLong RX8 222 (9999999999999) ∈ W0 := W0_t (i := 1197) (by decide +kernel) (by decide +kernel)
theorem wKL_RX8_224 : Cond.constantLong RX8 224 (27) ∈ W0 := W0_t (i := 1198) (by decide +kernel) (by decide +kernel)
theorem wKL_RX8_226 : Cond.constantLong RX8 226 (96) ∈ W0 := W0_t (i := 1199) (by decide +kernel) (by decide +kernel)
theorem wM_RX8_228 : Cond.methodLink RX8 228 yX8_isDigit ∈ W0 := W0_t (i := 1200) (by decide +kernel) (by decide +kernel)
theorem wS_yX8_isDigit : Cond.static yX8_isDigit ∈ W0 := W0_t (i := 1201) (by decide +kernel) (by decide +kernel)
set_option maxRecDepth 100000 in
theorem wC_yX8_isDigit : Cond.code yX8_isDigit prog_10_method_76_code 1 (Option.some Jvm.ClassFile.FieldType.boolean) ∈ W0 := W0_t (i := 1202) rfl rfl
theorem wKL_RX8_231 : Cond.constantLong RX8 231 (999) ∈ W0 := W0_t (i := 1203) (by decide +kernel) (by decide +kernel)
theorem wKL_RX8_233 : Cond.constantLong RX8 233 (10) ∈ W0 := W0_t (i := 1204) (by decide +kernel) (by decide +kernel)
theorem wKL_RX8_235 : Cond.constantLong RX8 235 (48) ∈ W0 := W0_t (i := 1205) (by decide +kernel) (by decide +kernel)
theorem wM_RX8_254 : Cond.methodLink RX8 254 yX8_readsItem ∈ W0 := W0_t (i := 1206) (by decide +kernel) (by decide +kernel)
theorem wI_yX8_readsItem : Cond.instanceMethod yX8_readsItem ∈ W0 := W0_t (i := 1208) (by decide +kernel) (by decide +kernel)
set_option maxRecDepth 100000 in
theorem wC_yX8_readsItem : Cond.code yX8_readsItem prog_10_method_82_code 3 (Option.some Jvm.ClassFile.FieldType.boolean) ∈ W0 := W0_t (i := 1209) rfl rfl
theorem wM_RX8_240 : Cond.methodLink RX8 240 yX8_wordOf ∈ W0 := W0_t (i := 1210) (by decide +kernel) (by decide +kernel)
theorem wI_yX8_wordOf : Cond.instanceMethod yX8_wordOf ∈ W0 := W0_t (i := 1212) (by decide +kernel) (by decide +kernel)
set_option maxRecDepth 100000 in
theorem wC_yX8_wordOf : Cond.code yX8_wordOf prog_10_method_78_code 7 (Option.some Jvm.ClassFile.FieldType.int) ∈ W0 := W0_t (i := 1213) rfl rfl
theorem wM_RX8_247 : Cond.methodLink RX8 247 yX8_readsThing ∈ W0 := W0_t (i := 1214) (by decide +kernel) (by decide +kernel)
theorem wI_yX8_readsThing : Cond.instanceMethod yX8_readsThing ∈ W0 := W0_t (i := 1216) (by decide +kernel) (by decide +kernel)
set_option maxRecDepth 100000 in
theorem wC_yX8_readsThing : Cond.code yX8_readsThing prog_10_method_80_code 5 (Option.some Jvm.ClassFile.FieldType.boolean) ∈ W0 := W0_t (i := 1217) rfl rfl
theorem wM_RX8_244 : Cond.methodLink RX8 244 yX8_takesNumber ∈ W0 := W0_t (i := 1218) (by decide +kernel) (by decide +kernel)
theorem wI_yX8_takesNumber : Cond.instanceMethod yX8_takesNumber ∈ W0 := W0_t (i := 1220) (by decide +kernel) (by decide +kernel)
set_option maxRecDepth 100000 in
theorem wC_yX8_takesNumber : Cond.code yX8_takesNumber prog_10_method_79_code 4 (Option.some Jvm.ClassFile.FieldType.int) ∈ W0 := W0_t (i := 1221) rfl rfl
theorem wM_RX8_250 : Cond.methodLink RX8 250 yX8_readsPond ∈ W0 := W0_t (i := 1222) (by decide +kernel) (by decide +kernel)
theorem wI_yX8_readsPond : Cond.instanceMethod yX8_readsPond ∈ W0 := W0_t (i := 1224) (by decide +kernel) (by decide +kernel)
set_option maxRecDepth 100000 in
theorem wC_yX8_readsPond : Cond.code yX8_readsPond prog_10_method_81_code 5 (Option.some Jvm.ClassFile.FieldType.boolean) ∈ W0 := W0_t (i := 1225) rfl rfl
theorem wM_RL_157 : Cond.methodLink RL 157 yX8_hold ∈ W0 := W0_t (i := 1226) (by decide +kernel) (by decide +kernel)
theorem wI_yX8_hold : Cond.instanceMethod yX8_hold ∈ W0 := W0_t (i := 1227) (by decide +kernel) (by decide +kernel)
theorem wE_yX8_hold : Cond.selects RX8 yX8_hold yX8_hold ∈ W0 := W0_t (i := 1228) (by decide +kernel) (by decide +kernel)
set_option maxRecDepth 100000 in
theorem wC_yX8_hold : Cond.code yX8_hold prog_10_method_85_code 3 (Option.some Jvm.ClassFile.FieldType.int) ∈ W0 := W0_t (i := 1229) rfl rfl
theorem wM_RX8_257 : Cond.methodLink RX8 257 yX8_isSpot ∈ W0 := W0_t (i := 1230) (by decide +kernel) (by decide +kernel)
theorem wS_yX8_isSpot : Cond.static yX8_isSpot ∈ W0 := W0_t (i := 1231) (by decide +kernel) (by decide +kernel)
set_option maxRecDepth 100000 in
theorem wC_yX8_isSpot : Cond.code yX8_isSpot prog_10_method_84_code 1 (Option.some Jvm.ClassFile.FieldType.boolean) ∈ W0 := W0_t (i := 1232) rfl rfl
theorem wM_RL_161 : Cond.methodLink RL 161 yX8_as ∈ W0 := W0_t (i := 1233) (by decide +kernel) (by decide +kernel)
theorem wI_yX8_as : Cond.instanceMethod yX8_as ∈ W0 := W0_t (i := 1234) (by decide +kernel) (by decide +kernel)
theorem wE_yX8_as : Cond.selects RX8 yX8_as yX8_as ∈ W0 := W0_t (i := 1235) (by decide +kernel) (by decide +kernel)
set_option maxRecDepth 100000 in
theorem wC_yX8_as : Cond.code yX8_as prog_10_method_87_code 5 (Option.some Jvm.ClassFile.FieldType.int) ∈ W0 := W0_t (i := 1236) rfl rfl
theorem wM_RX8_260 : Cond.methodLink RX8 260 yX8_above ∈ W0 := W0_t (i := 1237) (by decide +kernel) (by decide +kernel)
theorem wS_yX8_above : Cond.static yX8_above ∈ W0 := W0_t (i := 1238) (by decide +kernel) (by decide +kernel)
set_option maxRecDepth 100000 in
theorem wC_yX8_above : Cond.code yX8_above prog_10_method_86_code 1 (Option.some Jvm.ClassFile.FieldType.int) ∈ W0 := W0_t (i := 1239) rfl rfl
theorem wM_RL_165 : Cond.methodLink RL 165 yX8_sheet ∈ W0 := W0_t (i := 1240) (by decide +kernel) (by decide +kernel)
theorem wI_yX8_sheet : Cond.instanceMethod yX8_sheet ∈ W0 := W0_t (i := 1241) (by decide +kernel) (by decide +kernel)
theorem wE_yX8_sheet : Cond.selects RX8 yX8_sheet yX8_sheet ∈ W0 := W0_t (i := 1242) (by decide +kernel) (by decide +kernel)
set_option maxRecDepth 100000 in
theorem wC_yX8_sheet : Cond.code yX8_sheet prog_10_method_88_code 5 (Option.some Jvm.ClassFile.FieldType.int) ∈ W0 := W0_t (i := 1243) rfl rfl
theorem wM_RL_169 : Cond.methodLink RL 169 yX8_write ∈ W0 := W0_t (i := 1244) (by decide +kernel) (by decide +kernel)
theorem wI_yX8_write : Cond.instanceMethod yX8_write ∈ W0 := W0_t (i := 1245) (by decide +kernel) (by decide +kernel)
theorem wE_yX8_write : Cond.selects RX8 yX8_write yX8_write ∈ W0 := W0_t (i := 1246) (by decide +kernel) (by decide +kernel)
set_option maxRecDepth 100000 in
theorem wC_yX8_write : Cond.code yX8_write prog_10_method_89_code 5 (Option.some Jvm.ClassFile.FieldType.int) ∈ W0 := W0_t (i := 1247) rfl rfl
theorem wM_RL_174 : Cond.methodLink RL 174 yX8_copy ∈ W0 := W0_t (i := 1248) (by decide +kernel) (by decide +kernel)
theorem wI_yX8_copy : Cond.instanceMethod yX8_copy ∈ W0 := W0_t (i := 1249) (by decide +kernel) (by decide +kernel)
theorem wE_yX8_copy : Cond.selects RX8 yX8_copy yX8_copy ∈ W0 := W0_t (i := 1250) (by decide +kernel) (by decide +kernel)
set_option maxRecDepth 100000 in
theorem wC_yX8_copy : Cond.code yX8_copy prog_10_method_90_code 7 (Option.some Jvm.ClassFile.FieldType.int) ∈ W0 := W0_t (i := 1251) rfl rfl
theorem wM_RL_178 : Cond.methodLink RL 178 yX8_load ∈ W0 := W0_t (i := 1252) (by decide +kernel) (by decide +kernel)
theorem wI_yX8_load : Cond.instanceMethod yX8_load ∈ W0 := W0_t (i := 1253) (by decide +kernel) (by decide +kernel)
theorem wE_yX8_load : Cond.selects RX8 yX8_load yX8_load ∈ W0 := W0_t (i := 1254) (by decide +kernel) (by decide +kernel)
set_option maxRecDepth 100000 in
theorem wC_yX8_load : Cond.code yX8_load prog_10_method_91_code 4 (Option.some Jvm.ClassFile.FieldType.int) ∈ W0 := W0_t (i := 1255) rfl rfl
theorem wM_RL_182 : Cond.methodLink RL 182 yX8_judge ∈ W0 := W0_t (i := 1256) (by decide +kernel) (by decide +kernel)
theorem wI_yX8_judge : Cond.instanceMethod yX8_judge ∈ W0 := W0_t (i := 1257) (by decide +kernel) (by decide +kernel)
theorem wE_yX8_judge : Cond.selects RX8 yX8_judge yX8_judge ∈ W0 := W0_t (i := 1258) (by decide +kernel) (by decide +kernel)
set_option maxRecDepth 100000 in
theorem wC_yX8_judge : Cond.code yX8_judge prog_10_method_92_code 5 (Option.some Jvm.ClassFile.FieldType.int) ∈ W0 := W0_t (i := 1259) rfl rfl
theorem wM_RL_186 : Cond.methodLink RL 186 yX8_image ∈ W0 := W0_t (i := 1260) (by decide +kernel) (by decide +kernel)
theorem wI_yX8_image : Cond.instanceMethod yX8_image ∈ W0 := W0_t (i := 1261) (by decide +kernel) (by decide +kernel)
theorem wE_yX8_image : Cond.selects RX8 yX8_image yX8_image ∈ W0 := W0_t (i := 1262) (by decide +kernel) (by decide +kernel)
set_option maxRecDepth 100000 in
theorem wC_yX8_image : Cond.code yX8_image prog_10_method_93_code 2 (Option.some Jvm.ClassFile.FieldType.int) ∈ W0 := W0_t (i := 1263) rfl rfl
theorem wM_RL_190 : Cond.methodLink RL 190 yX8_undo ∈ W0 := W0_t (i := 1264) (by decide +kernel) (by decide +kernel)
theorem wI_yX8_undo : Cond.instanceMethod yX8_undo ∈ W0 := W0_t (i := 1265) (by decide +kernel) (by decide +kernel)
theorem wE_yX8_undo : Cond.selects RX8 yX8_undo yX8_undo ∈ W0 := W0_t (i := 1266) (by decide +kernel) (by decide +kernel)
set_option maxRecDepth 100000 in
theorem wC_yX8_undo : Cond.code yX8_undo prog_10_method_94_code 2 (Option.some Jvm.ClassFile.FieldType.int) ∈ W0 := W0_t (i := 1267) rfl rfl
theorem wM_RL_194 : Cond.methodLink RL 194 yX8_tear ∈ W0 := W0_t (i := 1268) (by decide +kernel) (by decide +kernel)
theorem wI_yX8_tear : Cond.instanceMethod yX8_tear ∈ W0 := W0_t (i := 1269) (by decide +kernel) (by decide +kernel)
theorem wE_yX8_tear : Cond.selects RX8 yX8_tear yX8_tear ∈ W0 := W0_t (i := 1270) (by decide +kernel) (by decide +kernel)
set_option maxRecDepth 100000 in
theorem wC_yX8_tear : Cond.code yX8_tear prog_10_method_95_code 2 (Option.some Jvm.ClassFile.FieldType.int) ∈ W0 := W0_t (i := 1271) rfl rfl
theorem wM_RL_198 : Cond.methodLink RL 198 yX8_count ∈ W0 := W0_t (i := 1272) (by decide +kernel) (by decide +kernel)
theorem wI_yX8_count : Cond.instanceMethod yX8_count ∈ W0 := W0_t (i := 1273) (by decide +kernel) (by decide +kernel)
theorem wE_yX8_count : Cond.selects RX8 yX8_count yX8_count ∈ W0 := W0_t (i := 1274) (by decide +kernel) (by decide +kernel)
set_option maxRecDepth 100000 in
theorem wC_yX8_count : Cond.code yX8_count prog_10_method_96_code 4 (Option.some Jvm.ClassFile.FieldType.int) ∈ W0 := W0_t (i := 1275) rfl rfl
theorem wM_RL_202 : Cond.methodLink RL 202 yX8_status ∈ W0 := W0_t (i := 1276) (by decide +kernel) (by decide +kernel)
theorem wI_yX8_status : Cond.instanceMethod yX8_status ∈ W0 := W0_t (i := 1277) (by decide +kernel) (by decide +kernel)
theorem wE_yX8_status : Cond.selects RX8 yX8_status yX8_status ∈ W0 := W0_t (i := 1278) (by decide +kernel) (by decide +kernel)
set_option maxRecDepth 100000 in
theorem wC_yX8_status : Cond.code yX8_status prog_10_method_97_code 4 (Option.some Jvm.ClassFile.FieldType.int) ∈ W0 := W0_t (i := 1279) rfl rfl
theorem wF_RJ0_9 : Cond.fieldLink RJ0 9 "java/lang/String" "value" "[B" ∈ W0 := W0_t (i := 1280) (by decide +kernel) (by decide +kernel)
theorem wF_RJ0_15 : Cond.fieldLink RJ0 15 "java/lang/String" "coder" "B" ∈ W0 := W0_t (i := 1281) (by decide +kernel) (by decide +kernel)
theorem wE_yX7_finding : Cond.selects RX7 yX7_finding yX7_finding ∈ W0 := W0_p (i := 0) (by decide +kernel) (by decide +kernel)
theorem wE_yX1_nextOfFrog : Cond.selects RX1 yX1_nextOfFrog yX1_nextOfFrog ∈ W0 := W0_p (i := 1) (by decide +kernel) (by decide +kernel)
theorem wE_yX1_nextOfHeron : Cond.selects RX1 yX1_nextOfHeron yX1_nextOfHeron ∈ W0 := W0_p (i := 2) (by decide +kernel) (by decide +kernel)
theorem wE_yX1_hasFishIn : Cond.selects RX1 yX1_hasFishIn yX1_hasFishIn ∈ W0 := W0_p (i := 3) (by decide +kernel) (by decide +kernel)
theorem wE_yX1_nextOfPike : Cond.selects RX1 yX1_nextOfPike yX1_nextOfPike ∈ W0 := W0_p (i := 4) (by decide +kernel) (by decide +kernel)
theorem wE_yX7_findingOrAnswer : Cond.selects RX7 yX7_findingOrAnswer yX7_findingOrAnswer ∈ W0 := W0_p (i := 5) (by decide +kernel) (by decide +kernel)
theorem wE_yX2_clearTally : Cond.selects RX2 yX2_clearTally yX2_clearTally ∈ W0 := W0_p (i := 6) (by decide +kernel) (by decide +kernel)
theorem wE_yX2_leastOfMost : Cond.selects RX2 yX2_leastOfMost yX2_leastOfMost ∈ W0 := W0_p (i := 7) (by decide +kernel) (by decide +kernel)
theorem wE_yX7_lackOfSight : Cond.selects RX7 yX7_lackOfSight yX7_lackOfSight ∈ W0 := W0_p (i := 8) (by decide +kernel) (by decide +kernel)
theorem wE_yX7_lackOfSheet : Cond.selects RX7 yX7_lackOfSheet yX7_lackOfSheet ∈ W0 := W0_p (i := 9) (by decide +kernel) (by decide +kernel)
theorem wE_yX7_lensesFor : Cond.selects RX7 yX7_lensesFor yX7_lensesFor ∈ W0 := W0_p (i := 10) (by decide +kernel) (by decide +kernel)
theorem wE_yX1_draw : Cond.selects RX1 yX1_draw yX1_draw ∈ W0 := W0_p (i := 11) (by decide +kernel) (by decide +kernel)
theorem wE_yX6_takeOne : Cond.selects RX6 yX6_takeOne yX6_takeOne ∈ W0 := W0_p (i := 12) (by decide +kernel) (by decide +kernel)
theorem wE_yX5_readItem : Cond.selects RX5 yX5_readItem yX5_readItem ∈ W0 := W0_p (i := 13) (by decide +kernel) (by decide +kernel)
theorem wE_yX5_hasKind : Cond.selects RX5 yX5_hasKind yX5_hasKind ∈ W0 := W0_p (i := 14) (by decide +kernel) (by decide +kernel)
theorem wE_yX5_readThing : Cond.selects RX5 yX5_readThing yX5_readThing ∈ W0 := W0_p (i := 15) (by decide +kernel) (by decide +kernel)
theorem wE_yX5_fail : Cond.selects RX5 yX5_fail yX5_fail ∈ W0 := W0_p (i := 16) (by decide +kernel) (by decide +kernel)
theorem wE_yX5_hasWord : Cond.selects RX5 yX5_hasWord yX5_hasWord ∈ W0 := W0_p (i := 17) (by decide +kernel) (by decide +kernel)
theorem wE_yX5_readNumber : Cond.selects RX5 yX5_readNumber yX5_readNumber ∈ W0 := W0_p (i := 18) (by decide +kernel) (by decide +kernel)
theorem wE_yX5_hasNumber : Cond.selects RX5 yX5_hasNumber yX5_hasNumber ∈ W0 := W0_p (i := 19) (by decide +kernel) (by decide +kernel)
theorem wE_yX5_readPond : Cond.selects RX5 yX5_readPond yX5_readPond ∈ W0 := W0_p (i := 20) (by decide +kernel) (by decide +kernel)
theorem wE_yX5_hasSign : Cond.selects RX5 yX5_hasSign yX5_hasSign ∈ W0 := W0_p (i := 21) (by decide +kernel) (by decide +kernel)
theorem wE_yX8_lays1 : Cond.selects RX8 yX8_lays1 yX8_lays1 ∈ W0 := W0_p (i := 22) (by decide +kernel) (by decide +kernel)
theorem wE_yX8_no : Cond.selects RX8 yX8_no yX8_no ∈ W0 := W0_p (i := 23) (by decide +kernel) (by decide +kernel)
theorem wE_yX8_of1 : Cond.selects RX8 yX8_of1 yX8_of1 ∈ W0 := W0_p (i := 24) (by decide +kernel) (by decide +kernel)
theorem wE_yX8_inside : Cond.selects RX8 yX8_inside yX8_inside ∈ W0 := W0_p (i := 25) (by decide +kernel) (by decide +kernel)
theorem wE_yX8_get : Cond.selects RX8 yX8_get yX8_get ∈ W0 := W0_p (i := 26) (by decide +kernel) (by decide +kernel)
theorem wE_yX8_seenIn : Cond.selects RX8 yX8_seenIn yX8_seenIn ∈ W0 := W0_p (i := 27) (by decide +kernel) (by decide +kernel)
theorem wE_yX8_addsThing : Cond.selects RX8 yX8_addsThing yX8_addsThing ∈ W0 := W0_p (i := 28) (by decide +kernel) (by decide +kernel)
theorem wE_yX8_puts : Cond.selects RX8 yX8_puts yX8_puts ∈ W0 := W0_p (i := 29) (by decide +kernel) (by decide +kernel)
theorem wE_yX8_isThing : Cond.selects RX8 yX8_isThing yX8_isThing ∈ W0 := W0_p (i := 30) (by decide +kernel) (by decide +kernel)
theorem wE_yX8_nextOf : Cond.selects RX8 yX8_nextOf yX8_nextOf ∈ W0 := W0_p (i := 31) (by decide +kernel) (by decide +kernel)
theorem wE_yX8_dryNext : Cond.selects RX8 yX8_dryNext yX8_dryNext ∈ W0 := W0_p (i := 32) (by decide +kernel) (by decide +kernel)
theorem wE_yX8_asFrog : Cond.selects RX8 yX8_asFrog yX8_asFrog ∈ W0 := W0_p (i := 33) (by decide +kernel) (by decide +kernel)
theorem wE_yX8_asHeron : Cond.selects RX8 yX8_asHeron yX8_asHeron ∈ W0 := W0_p (i := 34) (by decide +kernel) (by decide +kernel)
theorem wE_yX8_showing : Cond.selects RX8 yX8_showing yX8_showing ∈ W0 := W0_p (i := 35) (by decide +kernel) (by decide +kernel)
theorem wE_yX8_hasFish : Cond.selects RX8 yX8_hasFish yX8_hasFish ∈ W0 := W0_p (i := 36) (by decide +kernel) (by decide +kernel)
theorem wE_yX8_minute : Cond.selects RX8 yX8_minute yX8_minute ∈ W0 := W0_p (i := 37) (by decide +kernel) (by decide +kernel)
theorem wE_yX8_pondsWith : Cond.selects RX8 yX8_pondsWith yX8_pondsWith ∈ W0 := W0_p (i := 38) (by decide +kernel) (by decide +kernel)
theorem wE_yX8_lengths : Cond.selects RX8 yX8_lengths yX8_lengths ∈ W0 := W0_p (i := 39) (by decide +kernel) (by decide +kernel)
theorem wE_yX8_goesThrough : Cond.selects RX8 yX8_goesThrough yX8_goesThrough ∈ W0 := W0_p (i := 40) (by decide +kernel) (by decide +kernel)
theorem wE_yX8_begins : Cond.selects RX8 yX8_begins yX8_begins ∈ W0 := W0_p (i := 41) (by decide +kernel) (by decide +kernel)
theorem wE_yX8_steps : Cond.selects RX8 yX8_steps yX8_steps ∈ W0 := W0_p (i := 42) (by decide +kernel) (by decide +kernel)
theorem wE_yX8_roundOf : Cond.selects RX8 yX8_roundOf yX8_roundOf ∈ W0 := W0_p (i := 43) (by decide +kernel) (by decide +kernel)
theorem wE_yX8_isRound : Cond.selects RX8 yX8_isRound yX8_isRound ∈ W0 := W0_p (i := 44) (by decide +kernel) (by decide +kernel)
theorem wE_yX8_aheadOf : Cond.selects RX8 yX8_aheadOf yX8_aheadOf ∈ W0 := W0_p (i := 45) (by decide +kernel) (by decide +kernel)
theorem wE_yX8_setsAside : Cond.selects RX8 yX8_setsAside yX8_setsAside ∈ W0 := W0_p (i := 46) (by decide +kernel) (by decide +kernel)
theorem wE_yX8_laysBack : Cond.selects RX8 yX8_laysBack yX8_laysBack ∈ W0 := W0_p (i := 47) (by decide +kernel) (by decide +kernel)
theorem wE_yX8_firstBy : Cond.selects RX8 yX8_firstBy yX8_firstBy ∈ W0 := W0_p (i := 48) (by decide +kernel) (by decide +kernel)
theorem wE_yX8_countsNone : Cond.selects RX8 yX8_countsNone yX8_countsNone ∈ W0 := W0_p (i := 49) (by decide +kernel) (by decide +kernel)
theorem wE_yX8_mostOf : Cond.selects RX8 yX8_mostOf yX8_mostOf ∈ W0 := W0_p (i := 50) (by decide +kernel) (by decide +kernel)
theorem wE_yX8_wrongSight : Cond.selects RX8 yX8_wrongSight yX8_wrongSight ∈ W0 := W0_p (i := 51) (by decide +kernel) (by decide +kernel)
theorem wE_yX8_wrongSheet : Cond.selects RX8 yX8_wrongSheet yX8_wrongSheet ∈ W0 := W0_p (i := 52) (by decide +kernel) (by decide +kernel)
theorem wE_yX8_fitsAs : Cond.selects RX8 yX8_fitsAs yX8_fitsAs ∈ W0 := W0_p (i := 53) (by decide +kernel) (by decide +kernel)
theorem wE_yX8_told : Cond.selects RX8 yX8_told yX8_told ∈ W0 := W0_p (i := 54) (by decide +kernel) (by decide +kernel)
theorem wE_yX8_draw : Cond.selects RX8 yX8_draw yX8_draw ∈ W0 := W0_p (i := 55) (by decide +kernel) (by decide +kernel)
theorem wE_yX8_nextToken : Cond.selects RX8 yX8_nextToken yX8_nextToken ∈ W0 := W0_p (i := 56) (by decide +kernel) (by decide +kernel)
theorem wE_yX8_readsItem : Cond.selects RX8 yX8_readsItem yX8_readsItem ∈ W0 := W0_p (i := 57) (by decide +kernel) (by decide +kernel)
theorem wE_yX8_wordOf : Cond.selects RX8 yX8_wordOf yX8_wordOf ∈ W0 := W0_p (i := 58) (by decide +kernel) (by decide +kernel)
theorem wE_yX8_readsThing : Cond.selects RX8 yX8_readsThing yX8_readsThing ∈ W0 := W0_p (i := 59) (by decide +kernel) (by decide +kernel)
theorem wE_yX8_takesNumber : Cond.selects RX8 yX8_takesNumber yX8_takesNumber ∈ W0 := W0_p (i := 60) (by decide +kernel) (by decide +kernel)
theorem wE_yX8_readsPond : Cond.selects RX8 yX8_readsPond yX8_readsPond ∈ W0 := W0_p (i := 61) (by decide +kernel) (by decide +kernel)
theorem inX0 : ∀ w ∈ wsX00, w ∈ W0 := fun w hw => List.mem_filter.mpr ⟨List.mem_append_right _ (by revert w; decide +kernel), by revert w; decide +kernel⟩
theorem inX1 : ∀ w ∈ wsX10, w ∈ W0 := fun w hw => List.mem_filter.mpr ⟨List.mem_append_right _ (by revert w; decide +kernel), by revert w; decide +kernel⟩
theorem inX2 : ∀ w ∈ wsX20, w ∈ W0 := fun w hw => List.mem_filter.mpr ⟨List.mem_append_right _ (by revert w; decide +kernel), by revert w; decide +kernel⟩
theorem inX3 : ∀ w ∈ wsX30, w ∈ W0 := fun w hw => List.mem_filter.mpr ⟨List.mem_append_right _ (by revert w; decide +kernel), by revert w; decide +kernel⟩
theorem inX4 : ∀ w ∈ wsX40, w ∈ W0 := fun w hw => List.mem_filter.mpr ⟨List.mem_append_right _ (by revert w; decide +kernel), by revert w; decide +kernel⟩
theorem inX5 : ∀ w ∈ wsX50, w ∈ W0 := fun w hw => List.mem_filter.mpr ⟨List.mem_append_right _ (by revert w; decide +kernel), by revert w; decide +kernel⟩
theorem inX6 : ∀ w ∈ wsX60, w ∈ W0 := fun w hw => List.mem_filter.mpr ⟨List.mem_append_right _ (by revert w; decide +kernel), by revert w; decide +kernel⟩
theorem inX7 : ∀ w ∈ wsX70, w ∈ W0 := fun w hw => List.mem_filter.mpr ⟨List.mem_append_right _ (by revert w; decide +kernel), by revert w; decide +kernel⟩
theorem inX8 : ∀ w ∈ wsX80, w ∈ W0 := fun w hw => List.mem_filter.mpr ⟨List.mem_append_right _ (by revert w; decide +kernel), by revert w; decide +kernel⟩
