def lw_all : List Cond := lw_tbl.filter goodWord
theorem lw_all_tbl : ∀ w ∈ lw_all, w ∈ lw_tbl := fun _ h => (List.mem_filter.mp h).1
theorem lw_all_good : ∀ w ∈ lw_all, goodWord w = true := fun _ h => (List.mem_filter.mp h).2
theorem lw_t1 {i : Nat} {w : Cond} (h : tables_1_1[i]? = some w) (hg : goodWord w = true) : w ∈ lw_all := List.mem_filter.mpr ⟨List.mem_append_right _ (List.mem_append_left _ (List.mem_of_getElem? h)), hg⟩
theorem lw_t2 {i : Nat} {w : Cond} (h : tables_1_2[i]? = some w) (hg : goodWord w = true) : w ∈ lw_all := List.mem_filter.mpr ⟨List.mem_append_right _ (List.mem_append_right _ (List.mem_append_left _ (List.mem_of_getElem? h))), hg⟩
theorem lw_t3 {i : Nat} {w : Cond} (h : tables_1_3[i]? = some w) (hg : goodWord w = true) : w ∈ lw_all := List.mem_filter.mpr ⟨List.mem_append_right _ (List.mem_append_right _ (List.mem_append_right _ (List.mem_append_left _ (List.mem_of_getElem? h)))), hg⟩
theorem lw_t4 {i : Nat} {w : Cond} (h : tables_1_4[i]? = some w) (hg : goodWord w = true) : w ∈ lw_all := List.mem_filter.mpr ⟨List.mem_append_right _ (List.mem_append_right _ (List.mem_append_right _ (List.mem_append_right _ (List.mem_of_getElem? h)))), hg⟩
set_option maxRecDepth 20000 in
theorem in_L : Cond.initialized RL ∈ lw_all := lw_t1 (i := 0) rfl rfl
set_option maxRecDepth 20000 in
theorem in_X5 : Cond.initialized RX5 ∈ lw_all := lw_t1 (i := 1) rfl rfl
set_option maxRecDepth 20000 in
theorem in_X4 : Cond.initialized RX4 ∈ lw_all := lw_t1 (i := 2) rfl rfl
set_option maxRecDepth 20000 in
theorem in_X3 : Cond.initialized RX3 ∈ lw_all := lw_t1 (i := 3) rfl rfl
set_option maxRecDepth 20000 in
theorem in_X2 : Cond.initialized RX2 ∈ lw_all := lw_t1 (i := 4) rfl rfl
set_option maxRecDepth 20000 in
theorem in_X0 : Cond.initialized RX0 ∈ lw_all := lw_t1 (i := 5) rfl rfl
set_option maxRecDepth 20000 in
theorem in_X1 : Cond.initialized RX1 ∈ lw_all := lw_t1 (i := 6) rfl rfl
set_option maxRecDepth 20000 in
theorem in_X6 : Cond.initialized RX6 ∈ lw_all := lw_t1 (i := 7) rfl rfl
set_option maxRecDepth 20000 in
theorem in_J6 : Cond.initialized RJ6 ∈ lw_all := lw_t1 (i := 8) rfl rfl
set_option maxRecDepth 20000 in
theorem in_J9 : Cond.initialized RJ9 ∈ lw_all := lw_t1 (i := 9) rfl rfl
set_option maxRecDepth 20000 in
theorem cl_L_7 : Cond.classLink RL 7 RX5 ∈ lw_all := lw_t1 (i := 10) rfl rfl
set_option maxRecDepth 20000 in
theorem is_X5 : Cond.instantiable RX5 5 ∈ lw_all := lw_t1 (i := 11) rfl rfl
set_option maxRecDepth 20000 in
theorem ml_L_9 : Cond.methodLink RL 9 yX5_init ∈ lw_all := lw_t1 (i := 12) rfl rfl
set_option maxRecDepth 20000 in
theorem im_X5_init : Cond.instanceMethod yX5_init ∈ lw_all := lw_t1 (i := 13) rfl rfl
set_option maxRecDepth 20000 in
theorem co_X5_init : Cond.code yX5_init cX5_init 1 none ∈ lw_all := lw_t1 (i := 14) rfl rfl
set_option maxRecDepth 20000 in
theorem ml_X5_1 : Cond.methodLink RX5 1 objectInit ∈ lw_all := lw_t1 (i := 15) rfl rfl
set_option maxRecDepth 20000 in
theorem im_obj : Cond.instanceMethod objectInit ∈ lw_all := lw_t1 (i := 16) rfl rfl
set_option maxRecDepth 20000 in
theorem co_obj : Cond.code objectInit ⟨#[0xb1]⟩ 1 none ∈ lw_all := lw_t1 (i := 17) rfl rfl
set_option maxRecDepth 20000 in
theorem cl_X5_7 : Cond.classLink RX5 7 RX4 ∈ lw_all := lw_t1 (i := 18) rfl rfl
set_option maxRecDepth 20000 in
theorem is_X4 : Cond.instantiable RX4 6 ∈ lw_all := lw_t1 (i := 19) rfl rfl
set_option maxRecDepth 20000 in
theorem im_X4_init : Cond.instanceMethod yX4_init ∈ lw_all := lw_t1 (i := 21) rfl rfl
set_option maxRecDepth 20000 in
theorem co_X4_init : Cond.code yX4_init cX4_init 1 none ∈ lw_all := lw_t1 (i := 22) rfl rfl
set_option maxRecDepth 20000 in
theorem ml_X4_3 : Cond.methodLink RX4 3 objectInit ∈ lw_all := lw_t1 (i := 23) rfl rfl
set_option maxRecDepth 20000 in
theorem fl_X4_9 : Cond.fieldLink RX4 9 "OverrideRules$Types" "kinds" "[I" ∈ lw_all := lw_t1 (i := 24) rfl rfl
set_option maxRecDepth 20000 in
theorem fl_X4_15 : Cond.fieldLink RX4 15 "OverrideRules$Types" "packets" "[I" ∈ lw_all := lw_t1 (i := 25) rfl rfl
set_option maxRecDepth 20000 in
theorem fl_X4_18 : Cond.fieldLink RX4 18 "OverrideRules$Types" "parents" "[I" ∈ lw_all := lw_t1 (i := 26) rfl rfl
set_option maxRecDepth 20000 in
theorem fl_X4_21 : Cond.fieldLink RX4 21 "OverrideRules$Types" "faces" "[I" ∈ lw_all := lw_t1 (i := 27) rfl rfl
set_option maxRecDepth 20000 in
theorem fl_X4_24 : Cond.fieldLink RX4 24 "OverrideRules$Types" "above" "[I" ∈ lw_all := lw_t1 (i := 28) rfl rfl
set_option maxRecDepth 20000 in
theorem fl_X4_27 : Cond.fieldLink RX4 27 "OverrideRules$Types" "count" "I" ∈ lw_all := lw_t1 (i := 29) rfl rfl
set_option maxRecDepth 20000 in
theorem ac_int : Cond.arrayClass .int ∈ lw_all := lw_t1 (i := 43) rfl rfl
set_option maxRecDepth 20000 in
theorem cl_X5_16 : Cond.classLink RX5 16 RX3 ∈ lw_all := lw_t1 (i := 44) rfl rfl
set_option maxRecDepth 20000 in
theorem is_X3 : Cond.instantiable RX3 3 ∈ lw_all := lw_t1 (i := 45) rfl rfl
set_option maxRecDepth 20000 in
theorem im_X3_init : Cond.instanceMethod yX3_init ∈ lw_all := lw_t1 (i := 47) rfl rfl
set_option maxRecDepth 20000 in
theorem co_X3_init : Cond.code yX3_init cX3_init 1 none ∈ lw_all := lw_t1 (i := 48) rfl rfl
set_option maxRecDepth 20000 in
theorem ml_X3_3 : Cond.methodLink RX3 3 objectInit ∈ lw_all := lw_t1 (i := 49) rfl rfl
set_option maxRecDepth 20000 in
theorem fl_X3_9 : Cond.fieldLink RX3 9 "OverrideRules$Throws" "subTo" "[I" ∈ lw_all := lw_t1 (i := 50) rfl rfl
set_option maxRecDepth 20000 in
theorem fl_X3_15 : Cond.fieldLink RX3 15 "OverrideRules$Throws" "checkedOnes" "I" ∈ lw_all := lw_t1 (i := 51) rfl rfl
set_option maxRecDepth 20000 in
theorem fl_X3_19 : Cond.fieldLink RX3 19 "OverrideRules$Throws" "count" "I" ∈ lw_all := lw_t1 (i := 52) rfl rfl
set_option maxRecDepth 20000 in
theorem cl_X5_23 : Cond.classLink RX5 23 RX2 ∈ lw_all := lw_t1 (i := 60) rfl rfl
set_option maxRecDepth 20000 in
theorem is_X2 : Cond.instantiable RX2 8 ∈ lw_all := lw_t1 (i := 61) rfl rfl
set_option maxRecDepth 20000 in
theorem ml_X5_25 : Cond.methodLink RX5 25 yX2_init ∈ lw_all := lw_t1 (i := 62) rfl rfl
set_option maxRecDepth 20000 in
theorem im_X2_init : Cond.instanceMethod yX2_init ∈ lw_all := lw_t1 (i := 63) rfl rfl
set_option maxRecDepth 20000 in
theorem co_X2_init : Cond.code yX2_init cX2_init 2 none ∈ lw_all := lw_t1 (i := 64) rfl rfl
set_option maxRecDepth 20000 in
theorem ml_X2_3 : Cond.methodLink RX2 3 objectInit ∈ lw_all := lw_t1 (i := 65) rfl rfl
set_option maxRecDepth 20000 in
theorem fl_X2_34 : Cond.fieldLink RX2 34 "OverrideRules$Members" "types" "LOverrideRules$Types;" ∈ lw_all := lw_t1 (i := 66) rfl rfl
set_option maxRecDepth 20000 in
theorem fl_X2_9 : Cond.fieldLink RX2 9 "OverrideRules$Members" "owners" "[I" ∈ lw_all := lw_t1 (i := 67) rfl rfl
set_option maxRecDepth 20000 in
theorem fl_X2_15 : Cond.fieldLink RX2 15 "OverrideRules$Members" "names" "[I" ∈ lw_all := lw_t1 (i := 68) rfl rfl
set_option maxRecDepth 20000 in
theorem fl_X2_18 : Cond.fieldLink RX2 18 "OverrideRules$Members" "results" "[I" ∈ lw_all := lw_t1 (i := 69) rfl rfl
set_option maxRecDepth 20000 in
theorem fl_X2_21 : Cond.fieldLink RX2 21 "OverrideRules$Members" "marks" "[I" ∈ lw_all := lw_t1 (i := 70) rfl rfl
set_option maxRecDepth 20000 in
theorem fl_X2_24 : Cond.fieldLink RX2 24 "OverrideRules$Members" "throwSets" "[I" ∈ lw_all := lw_t1 (i := 71) rfl rfl
set_option maxRecDepth 20000 in
theorem fl_X2_27 : Cond.fieldLink RX2 27 "OverrideRules$Members" "slots" "[I" ∈ lw_all := lw_t1 (i := 72) rfl rfl
set_option maxRecDepth 20000 in
theorem fl_X2_30 : Cond.fieldLink RX2 30 "OverrideRules$Members" "count" "I" ∈ lw_all := lw_t1 (i := 73) rfl rfl
set_option maxRecDepth 20000 in
theorem cl_X5_32 : Cond.classLink RX5 32 RX0 ∈ lw_all := lw_t1 (i := 91) rfl rfl
set_option maxRecDepth 20000 in
theorem is_X0 : Cond.instantiable RX0 2 ∈ lw_all := lw_t1 (i := 92) rfl rfl
set_option maxRecDepth 20000 in
theorem ml_X5_34 : Cond.methodLink RX5 34 yX0_init ∈ lw_all := lw_t1 (i := 93) rfl rfl
set_option maxRecDepth 20000 in
theorem im_X0_init : Cond.instanceMethod yX0_init ∈ lw_all := lw_t1 (i := 94) rfl rfl
set_option maxRecDepth 20000 in
theorem co_X0_init : Cond.code yX0_init cX0_init 3 none ∈ lw_all := lw_t1 (i := 95) rfl rfl
set_option maxRecDepth 20000 in
theorem ml_X0_3 : Cond.methodLink RX0 3 objectInit ∈ lw_all := lw_t1 (i := 96) rfl rfl
set_option maxRecDepth 20000 in
theorem fl_X0_9 : Cond.fieldLink RX0 9 "OverrideRules$Choice" "types" "LOverrideRules$Types;" ∈ lw_all := lw_t1 (i := 97) rfl rfl
set_option maxRecDepth 20000 in
theorem fl_X0_15 : Cond.fieldLink RX0 15 "OverrideRules$Choice" "members" "LOverrideRules$Members;" ∈ lw_all := lw_t1 (i := 98) rfl rfl
set_option maxRecDepth 20000 in
theorem cl_X5_41 : Cond.classLink RX5 41 RX1 ∈ lw_all := lw_t1 (i := 104) rfl rfl
set_option maxRecDepth 20000 in
theorem is_X1 : Cond.instantiable RX1 9 ∈ lw_all := lw_t1 (i := 105) rfl rfl
set_option maxRecDepth 20000 in
theorem ml_X5_43 : Cond.methodLink RX5 43 yX1_init ∈ lw_all := lw_t1 (i := 106) rfl rfl
set_option maxRecDepth 20000 in
theorem im_X1_init : Cond.instanceMethod yX1_init ∈ lw_all := lw_t1 (i := 107) rfl rfl
set_option maxRecDepth 20000 in
theorem co_X1_init : Cond.code yX1_init cX1_init 5 none ∈ lw_all := lw_t1 (i := 108) rfl rfl
set_option maxRecDepth 20000 in
theorem ml_X1_3 : Cond.methodLink RX1 3 objectInit ∈ lw_all := lw_t1 (i := 109) rfl rfl
set_option maxRecDepth 20000 in
theorem fl_X1_27 : Cond.fieldLink RX1 27 "OverrideRules$Faults" "types" "LOverrideRules$Types;" ∈ lw_all := lw_t1 (i := 110) rfl rfl
set_option maxRecDepth 20000 in
theorem fl_X1_31 : Cond.fieldLink RX1 31 "OverrideRules$Faults" "thrown" "LOverrideRules$Throws;" ∈ lw_all := lw_t1 (i := 111) rfl rfl
set_option maxRecDepth 20000 in
theorem fl_X1_35 : Cond.fieldLink RX1 35 "OverrideRules$Faults" "members" "LOverrideRules$Members;" ∈ lw_all := lw_t1 (i := 112) rfl rfl
set_option maxRecDepth 20000 in
theorem fl_X1_39 : Cond.fieldLink RX1 39 "OverrideRules$Faults" "choice" "LOverrideRules$Choice;" ∈ lw_all := lw_t1 (i := 113) rfl rfl
set_option maxRecDepth 20000 in
theorem fl_X1_9 : Cond.fieldLink RX1 9 "OverrideRules$Faults" "wanted" "I" ∈ lw_all := lw_t1 (i := 114) rfl rfl
set_option maxRecDepth 20000 in
theorem fl_X1_15 : Cond.fieldLink RX1 15 "OverrideRules$Faults" "count" "I" ∈ lw_all := lw_t1 (i := 115) rfl rfl
set_option maxRecDepth 20000 in
theorem fl_X1_18 : Cond.fieldLink RX1 18 "OverrideRules$Faults" "pickedCode" "I" ∈ lw_all := lw_t1 (i := 116) rfl rfl
set_option maxRecDepth 20000 in
theorem fl_X1_21 : Cond.fieldLink RX1 21 "OverrideRules$Faults" "pickedM" "I" ∈ lw_all := lw_t1 (i := 117) rfl rfl
set_option maxRecDepth 20000 in
theorem fl_X1_24 : Cond.fieldLink RX1 24 "OverrideRules$Faults" "pickedO" "I" ∈ lw_all := lw_t1 (i := 118) rfl rfl
set_option maxRecDepth 20000 in
theorem fl_X5_10 : Cond.fieldLink RX5 10 "OverrideRules" "types" "LOverrideRules$Types;" ∈ lw_all := lw_t1 (i := 138) rfl rfl
set_option maxRecDepth 20000 in
theorem fl_X5_19 : Cond.fieldLink RX5 19 "OverrideRules" "thrown" "LOverrideRules$Throws;" ∈ lw_all := lw_t1 (i := 139) rfl rfl
set_option maxRecDepth 20000 in
theorem fl_X5_28 : Cond.fieldLink RX5 28 "OverrideRules" "members" "LOverrideRules$Members;" ∈ lw_all := lw_t1 (i := 140) rfl rfl
set_option maxRecDepth 20000 in
theorem fl_X5_37 : Cond.fieldLink RX5 37 "OverrideRules" "choice" "LOverrideRules$Choice;" ∈ lw_all := lw_t1 (i := 141) rfl rfl
set_option maxRecDepth 20000 in
theorem fl_X5_46 : Cond.fieldLink RX5 46 "OverrideRules" "faults" "LOverrideRules$Faults;" ∈ lw_all := lw_t1 (i := 142) rfl rfl
set_option maxRecDepth 20000 in
theorem ml_L_13 : Cond.methodLink RL 13 yX5_clear ∈ lw_all := lw_t1 (i := 154) rfl rfl
set_option maxRecDepth 20000 in
theorem im_X5_clear : Cond.instanceMethod yX5_clear ∈ lw_all := lw_t1 (i := 155) rfl rfl
set_option maxRecDepth 20000 in
theorem se_X5_clear : Cond.selects RX5 yX5_clear yX5_clear ∈ lw_all := lw_t1 (i := 156) rfl rfl
set_option maxRecDepth 20000 in
theorem co_X5_clear : Cond.code yX5_clear cX5_clear 2 (some .int) ∈ lw_all := lw_t1 (i := 157) rfl rfl
set_option maxRecDepth 20000 in
theorem ml_X5_50 : Cond.methodLink RX5 50 yX2_size ∈ lw_all := lw_t1 (i := 158) rfl rfl
set_option maxRecDepth 20000 in
theorem im_X2_size : Cond.instanceMethod yX2_size ∈ lw_all := lw_t1 (i := 159) rfl rfl
set_option maxRecDepth 20000 in
theorem se_X2_size : Cond.selects RX2 yX2_size yX2_size ∈ lw_all := lw_t1 (i := 160) rfl rfl
set_option maxRecDepth 20000 in
theorem co_X2_size : Cond.code yX2_size cX2_size 1 (some .int) ∈ lw_all := lw_t1 (i := 161) rfl rfl
set_option maxRecDepth 20000 in
theorem ml_X5_54 : Cond.methodLink RX5 54 yX4_forget ∈ lw_all := lw_t1 (i := 162) rfl rfl
set_option maxRecDepth 20000 in
theorem im_X4_forget : Cond.instanceMethod yX4_forget ∈ lw_all := lw_t1 (i := 163) rfl rfl
set_option maxRecDepth 20000 in
theorem se_X4_forget : Cond.selects RX4 yX4_forget yX4_forget ∈ lw_all := lw_t1 (i := 164) rfl rfl
set_option maxRecDepth 20000 in
theorem co_X4_forget : Cond.code yX4_forget cX4_forget 1 none ∈ lw_all := lw_t1 (i := 165) rfl rfl
set_option maxRecDepth 20000 in
theorem ml_X5_57 : Cond.methodLink RX5 57 yX3_forget ∈ lw_all := lw_t1 (i := 166) rfl rfl
set_option maxRecDepth 20000 in
theorem im_X3_forget : Cond.instanceMethod yX3_forget ∈ lw_all := lw_t1 (i := 167) rfl rfl
set_option maxRecDepth 20000 in
theorem se_X3_forget : Cond.selects RX3 yX3_forget yX3_forget ∈ lw_all := lw_t1 (i := 168) rfl rfl
set_option maxRecDepth 20000 in
theorem co_X3_forget : Cond.code yX3_forget cX3_forget 1 none ∈ lw_all := lw_t1 (i := 169) rfl rfl
set_option maxRecDepth 20000 in
theorem ml_X5_58 : Cond.methodLink RX5 58 yX2_forget ∈ lw_all := lw_t1 (i := 170) rfl rfl
set_option maxRecDepth 20000 in
theorem im_X2_forget : Cond.instanceMethod yX2_forget ∈ lw_all := lw_t1 (i := 171) rfl rfl
set_option maxRecDepth 20000 in
theorem se_X2_forget : Cond.selects RX2 yX2_forget yX2_forget ∈ lw_all := lw_t1 (i := 172) rfl rfl
set_option maxRecDepth 20000 in
theorem co_X2_forget : Cond.code yX2_forget cX2_forget 2 none ∈ lw_all := lw_t1 (i := 173) rfl rfl
set_option maxRecDepth 20000 in
theorem ml_L_18 : Cond.methodLink RL 18 yX5_type ∈ lw_all := lw_t1 (i := 174) rfl rfl
set_option maxRecDepth 20000 in
theorem im_X5_type : Cond.instanceMethod yX5_type ∈ lw_all := lw_t1 (i := 175) rfl rfl
set_option maxRecDepth 20000 in
theorem se_X5_type : Cond.selects RX5 yX5_type yX5_type ∈ lw_all := lw_t1 (i := 176) rfl rfl
set_option maxRecDepth 20000 in
theorem co_X5_type : Cond.code yX5_type cX5_type 4 (some .int) ∈ lw_all := lw_t1 (i := 177) rfl rfl
set_option maxRecDepth 20000 in
theorem ml_X5_59 : Cond.methodLink RX5 59 yX4_has ∈ lw_all := lw_t1 (i := 178) rfl rfl
set_option maxRecDepth 20000 in
theorem im_X4_has : Cond.instanceMethod yX4_has ∈ lw_all := lw_t1 (i := 179) rfl rfl
set_option maxRecDepth 20000 in
theorem se_X4_has : Cond.selects RX4 yX4_has yX4_has ∈ lw_all := lw_t1 (i := 180) rfl rfl
set_option maxRecDepth 20000 in
theorem co_X4_has : Cond.code yX4_has cX4_has 2 (some .boolean) ∈ lw_all := lw_t1 (i := 181) rfl rfl
set_option maxRecDepth 20000 in
theorem ml_X5_63 : Cond.methodLink RX5 63 yX4_isInterface ∈ lw_all := lw_t1 (i := 182) rfl rfl
set_option maxRecDepth 20000 in
theorem im_X4_isInterface : Cond.instanceMethod yX4_isInterface ∈ lw_all := lw_t1 (i := 183) rfl rfl
set_option maxRecDepth 20000 in
theorem se_X4_isInterface : Cond.selects RX4 yX4_isInterface yX4_isInterface ∈ lw_all := lw_t1 (i := 184) rfl rfl
set_option maxRecDepth 20000 in
theorem co_X4_isInterface : Cond.code yX4_isInterface cX4_isInterface 2 (some .boolean) ∈ lw_all := lw_t1 (i := 185) rfl rfl
set_option maxRecDepth 20000 in
theorem ml_X5_66 : Cond.methodLink RX5 66 yX4_isFull ∈ lw_all := lw_t1 (i := 186) rfl rfl
set_option maxRecDepth 20000 in
theorem im_X4_isFull : Cond.instanceMethod yX4_isFull ∈ lw_all := lw_t1 (i := 187) rfl rfl
set_option maxRecDepth 20000 in
theorem se_X4_isFull : Cond.selects RX4 yX4_isFull yX4_isFull ∈ lw_all := lw_t1 (i := 188) rfl rfl
set_option maxRecDepth 20000 in
theorem co_X4_isFull : Cond.code yX4_isFull cX4_isFull 1 (some .boolean) ∈ lw_all := lw_t1 (i := 189) rfl rfl
set_option maxRecDepth 20000 in
theorem ml_X5_70 : Cond.methodLink RX5 70 yX4_add ∈ lw_all := lw_t1 (i := 190) rfl rfl
set_option maxRecDepth 20000 in
theorem im_X4_add : Cond.instanceMethod yX4_add ∈ lw_all := lw_t1 (i := 191) rfl rfl
set_option maxRecDepth 20000 in
theorem se_X4_add : Cond.selects RX4 yX4_add yX4_add ∈ lw_all := lw_t1 (i := 192) rfl rfl
set_option maxRecDepth 20000 in
theorem co_X4_add : Cond.code yX4_add cX4_add 5 (some .int) ∈ lw_all := lw_t1 (i := 193) rfl rfl
set_option maxRecDepth 20000 in
theorem ml_X4_31 : Cond.methodLink RX4 31 yX4_findAbove ∈ lw_all := lw_t1 (i := 194) rfl rfl
set_option maxRecDepth 20000 in
theorem im_X4_findAbove : Cond.instanceMethod yX4_findAbove ∈ lw_all := lw_t1 (i := 196) rfl rfl
set_option maxRecDepth 20000 in
theorem co_X4_findAbove : Cond.code yX4_findAbove cX4_findAbove 5 none ∈ lw_all := lw_t1 (i := 197) rfl rfl
set_option maxRecDepth 20000 in
theorem sm_X5_hasBit : Cond.static yX5_hasBit ∈ lw_all := lw_t1 (i := 199) rfl rfl
set_option maxRecDepth 20000 in
theorem co_X5_hasBit : Cond.code yX5_hasBit cX5_hasBit 2 (some .boolean) ∈ lw_all := lw_t1 (i := 200) rfl rfl
set_option maxRecDepth 20000 in
theorem ml_L_23 : Cond.methodLink RL 23 yX5_face ∈ lw_all := lw_t1 (i := 201) rfl rfl
set_option maxRecDepth 20000 in
theorem im_X5_face : Cond.instanceMethod yX5_face ∈ lw_all := lw_t1 (i := 202) rfl rfl
set_option maxRecDepth 20000 in
theorem se_X5_face : Cond.selects RX5 yX5_face yX5_face ∈ lw_all := lw_t1 (i := 203) rfl rfl
set_option maxRecDepth 20000 in
theorem co_X5_face : Cond.code yX5_face cX5_face 3 (some .int) ∈ lw_all := lw_t1 (i := 204) rfl rfl
set_option maxRecDepth 20000 in
theorem ml_X5_74 : Cond.methodLink RX5 74 yX4_hasFace ∈ lw_all := lw_t1 (i := 205) rfl rfl
set_option maxRecDepth 20000 in
theorem im_X4_hasFace : Cond.instanceMethod yX4_hasFace ∈ lw_all := lw_t1 (i := 206) rfl rfl
set_option maxRecDepth 20000 in
theorem se_X4_hasFace : Cond.selects RX4 yX4_hasFace yX4_hasFace ∈ lw_all := lw_t1 (i := 207) rfl rfl
set_option maxRecDepth 20000 in
theorem co_X4_hasFace : Cond.code yX4_hasFace cX4_hasFace 3 (some .boolean) ∈ lw_all := lw_t1 (i := 208) rfl rfl
set_option maxRecDepth 20000 in
theorem ml_X5_78 : Cond.methodLink RX5 78 yX4_countFaces ∈ lw_all := lw_t1 (i := 209) rfl rfl
set_option maxRecDepth 20000 in
theorem im_X4_countFaces : Cond.instanceMethod yX4_countFaces ∈ lw_all := lw_t1 (i := 210) rfl rfl
set_option maxRecDepth 20000 in
theorem se_X4_countFaces : Cond.selects RX4 yX4_countFaces yX4_countFaces ∈ lw_all := lw_t1 (i := 211) rfl rfl
set_option maxRecDepth 20000 in
theorem co_X4_countFaces : Cond.code yX4_countFaces cX4_countFaces 2 (some .int) ∈ lw_all := lw_t1 (i := 212) rfl rfl
set_option maxRecDepth 20000 in
theorem ml_X4_43 : Cond.methodLink RX4 43 yJ6_bitCount_0f7a4 ∈ lw_all := lw_t1 (i := 213) rfl rfl
set_option maxRecDepth 20000 in
theorem sm_J6_bitCount_0f7a4 : Cond.static yJ6_bitCount_0f7a4 ∈ lw_all := lw_t1 (i := 214) rfl rfl
set_option maxRecDepth 20000 in
theorem co_J6_bitCount_0f7a4 : Cond.code yJ6_bitCount_0f7a4 cJ6_bitCount_0f7a4 1 (some .int) ∈ lw_all := lw_t1 (i := 215) rfl rfl
set_option maxRecDepth 20000 in
theorem ct_J6_265 : Cond.constant RJ6 265 1431655765 ∈ lw_all := lw_t1 (i := 216) rfl rfl
set_option maxRecDepth 20000 in
theorem ct_J6_266 : Cond.constant RJ6 266 858993459 ∈ lw_all := lw_t1 (i := 217) rfl rfl
set_option maxRecDepth 20000 in
theorem ct_J6_267 : Cond.constant RJ6 267 252645135 ∈ lw_all := lw_t1 (i := 218) rfl rfl
set_option maxRecDepth 20000 in
theorem ml_X5_82 : Cond.methodLink RX5 82 yX4_addFace ∈ lw_all := lw_t1 (i := 219) rfl rfl
set_option maxRecDepth 20000 in
theorem im_X4_addFace : Cond.instanceMethod yX4_addFace ∈ lw_all := lw_t1 (i := 220) rfl rfl
set_option maxRecDepth 20000 in
theorem se_X4_addFace : Cond.selects RX4 yX4_addFace yX4_addFace ∈ lw_all := lw_t1 (i := 221) rfl rfl
set_option maxRecDepth 20000 in
theorem co_X4_addFace : Cond.code yX4_addFace cX4_addFace 4 (some .int) ∈ lw_all := lw_t1 (i := 222) rfl rfl
set_option maxRecDepth 20000 in
theorem ml_X4_35 : Cond.methodLink RX4 35 yX4_countFaces ∈ lw_all := lw_t1 (i := 223) rfl rfl
set_option maxRecDepth 20000 in
theorem ml_L_28 : Cond.methodLink RL 28 yX5_thrown0 ∈ lw_all := lw_t1 (i := 224) rfl rfl
set_option maxRecDepth 20000 in
theorem im_X5_thrown0 : Cond.instanceMethod yX5_thrown0 ∈ lw_all := lw_t1 (i := 225) rfl rfl
set_option maxRecDepth 20000 in
theorem se_X5_thrown0 : Cond.selects RX5 yX5_thrown0 yX5_thrown0 ∈ lw_all := lw_t1 (i := 226) rfl rfl
set_option maxRecDepth 20000 in
theorem co_X5_thrown0 : Cond.code yX5_thrown0 cX5_thrown0 3 (some .int) ∈ lw_all := lw_t1 (i := 227) rfl rfl
set_option maxRecDepth 20000 in
theorem ml_X5_86 : Cond.methodLink RX5 86 yX3_has ∈ lw_all := lw_t1 (i := 228) rfl rfl
set_option maxRecDepth 20000 in
theorem im_X3_has : Cond.instanceMethod yX3_has ∈ lw_all := lw_t1 (i := 229) rfl rfl
set_option maxRecDepth 20000 in
theorem se_X3_has : Cond.selects RX3 yX3_has yX3_has ∈ lw_all := lw_t1 (i := 230) rfl rfl
set_option maxRecDepth 20000 in
theorem co_X3_has : Cond.code yX3_has cX3_has 2 (some .boolean) ∈ lw_all := lw_t1 (i := 231) rfl rfl
set_option maxRecDepth 20000 in
theorem ml_X5_87 : Cond.methodLink RX5 87 yX3_isFull ∈ lw_all := lw_t1 (i := 232) rfl rfl
set_option maxRecDepth 20000 in
theorem im_X3_isFull : Cond.instanceMethod yX3_isFull ∈ lw_all := lw_t1 (i := 233) rfl rfl
set_option maxRecDepth 20000 in
theorem se_X3_isFull : Cond.selects RX3 yX3_isFull yX3_isFull ∈ lw_all := lw_t1 (i := 234) rfl rfl
set_option maxRecDepth 20000 in
theorem co_X3_isFull : Cond.code yX3_isFull cX3_isFull 1 (some .boolean) ∈ lw_all := lw_t1 (i := 235) rfl rfl
set_option maxRecDepth 20000 in
theorem ml_X5_88 : Cond.methodLink RX5 88 yX3_add ∈ lw_all := lw_t1 (i := 236) rfl rfl
set_option maxRecDepth 20000 in
theorem im_X3_add : Cond.instanceMethod yX3_add ∈ lw_all := lw_t1 (i := 237) rfl rfl
set_option maxRecDepth 20000 in
theorem se_X3_add : Cond.selects RX3 yX3_add yX3_add ∈ lw_all := lw_t1 (i := 238) rfl rfl
set_option maxRecDepth 20000 in
theorem co_X3_add : Cond.code yX3_add cX3_add 4 (some .int) ∈ lw_all := lw_t1 (i := 239) rfl rfl
set_option maxRecDepth 20000 in
theorem ml_L_33 : Cond.methodLink RL 33 yX5_member ∈ lw_all := lw_t2 (i := 0) rfl rfl
set_option maxRecDepth 20000 in
theorem im_X5_member : Cond.instanceMethod yX5_member ∈ lw_all := lw_t2 (i := 1) rfl rfl
set_option maxRecDepth 20000 in
theorem se_X5_member : Cond.selects RX5 yX5_member yX5_member ∈ lw_all := lw_t2 (i := 2) rfl rfl
set_option maxRecDepth 20000 in
theorem co_X5_member : Cond.code yX5_member cX5_member 5 (some .int) ∈ lw_all := lw_t2 (i := 3) rfl rfl
set_option maxRecDepth 20000 in
theorem ml_X5_91 : Cond.methodLink RX5 91 yX5_isMissingType ∈ lw_all := lw_t2 (i := 4) rfl rfl
set_option maxRecDepth 20000 in
theorem im_X5_isMissingType : Cond.instanceMethod yX5_isMissingType ∈ lw_all := lw_t2 (i := 6) rfl rfl
set_option maxRecDepth 20000 in
theorem co_X5_isMissingType : Cond.code yX5_isMissingType cX5_isMissingType 2 (some .boolean) ∈ lw_all := lw_t2 (i := 7) rfl rfl
set_option maxRecDepth 20000 in
theorem ml_X5_94 : Cond.methodLink RX5 94 yX5_areMarks ∈ lw_all := lw_t2 (i := 8) rfl rfl
set_option maxRecDepth 20000 in
theorem sm_X5_areMarks : Cond.static yX5_areMarks ∈ lw_all := lw_t2 (i := 9) rfl rfl
set_option maxRecDepth 20000 in
theorem co_X5_areMarks : Cond.code yX5_areMarks cX5_areMarks 2 (some .boolean) ∈ lw_all := lw_t2 (i := 10) rfl rfl
set_option maxRecDepth 20000 in
theorem ml_X5_148 : Cond.methodLink RX5 148 yJ6_bitCount_0f7a4 ∈ lw_all := lw_t2 (i := 11) rfl rfl
set_option maxRecDepth 20000 in
theorem ml_X5_153 : Cond.methodLink RX5 153 yX5_areInterfaceMarks ∈ lw_all := lw_t2 (i := 12) rfl rfl
set_option maxRecDepth 20000 in
theorem sm_X5_areInterfaceMarks : Cond.static yX5_areInterfaceMarks ∈ lw_all := lw_t2 (i := 13) rfl rfl
set_option maxRecDepth 20000 in
theorem co_X5_areInterfaceMarks : Cond.code yX5_areInterfaceMarks cX5_areInterfaceMarks 2 (some .boolean) ∈ lw_all := lw_t2 (i := 14) rfl rfl
set_option maxRecDepth 20000 in
theorem ml_X5_156 : Cond.methodLink RX5 156 yX5_areClassMarks ∈ lw_all := lw_t2 (i := 15) rfl rfl
set_option maxRecDepth 20000 in
theorem sm_X5_areClassMarks : Cond.static yX5_areClassMarks ∈ lw_all := lw_t2 (i := 16) rfl rfl
set_option maxRecDepth 20000 in
theorem co_X5_areClassMarks : Cond.code yX5_areClassMarks cX5_areClassMarks 1 (some .boolean) ∈ lw_all := lw_t2 (i := 17) rfl rfl
set_option maxRecDepth 20000 in
theorem ml_X5_98 : Cond.methodLink RX5 98 yX2_at ∈ lw_all := lw_t2 (i := 18) rfl rfl
set_option maxRecDepth 20000 in
theorem im_X2_at : Cond.instanceMethod yX2_at ∈ lw_all := lw_t2 (i := 19) rfl rfl
set_option maxRecDepth 20000 in
theorem se_X2_at : Cond.selects RX2 yX2_at yX2_at ∈ lw_all := lw_t2 (i := 20) rfl rfl
set_option maxRecDepth 20000 in
theorem co_X2_at : Cond.code yX2_at cX2_at 4 (some .int) ∈ lw_all := lw_t2 (i := 21) rfl rfl
set_option maxRecDepth 20000 in
theorem ml_X5_101 : Cond.methodLink RX5 101 yX2_isFull ∈ lw_all := lw_t2 (i := 22) rfl rfl
set_option maxRecDepth 20000 in
theorem im_X2_isFull : Cond.instanceMethod yX2_isFull ∈ lw_all := lw_t2 (i := 23) rfl rfl
set_option maxRecDepth 20000 in
theorem se_X2_isFull : Cond.selects RX2 yX2_isFull yX2_isFull ∈ lw_all := lw_t2 (i := 24) rfl rfl
set_option maxRecDepth 20000 in
theorem co_X2_isFull : Cond.code yX2_isFull cX2_isFull 1 (some .boolean) ∈ lw_all := lw_t2 (i := 25) rfl rfl
set_option maxRecDepth 20000 in
theorem ml_X5_102 : Cond.methodLink RX5 102 yX2_add ∈ lw_all := lw_t2 (i := 26) rfl rfl
set_option maxRecDepth 20000 in
theorem im_X2_add : Cond.instanceMethod yX2_add ∈ lw_all := lw_t2 (i := 27) rfl rfl
set_option maxRecDepth 20000 in
theorem se_X2_add : Cond.selects RX2 yX2_add yX2_add ∈ lw_all := lw_t2 (i := 28) rfl rfl
set_option maxRecDepth 20000 in
theorem co_X2_add : Cond.code yX2_add cX2_add 7 (some .int) ∈ lw_all := lw_t2 (i := 29) rfl rfl
set_option maxRecDepth 20000 in
theorem ml_X2_38 : Cond.methodLink RX2 38 yX4_isInterface ∈ lw_all := lw_t2 (i := 30) rfl rfl
set_option maxRecDepth 20000 in
theorem ml_L_38 : Cond.methodLink RL 38 yX5_throws0 ∈ lw_all := lw_t2 (i := 31) rfl rfl
set_option maxRecDepth 20000 in
theorem im_X5_throws0 : Cond.instanceMethod yX5_throws0 ∈ lw_all := lw_t2 (i := 32) rfl rfl
set_option maxRecDepth 20000 in
theorem se_X5_throws0 : Cond.selects RX5 yX5_throws0 yX5_throws0 ∈ lw_all := lw_t2 (i := 33) rfl rfl
set_option maxRecDepth 20000 in
theorem co_X5_throws0 : Cond.code yX5_throws0 cX5_throws0 3 (some .int) ∈ lw_all := lw_t2 (i := 34) rfl rfl
set_option maxRecDepth 20000 in
theorem ml_X5_105 : Cond.methodLink RX5 105 yX2_has ∈ lw_all := lw_t2 (i := 35) rfl rfl
set_option maxRecDepth 20000 in
theorem im_X2_has : Cond.instanceMethod yX2_has ∈ lw_all := lw_t2 (i := 36) rfl rfl
set_option maxRecDepth 20000 in
theorem se_X2_has : Cond.selects RX2 yX2_has yX2_has ∈ lw_all := lw_t2 (i := 37) rfl rfl
set_option maxRecDepth 20000 in
theorem co_X2_has : Cond.code yX2_has cX2_has 2 (some .boolean) ∈ lw_all := lw_t2 (i := 38) rfl rfl
set_option maxRecDepth 20000 in
theorem ml_X5_106 : Cond.methodLink RX5 106 yX2_addThrow ∈ lw_all := lw_t2 (i := 39) rfl rfl
set_option maxRecDepth 20000 in
theorem im_X2_addThrow : Cond.instanceMethod yX2_addThrow ∈ lw_all := lw_t2 (i := 40) rfl rfl
set_option maxRecDepth 20000 in
theorem se_X2_addThrow : Cond.selects RX2 yX2_addThrow yX2_addThrow ∈ lw_all := lw_t2 (i := 41) rfl rfl
set_option maxRecDepth 20000 in
theorem co_X2_addThrow : Cond.code yX2_addThrow cX2_addThrow 4 (some .boolean) ∈ lw_all := lw_t2 (i := 42) rfl rfl
set_option maxRecDepth 20000 in
theorem ml_X5_109 : Cond.methodLink RX5 109 yX5_oneIf ∈ lw_all := lw_t2 (i := 44) rfl rfl
set_option maxRecDepth 20000 in
theorem sm_X5_oneIf : Cond.static yX5_oneIf ∈ lw_all := lw_t2 (i := 45) rfl rfl
set_option maxRecDepth 20000 in
theorem co_X5_oneIf : Cond.code yX5_oneIf cX5_oneIf 1 (some .int) ∈ lw_all := lw_t2 (i := 46) rfl rfl
set_option maxRecDepth 20000 in
theorem ml_L_42 : Cond.methodLink RL 42 yX5_overrides ∈ lw_all := lw_t2 (i := 47) rfl rfl
set_option maxRecDepth 20000 in
theorem im_X5_overrides : Cond.instanceMethod yX5_overrides ∈ lw_all := lw_t2 (i := 48) rfl rfl
set_option maxRecDepth 20000 in
theorem se_X5_overrides : Cond.selects RX5 yX5_overrides yX5_overrides ∈ lw_all := lw_t2 (i := 49) rfl rfl
set_option maxRecDepth 20000 in
theorem co_X5_overrides : Cond.code yX5_overrides cX5_overrides 3 (some .int) ∈ lw_all := lw_t2 (i := 50) rfl rfl
set_option maxRecDepth 20000 in
theorem ml_X5_113 : Cond.methodLink RX5 113 yX2_isOverriding ∈ lw_all := lw_t2 (i := 51) rfl rfl
set_option maxRecDepth 20000 in
theorem im_X2_isOverriding : Cond.instanceMethod yX2_isOverriding ∈ lw_all := lw_t2 (i := 52) rfl rfl
set_option maxRecDepth 20000 in
theorem se_X2_isOverriding : Cond.selects RX2 yX2_isOverriding yX2_isOverriding ∈ lw_all := lw_t2 (i := 53) rfl rfl
set_option maxRecDepth 20000 in
theorem co_X2_isOverriding : Cond.code yX2_isOverriding cX2_isOverriding 3 (some .boolean) ∈ lw_all := lw_t2 (i := 54) rfl rfl
set_option maxRecDepth 20000 in
theorem ml_X2_51 : Cond.methodLink RX2 51 yX2_isOfNameBelow ∈ lw_all := lw_t2 (i := 55) rfl rfl
set_option maxRecDepth 20000 in
theorem im_X2_isOfNameBelow : Cond.instanceMethod yX2_isOfNameBelow ∈ lw_all := lw_t2 (i := 57) rfl rfl
set_option maxRecDepth 20000 in
theorem co_X2_isOfNameBelow : Cond.code yX2_isOfNameBelow cX2_isOfNameBelow 3 (some .boolean) ∈ lw_all := lw_t2 (i := 58) rfl rfl
set_option maxRecDepth 20000 in
theorem ml_X2_63 : Cond.methodLink RX2 63 yX4_isBelow ∈ lw_all := lw_t2 (i := 59) rfl rfl
set_option maxRecDepth 20000 in
theorem im_X4_isBelow : Cond.instanceMethod yX4_isBelow ∈ lw_all := lw_t2 (i := 60) rfl rfl
set_option maxRecDepth 20000 in
theorem se_X4_isBelow : Cond.selects RX4 yX4_isBelow yX4_isBelow ∈ lw_all := lw_t2 (i := 61) rfl rfl
set_option maxRecDepth 20000 in
theorem co_X4_isBelow : Cond.code yX4_isBelow cX4_isBelow 3 (some .boolean) ∈ lw_all := lw_t2 (i := 62) rfl rfl
set_option maxRecDepth 20000 in
theorem ml_X2_48 : Cond.methodLink RX2 48 yX2_hasMark ∈ lw_all := lw_t2 (i := 63) rfl rfl
set_option maxRecDepth 20000 in
theorem im_X2_hasMark : Cond.instanceMethod yX2_hasMark ∈ lw_all := lw_t2 (i := 64) rfl rfl
set_option maxRecDepth 20000 in
theorem se_X2_hasMark : Cond.selects RX2 yX2_hasMark yX2_hasMark ∈ lw_all := lw_t2 (i := 65) rfl rfl
set_option maxRecDepth 20000 in
theorem co_X2_hasMark : Cond.code yX2_hasMark cX2_hasMark 3 (some .boolean) ∈ lw_all := lw_t2 (i := 66) rfl rfl
set_option maxRecDepth 20000 in
theorem ml_X2_54 : Cond.methodLink RX2 54 yX2_isInheritable ∈ lw_all := lw_t2 (i := 67) rfl rfl
set_option maxRecDepth 20000 in
theorem im_X2_isInheritable : Cond.instanceMethod yX2_isInheritable ∈ lw_all := lw_t2 (i := 68) rfl rfl
set_option maxRecDepth 20000 in
theorem se_X2_isInheritable : Cond.selects RX2 yX2_isInheritable yX2_isInheritable ∈ lw_all := lw_t2 (i := 69) rfl rfl
set_option maxRecDepth 20000 in
theorem co_X2_isInheritable : Cond.code yX2_isInheritable cX2_isInheritable 2 (some .boolean) ∈ lw_all := lw_t2 (i := 70) rfl rfl
set_option maxRecDepth 20000 in
theorem ml_X2_57 : Cond.methodLink RX2 57 yX2_isReached ∈ lw_all := lw_t2 (i := 71) rfl rfl
set_option maxRecDepth 20000 in
theorem im_X2_isReached : Cond.instanceMethod yX2_isReached ∈ lw_all := lw_t2 (i := 73) rfl rfl
set_option maxRecDepth 20000 in
theorem co_X2_isReached : Cond.code yX2_isReached cX2_isReached 9 (some .boolean) ∈ lw_all := lw_t2 (i := 74) rfl rfl
set_option maxRecDepth 20000 in
theorem ml_X2_66 : Cond.methodLink RX2 66 yX4_packetOf ∈ lw_all := lw_t2 (i := 75) rfl rfl
set_option maxRecDepth 20000 in
theorem im_X4_packetOf : Cond.instanceMethod yX4_packetOf ∈ lw_all := lw_t2 (i := 76) rfl rfl
set_option maxRecDepth 20000 in
theorem se_X4_packetOf : Cond.selects RX4 yX4_packetOf yX4_packetOf ∈ lw_all := lw_t2 (i := 77) rfl rfl
set_option maxRecDepth 20000 in
theorem co_X4_packetOf : Cond.code yX4_packetOf cX4_packetOf 2 (some .int) ∈ lw_all := lw_t2 (i := 78) rfl rfl
set_option maxRecDepth 20000 in
theorem ml_X2_70 : Cond.methodLink RX2 70 yX4_parentOf ∈ lw_all := lw_t2 (i := 79) rfl rfl
set_option maxRecDepth 20000 in
theorem im_X4_parentOf : Cond.instanceMethod yX4_parentOf ∈ lw_all := lw_t2 (i := 80) rfl rfl
set_option maxRecDepth 20000 in
theorem se_X4_parentOf : Cond.selects RX4 yX4_parentOf yX4_parentOf ∈ lw_all := lw_t2 (i := 81) rfl rfl
set_option maxRecDepth 20000 in
theorem co_X4_parentOf : Cond.code yX4_parentOf cX4_parentOf 2 (some .int) ∈ lw_all := lw_t2 (i := 82) rfl rfl
set_option maxRecDepth 20000 in
theorem ml_X2_73 : Cond.methodLink RX2 73 yX2_at ∈ lw_all := lw_t2 (i := 83) rfl rfl
set_option maxRecDepth 20000 in
theorem ml_L_46 : Cond.methodLink RL 46 yX5_hides ∈ lw_all := lw_t2 (i := 84) rfl rfl
set_option maxRecDepth 20000 in
theorem im_X5_hides : Cond.instanceMethod yX5_hides ∈ lw_all := lw_t2 (i := 85) rfl rfl
set_option maxRecDepth 20000 in
theorem se_X5_hides : Cond.selects RX5 yX5_hides yX5_hides ∈ lw_all := lw_t2 (i := 86) rfl rfl
set_option maxRecDepth 20000 in
theorem co_X5_hides : Cond.code yX5_hides cX5_hides 3 (some .int) ∈ lw_all := lw_t2 (i := 87) rfl rfl
set_option maxRecDepth 20000 in
theorem ml_X5_116 : Cond.methodLink RX5 116 yX2_isHiding ∈ lw_all := lw_t2 (i := 88) rfl rfl
set_option maxRecDepth 20000 in
theorem im_X2_isHiding : Cond.instanceMethod yX2_isHiding ∈ lw_all := lw_t2 (i := 89) rfl rfl
set_option maxRecDepth 20000 in
theorem se_X2_isHiding : Cond.selects RX2 yX2_isHiding yX2_isHiding ∈ lw_all := lw_t2 (i := 90) rfl rfl
set_option maxRecDepth 20000 in
theorem co_X2_isHiding : Cond.code yX2_isHiding cX2_isHiding 3 (some .boolean) ∈ lw_all := lw_t2 (i := 91) rfl rfl
set_option maxRecDepth 20000 in
theorem ml_X2_60 : Cond.methodLink RX2 60 yX2_isSeen ∈ lw_all := lw_t2 (i := 92) rfl rfl
set_option maxRecDepth 20000 in
theorem im_X2_isSeen : Cond.instanceMethod yX2_isSeen ∈ lw_all := lw_t2 (i := 94) rfl rfl
set_option maxRecDepth 20000 in
theorem co_X2_isSeen : Cond.code yX2_isSeen cX2_isSeen 3 (some .boolean) ∈ lw_all := lw_t2 (i := 95) rfl rfl
set_option maxRecDepth 20000 in
theorem ml_L_50 : Cond.methodLink RL 50 yX5_chosen ∈ lw_all := lw_t2 (i := 96) rfl rfl
set_option maxRecDepth 20000 in
theorem im_X5_chosen : Cond.instanceMethod yX5_chosen ∈ lw_all := lw_t2 (i := 97) rfl rfl
set_option maxRecDepth 20000 in
theorem se_X5_chosen : Cond.selects RX5 yX5_chosen yX5_chosen ∈ lw_all := lw_t2 (i := 98) rfl rfl
set_option maxRecDepth 20000 in
theorem co_X5_chosen : Cond.code yX5_chosen cX5_chosen 3 (some .int) ∈ lw_all := lw_t2 (i := 99) rfl rfl
set_option maxRecDepth 20000 in
theorem ml_X5_119 : Cond.methodLink RX5 119 yX2_isInheritable ∈ lw_all := lw_t2 (i := 100) rfl rfl
set_option maxRecDepth 20000 in
theorem ml_X5_122 : Cond.methodLink RX5 122 yX2_typeOf ∈ lw_all := lw_t2 (i := 101) rfl rfl
set_option maxRecDepth 20000 in
theorem im_X2_typeOf : Cond.instanceMethod yX2_typeOf ∈ lw_all := lw_t2 (i := 102) rfl rfl
set_option maxRecDepth 20000 in
theorem se_X2_typeOf : Cond.selects RX2 yX2_typeOf yX2_typeOf ∈ lw_all := lw_t2 (i := 103) rfl rfl
set_option maxRecDepth 20000 in
theorem co_X2_typeOf : Cond.code yX2_typeOf cX2_typeOf 2 (some .int) ∈ lw_all := lw_t2 (i := 104) rfl rfl
set_option maxRecDepth 20000 in
theorem ml_X5_125 : Cond.methodLink RX5 125 yX4_isSub ∈ lw_all := lw_t2 (i := 105) rfl rfl
set_option maxRecDepth 20000 in
theorem im_X4_isSub : Cond.instanceMethod yX4_isSub ∈ lw_all := lw_t2 (i := 106) rfl rfl
set_option maxRecDepth 20000 in
theorem se_X4_isSub : Cond.selects RX4 yX4_isSub yX4_isSub ∈ lw_all := lw_t2 (i := 107) rfl rfl
set_option maxRecDepth 20000 in
theorem co_X4_isSub : Cond.code yX4_isSub cX4_isSub 3 (some .boolean) ∈ lw_all := lw_t2 (i := 108) rfl rfl
set_option maxRecDepth 20000 in
theorem ml_X5_128 : Cond.methodLink RX5 128 yX0_choose ∈ lw_all := lw_t2 (i := 109) rfl rfl
set_option maxRecDepth 20000 in
theorem im_X0_choose : Cond.instanceMethod yX0_choose ∈ lw_all := lw_t2 (i := 110) rfl rfl
set_option maxRecDepth 20000 in
theorem se_X0_choose : Cond.selects RX0 yX0_choose yX0_choose ∈ lw_all := lw_t2 (i := 111) rfl rfl
set_option maxRecDepth 20000 in
theorem co_X0_choose : Cond.code yX0_choose cX0_choose 8 (some .int) ∈ lw_all := lw_t2 (i := 112) rfl rfl
set_option maxRecDepth 20000 in
theorem ml_X0_19 : Cond.methodLink RX0 19 yX2_nameOf ∈ lw_all := lw_t2 (i := 113) rfl rfl
set_option maxRecDepth 20000 in
theorem im_X2_nameOf : Cond.instanceMethod yX2_nameOf ∈ lw_all := lw_t2 (i := 114) rfl rfl
set_option maxRecDepth 20000 in
theorem se_X2_nameOf : Cond.selects RX2 yX2_nameOf yX2_nameOf ∈ lw_all := lw_t2 (i := 115) rfl rfl
set_option maxRecDepth 20000 in
theorem co_X2_nameOf : Cond.code yX2_nameOf cX2_nameOf 2 (some .int) ∈ lw_all := lw_t2 (i := 116) rfl rfl
set_option maxRecDepth 20000 in
theorem ml_X0_25 : Cond.methodLink RX0 25 yX2_typeOf ∈ lw_all := lw_t2 (i := 117) rfl rfl
set_option maxRecDepth 20000 in
theorem ml_X0_28 : Cond.methodLink RX0 28 yX4_isInterface ∈ lw_all := lw_t2 (i := 118) rfl rfl
set_option maxRecDepth 20000 in
theorem ml_X0_34 : Cond.methodLink RX0 34 yX2_at ∈ lw_all := lw_t2 (i := 119) rfl rfl
set_option maxRecDepth 20000 in
theorem ml_X0_38 : Cond.methodLink RX0 38 yX2_isInheritable ∈ lw_all := lw_t2 (i := 120) rfl rfl
set_option maxRecDepth 20000 in
theorem ml_X0_41 : Cond.methodLink RX0 41 yX2_isOverriding ∈ lw_all := lw_t2 (i := 121) rfl rfl
set_option maxRecDepth 20000 in
theorem ml_X0_45 : Cond.methodLink RX0 45 yX4_parentOf ∈ lw_all := lw_t2 (i := 122) rfl rfl
set_option maxRecDepth 20000 in
theorem ml_X0_48 : Cond.methodLink RX0 48 yX0_chooseOfInterfaces ∈ lw_all := lw_t2 (i := 123) rfl rfl
set_option maxRecDepth 20000 in
theorem im_X0_chooseOfInterfaces : Cond.instanceMethod yX0_chooseOfInterfaces ∈ lw_all := lw_t2 (i := 125) rfl rfl
set_option maxRecDepth 20000 in
theorem co_X0_chooseOfInterfaces : Cond.code yX0_chooseOfInterfaces cX0_chooseOfInterfaces 6 (some .int) ∈ lw_all := lw_t2 (i := 126) rfl rfl
set_option maxRecDepth 20000 in
theorem ml_X0_51 : Cond.methodLink RX0 51 yX4_isBelow ∈ lw_all := lw_t2 (i := 127) rfl rfl
set_option maxRecDepth 20000 in
theorem ml_X0_54 : Cond.methodLink RX0 54 yX4_allAbove ∈ lw_all := lw_t2 (i := 128) rfl rfl
set_option maxRecDepth 20000 in
theorem im_X4_allAbove : Cond.instanceMethod yX4_allAbove ∈ lw_all := lw_t2 (i := 129) rfl rfl
set_option maxRecDepth 20000 in
theorem se_X4_allAbove : Cond.selects RX4 yX4_allAbove yX4_allAbove ∈ lw_all := lw_t2 (i := 130) rfl rfl
set_option maxRecDepth 20000 in
theorem co_X4_allAbove : Cond.code yX4_allAbove cX4_allAbove 2 (some .int) ∈ lw_all := lw_t2 (i := 131) rfl rfl
set_option maxRecDepth 20000 in
theorem ml_X0_57 : Cond.methodLink RX0 57 yX0_leastOrFight ∈ lw_all := lw_t2 (i := 132) rfl rfl
set_option maxRecDepth 20000 in
theorem im_X0_leastOrFight : Cond.instanceMethod yX0_leastOrFight ∈ lw_all := lw_t2 (i := 134) rfl rfl
set_option maxRecDepth 20000 in
theorem co_X0_leastOrFight : Cond.code yX0_leastOrFight cX0_leastOrFight 7 (some .int) ∈ lw_all := lw_t2 (i := 135) rfl rfl
set_option maxRecDepth 20000 in
theorem ml_X0_60 : Cond.methodLink RX0 60 yX4_size ∈ lw_all := lw_t2 (i := 136) rfl rfl
set_option maxRecDepth 20000 in
theorem im_X4_size : Cond.instanceMethod yX4_size ∈ lw_all := lw_t2 (i := 137) rfl rfl
set_option maxRecDepth 20000 in
theorem se_X4_size : Cond.selects RX4 yX4_size yX4_size ∈ lw_all := lw_t2 (i := 138) rfl rfl
set_option maxRecDepth 20000 in
theorem co_X4_size : Cond.code yX4_size cX4_size 1 (some .int) ∈ lw_all := lw_t2 (i := 139) rfl rfl
set_option maxRecDepth 20000 in
theorem ml_X0_67 : Cond.methodLink RX0 67 yJ9_min_7cf53 ∈ lw_all := lw_t2 (i := 141) rfl rfl
set_option maxRecDepth 20000 in
theorem sm_J9_min_7cf53 : Cond.static yJ9_min_7cf53 ∈ lw_all := lw_t2 (i := 142) rfl rfl
set_option maxRecDepth 20000 in
theorem co_J9_min_7cf53 : Cond.code yJ9_min_7cf53 cJ9_min_7cf53 2 (some .int) ∈ lw_all := lw_t2 (i := 143) rfl rfl
set_option maxRecDepth 20000 in
theorem ml_X0_72 : Cond.methodLink RX0 72 yX2_hasMark ∈ lw_all := lw_t2 (i := 144) rfl rfl
set_option maxRecDepth 20000 in
theorem ml_X0_75 : Cond.methodLink RX0 75 yJ6_bitCount_0f7a4 ∈ lw_all := lw_t2 (i := 145) rfl rfl
set_option maxRecDepth 20000 in
theorem ml_L_54 : Cond.methodLink RL 54 yX5_sub ∈ lw_all := lw_t2 (i := 146) rfl rfl
set_option maxRecDepth 20000 in
theorem im_X5_sub : Cond.instanceMethod yX5_sub ∈ lw_all := lw_t2 (i := 147) rfl rfl
set_option maxRecDepth 20000 in
theorem se_X5_sub : Cond.selects RX5 yX5_sub yX5_sub ∈ lw_all := lw_t2 (i := 148) rfl rfl
set_option maxRecDepth 20000 in
theorem co_X5_sub : Cond.code yX5_sub cX5_sub 3 (some .int) ∈ lw_all := lw_t2 (i := 149) rfl rfl
set_option maxRecDepth 20000 in
theorem ml_L_58 : Cond.methodLink RL 58 yX5_check ∈ lw_all := lw_t2 (i := 150) rfl rfl
set_option maxRecDepth 20000 in
theorem im_X5_check : Cond.instanceMethod yX5_check ∈ lw_all := lw_t2 (i := 151) rfl rfl
set_option maxRecDepth 20000 in
theorem se_X5_check : Cond.selects RX5 yX5_check yX5_check ∈ lw_all := lw_t2 (i := 152) rfl rfl
set_option maxRecDepth 20000 in
theorem co_X5_check : Cond.code yX5_check cX5_check 2 (some .int) ∈ lw_all := lw_t2 (i := 153) rfl rfl
set_option maxRecDepth 20000 in
theorem ml_X5_131 : Cond.methodLink RX5 131 yX1_walk ∈ lw_all := lw_t2 (i := 154) rfl rfl
set_option maxRecDepth 20000 in
theorem im_X1_walk : Cond.instanceMethod yX1_walk ∈ lw_all := lw_t2 (i := 155) rfl rfl
set_option maxRecDepth 20000 in
theorem se_X1_walk : Cond.selects RX1 yX1_walk yX1_walk ∈ lw_all := lw_t2 (i := 156) rfl rfl
set_option maxRecDepth 20000 in
theorem co_X1_walk : Cond.code yX1_walk cX1_walk 4 (some .int) ∈ lw_all := lw_t2 (i := 157) rfl rfl
set_option maxRecDepth 20000 in
theorem ml_X1_43 : Cond.methodLink RX1 43 yX2_size ∈ lw_all := lw_t2 (i := 158) rfl rfl
set_option maxRecDepth 20000 in
theorem ml_X1_49 : Cond.methodLink RX1 49 yX2_typeOf ∈ lw_all := lw_t2 (i := 159) rfl rfl
set_option maxRecDepth 20000 in
theorem ml_X1_53 : Cond.methodLink RX1 53 yX1_walkOwn ∈ lw_all := lw_t2 (i := 160) rfl rfl
set_option maxRecDepth 20000 in
theorem im_X1_walkOwn : Cond.instanceMethod yX1_walkOwn ∈ lw_all := lw_t2 (i := 162) rfl rfl
set_option maxRecDepth 20000 in
theorem co_X1_walkOwn : Cond.code yX1_walkOwn cX1_walkOwn 5 none ∈ lw_all := lw_t2 (i := 163) rfl rfl
set_option maxRecDepth 20000 in
theorem ml_X1_70 : Cond.methodLink RX1 70 yX2_isOverriding ∈ lw_all := lw_t2 (i := 164) rfl rfl
set_option maxRecDepth 20000 in
theorem ml_X1_74 : Cond.methodLink RX1 74 yX2_isMixed ∈ lw_all := lw_t2 (i := 165) rfl rfl
set_option maxRecDepth 20000 in
theorem im_X2_isMixed : Cond.instanceMethod yX2_isMixed ∈ lw_all := lw_t2 (i := 166) rfl rfl
set_option maxRecDepth 20000 in
theorem se_X2_isMixed : Cond.selects RX2 yX2_isMixed yX2_isMixed ∈ lw_all := lw_t2 (i := 167) rfl rfl
set_option maxRecDepth 20000 in
theorem co_X2_isMixed : Cond.code yX2_isMixed cX2_isMixed 3 (some .boolean) ∈ lw_all := lw_t2 (i := 168) rfl rfl
set_option maxRecDepth 20000 in
theorem ml_X1_77 : Cond.methodLink RX1 77 yX1_noteIf ∈ lw_all := lw_t2 (i := 169) rfl rfl
set_option maxRecDepth 20000 in
theorem im_X1_noteIf : Cond.instanceMethod yX1_noteIf ∈ lw_all := lw_t2 (i := 171) rfl rfl
set_option maxRecDepth 20000 in
theorem co_X1_noteIf : Cond.code yX1_noteIf cX1_noteIf 5 none ∈ lw_all := lw_t2 (i := 172) rfl rfl
set_option maxRecDepth 20000 in
theorem ml_X1_66 : Cond.methodLink RX1 66 yX1_note ∈ lw_all := lw_t2 (i := 173) rfl rfl
set_option maxRecDepth 20000 in
theorem im_X1_note : Cond.instanceMethod yX1_note ∈ lw_all := lw_t2 (i := 175) rfl rfl
set_option maxRecDepth 20000 in
theorem co_X1_note : Cond.code yX1_note cX1_note 4 none ∈ lw_all := lw_t2 (i := 176) rfl rfl
set_option maxRecDepth 20000 in
theorem ml_X1_81 : Cond.methodLink RX1 81 yX2_isHiding ∈ lw_all := lw_t2 (i := 177) rfl rfl
set_option maxRecDepth 20000 in
theorem ml_X1_84 : Cond.methodLink RX1 84 yX2_hasMark ∈ lw_all := lw_t2 (i := 178) rfl rfl
set_option maxRecDepth 20000 in
theorem ml_X1_87 : Cond.methodLink RX1 87 yX1_compare ∈ lw_all := lw_t2 (i := 179) rfl rfl
set_option maxRecDepth 20000 in
theorem im_X1_compare : Cond.instanceMethod yX1_compare ∈ lw_all := lw_t2 (i := 181) rfl rfl
set_option maxRecDepth 20000 in
theorem co_X1_compare : Cond.code yX1_compare cX1_compare 3 none ∈ lw_all := lw_t2 (i := 182) rfl rfl
set_option maxRecDepth 20000 in
theorem ml_X1_94 : Cond.methodLink RX1 94 yX2_accessOf ∈ lw_all := lw_t2 (i := 183) rfl rfl
set_option maxRecDepth 20000 in
theorem im_X2_accessOf : Cond.instanceMethod yX2_accessOf ∈ lw_all := lw_t2 (i := 184) rfl rfl
set_option maxRecDepth 20000 in
theorem se_X2_accessOf : Cond.selects RX2 yX2_accessOf yX2_accessOf ∈ lw_all := lw_t2 (i := 185) rfl rfl
set_option maxRecDepth 20000 in
theorem co_X2_accessOf : Cond.code yX2_accessOf cX2_accessOf 2 (some .int) ∈ lw_all := lw_t2 (i := 186) rfl rfl
set_option maxRecDepth 20000 in
theorem ml_X1_97 : Cond.methodLink RX1 97 yX2_resultOf ∈ lw_all := lw_t2 (i := 187) rfl rfl
set_option maxRecDepth 20000 in
theorem im_X2_resultOf : Cond.instanceMethod yX2_resultOf ∈ lw_all := lw_t2 (i := 188) rfl rfl
set_option maxRecDepth 20000 in
theorem se_X2_resultOf : Cond.selects RX2 yX2_resultOf yX2_resultOf ∈ lw_all := lw_t2 (i := 189) rfl rfl
set_option maxRecDepth 20000 in
theorem co_X2_resultOf : Cond.code yX2_resultOf cX2_resultOf 2 (some .int) ∈ lw_all := lw_t2 (i := 190) rfl rfl
set_option maxRecDepth 20000 in
theorem ml_X1_100 : Cond.methodLink RX1 100 yX1_suits ∈ lw_all := lw_t2 (i := 191) rfl rfl
set_option maxRecDepth 20000 in
theorem im_X1_suits : Cond.instanceMethod yX1_suits ∈ lw_all := lw_t2 (i := 193) rfl rfl
set_option maxRecDepth 20000 in
theorem co_X1_suits : Cond.code yX1_suits cX1_suits 3 (some .boolean) ∈ lw_all := lw_t2 (i := 194) rfl rfl
set_option maxRecDepth 20000 in
theorem ml_X1_111 : Cond.methodLink RX1 111 yX4_has ∈ lw_all := lw_t2 (i := 195) rfl rfl
set_option maxRecDepth 20000 in
theorem ml_X1_114 : Cond.methodLink RX1 114 yX4_isSub ∈ lw_all := lw_t2 (i := 196) rfl rfl
set_option maxRecDepth 20000 in
theorem ml_X1_103 : Cond.methodLink RX1 103 yX2_thrownBy ∈ lw_all := lw_t2 (i := 197) rfl rfl
set_option maxRecDepth 20000 in
theorem im_X2_thrownBy : Cond.instanceMethod yX2_thrownBy ∈ lw_all := lw_t2 (i := 198) rfl rfl
set_option maxRecDepth 20000 in
theorem se_X2_thrownBy : Cond.selects RX2 yX2_thrownBy yX2_thrownBy ∈ lw_all := lw_t2 (i := 199) rfl rfl
set_option maxRecDepth 20000 in
theorem co_X2_thrownBy : Cond.code yX2_thrownBy cX2_thrownBy 2 (some .int) ∈ lw_all := lw_t2 (i := 200) rfl rfl
set_option maxRecDepth 20000 in
theorem ml_X1_106 : Cond.methodLink RX1 106 yX3_areAllowed ∈ lw_all := lw_t2 (i := 201) rfl rfl
set_option maxRecDepth 20000 in
theorem im_X3_areAllowed : Cond.instanceMethod yX3_areAllowed ∈ lw_all := lw_t2 (i := 202) rfl rfl
set_option maxRecDepth 20000 in
theorem se_X3_areAllowed : Cond.selects RX3 yX3_areAllowed yX3_areAllowed ∈ lw_all := lw_t2 (i := 203) rfl rfl
set_option maxRecDepth 20000 in
theorem co_X3_areAllowed : Cond.code yX3_areAllowed cX3_areAllowed 4 (some .boolean) ∈ lw_all := lw_t2 (i := 204) rfl rfl
set_option maxRecDepth 20000 in
theorem ml_X1_91 : Cond.methodLink RX1 91 yX4_isPlainClass ∈ lw_all := lw_t2 (i := 206) rfl rfl
set_option maxRecDepth 20000 in
theorem im_X4_isPlainClass : Cond.instanceMethod yX4_isPlainClass ∈ lw_all := lw_t2 (i := 207) rfl rfl
set_option maxRecDepth 20000 in
theorem se_X4_isPlainClass : Cond.selects RX4 yX4_isPlainClass yX4_isPlainClass ∈ lw_all := lw_t2 (i := 208) rfl rfl
set_option maxRecDepth 20000 in
theorem co_X4_isPlainClass : Cond.code yX4_isPlainClass cX4_isPlainClass 2 (some .boolean) ∈ lw_all := lw_t2 (i := 209) rfl rfl
set_option maxRecDepth 20000 in
theorem ml_X1_57 : Cond.methodLink RX1 57 yX4_isInterface ∈ lw_all := lw_t2 (i := 210) rfl rfl
set_option maxRecDepth 20000 in
theorem ml_X1_63 : Cond.methodLink RX1 63 yX1_walkInherited ∈ lw_all := lw_t2 (i := 211) rfl rfl
set_option maxRecDepth 20000 in
theorem im_X1_walkInherited : Cond.instanceMethod yX1_walkInherited ∈ lw_all := lw_t2 (i := 213) rfl rfl
set_option maxRecDepth 20000 in
theorem co_X1_walkInherited : Cond.code yX1_walkInherited cX1_walkInherited 3 none ∈ lw_all := lw_t2 (i := 214) rfl rfl
set_option maxRecDepth 20000 in
theorem ml_X1_117 : Cond.methodLink RX1 117 yX2_isInheritable ∈ lw_all := lw_t2 (i := 215) rfl rfl
set_option maxRecDepth 20000 in
theorem ml_X1_120 : Cond.methodLink RX1 120 yX4_isBelow ∈ lw_all := lw_t2 (i := 216) rfl rfl
set_option maxRecDepth 20000 in
theorem ml_X1_123 : Cond.methodLink RX1 123 yX0_choose ∈ lw_all := lw_t2 (i := 217) rfl rfl
set_option maxRecDepth 20000 in
theorem ml_X1_129 : Cond.methodLink RX1 129 yX1_noteChosen ∈ lw_all := lw_t2 (i := 218) rfl rfl
set_option maxRecDepth 20000 in
theorem im_X1_noteChosen : Cond.instanceMethod yX1_noteChosen ∈ lw_all := lw_t2 (i := 220) rfl rfl
set_option maxRecDepth 20000 in
theorem co_X1_noteChosen : Cond.code yX1_noteChosen cX1_noteChosen 4 none ∈ lw_all := lw_t2 (i := 221) rfl rfl
set_option maxRecDepth 20000 in
theorem ml_X1_132 : Cond.methodLink RX1 132 yX1_isMetByChance ∈ lw_all := lw_t2 (i := 222) rfl rfl
set_option maxRecDepth 20000 in
theorem im_X1_isMetByChance : Cond.instanceMethod yX1_isMetByChance ∈ lw_all := lw_t2 (i := 224) rfl rfl
set_option maxRecDepth 20000 in
theorem co_X1_isMetByChance : Cond.code yX1_isMetByChance cX1_isMetByChance 5 (some .boolean) ∈ lw_all := lw_t2 (i := 225) rfl rfl
set_option maxRecDepth 20000 in
theorem ml_L_63 : Cond.methodLink RL 63 yX5_fault ∈ lw_all := lw_t2 (i := 226) rfl rfl
set_option maxRecDepth 20000 in
theorem im_X5_fault : Cond.instanceMethod yX5_fault ∈ lw_all := lw_t2 (i := 227) rfl rfl
set_option maxRecDepth 20000 in
theorem se_X5_fault : Cond.selects RX5 yX5_fault yX5_fault ∈ lw_all := lw_t2 (i := 228) rfl rfl
set_option maxRecDepth 20000 in
theorem co_X5_fault : Cond.code yX5_fault cX5_fault 4 (some .int) ∈ lw_all := lw_t2 (i := 229) rfl rfl
set_option maxRecDepth 20000 in
theorem ml_X5_134 : Cond.methodLink RX5 134 yX1_pickedPart ∈ lw_all := lw_t2 (i := 230) rfl rfl
set_option maxRecDepth 20000 in
theorem im_X1_pickedPart : Cond.instanceMethod yX1_pickedPart ∈ lw_all := lw_t2 (i := 231) rfl rfl
set_option maxRecDepth 20000 in
theorem se_X1_pickedPart : Cond.selects RX1 yX1_pickedPart yX1_pickedPart ∈ lw_all := lw_t2 (i := 232) rfl rfl
set_option maxRecDepth 20000 in
theorem co_X1_pickedPart : Cond.code yX1_pickedPart cX1_pickedPart 2 (some .int) ∈ lw_all := lw_t2 (i := 233) rfl rfl
set_option maxRecDepth 20000 in
theorem ml_L_67 : Cond.methodLink RL 67 yX5_bridges ∈ lw_all := lw_t2 (i := 234) rfl rfl
set_option maxRecDepth 20000 in
theorem im_X5_bridges : Cond.instanceMethod yX5_bridges ∈ lw_all := lw_t2 (i := 235) rfl rfl
set_option maxRecDepth 20000 in
theorem se_X5_bridges : Cond.selects RX5 yX5_bridges yX5_bridges ∈ lw_all := lw_t2 (i := 236) rfl rfl
set_option maxRecDepth 20000 in
theorem co_X5_bridges : Cond.code yX5_bridges cX5_bridges 4 (some .int) ∈ lw_all := lw_t2 (i := 237) rfl rfl
set_option maxRecDepth 20000 in
theorem ml_X5_137 : Cond.methodLink RX5 137 yX2_hasMark ∈ lw_all := lw_t2 (i := 238) rfl rfl
set_option maxRecDepth 20000 in
theorem ml_X5_140 : Cond.methodLink RX5 140 yX2_countBridges ∈ lw_all := lw_t2 (i := 239) rfl rfl
set_option maxRecDepth 20000 in
theorem im_X2_countBridges : Cond.instanceMethod yX2_countBridges ∈ lw_all := lw_t3 (i := 0) rfl rfl
set_option maxRecDepth 20000 in
theorem se_X2_countBridges : Cond.selects RX2 yX2_countBridges yX2_countBridges ∈ lw_all := lw_t3 (i := 1) rfl rfl
set_option maxRecDepth 20000 in
theorem co_X2_countBridges : Cond.code yX2_countBridges cX2_countBridges 4 (some .int) ∈ lw_all := lw_t3 (i := 2) rfl rfl
set_option maxRecDepth 20000 in
theorem ml_X2_77 : Cond.methodLink RX2 77 yX2_isOverriding ∈ lw_all := lw_t3 (i := 3) rfl rfl
set_option maxRecDepth 20000 in
theorem ml_X2_84 : Cond.methodLink RX2 84 yJ6_bitCount_0f7a4 ∈ lw_all := lw_t3 (i := 4) rfl rfl
set_option maxRecDepth 20000 in
theorem ml_L_71 : Cond.methodLink RL 71 yX5_first ∈ lw_all := lw_t3 (i := 5) rfl rfl
set_option maxRecDepth 20000 in
theorem im_X5_first : Cond.instanceMethod yX5_first ∈ lw_all := lw_t3 (i := 6) rfl rfl
set_option maxRecDepth 20000 in
theorem se_X5_first : Cond.selects RX5 yX5_first yX5_first ∈ lw_all := lw_t3 (i := 7) rfl rfl
set_option maxRecDepth 20000 in
theorem co_X5_first : Cond.code yX5_first cX5_first 6 (some .int) ∈ lw_all := lw_t3 (i := 8) rfl rfl
set_option maxRecDepth 20000 in
theorem ml_X5_143 : Cond.methodLink RX5 143 yX2_countOverridden ∈ lw_all := lw_t3 (i := 9) rfl rfl
set_option maxRecDepth 20000 in
theorem im_X2_countOverridden : Cond.instanceMethod yX2_countOverridden ∈ lw_all := lw_t3 (i := 10) rfl rfl
set_option maxRecDepth 20000 in
theorem se_X2_countOverridden : Cond.selects RX2 yX2_countOverridden yX2_countOverridden ∈ lw_all := lw_t3 (i := 11) rfl rfl
set_option maxRecDepth 20000 in
theorem co_X2_countOverridden : Cond.code yX2_countOverridden cX2_countOverridden 4 (some .int) ∈ lw_all := lw_t3 (i := 12) rfl rfl
set_option maxRecDepth 20000 in
theorem ml_L_75 : Cond.methodLink RL 75 yX5_told ∈ lw_all := lw_t3 (i := 14) rfl rfl
set_option maxRecDepth 20000 in
theorem im_X5_told : Cond.instanceMethod yX5_told ∈ lw_all := lw_t3 (i := 15) rfl rfl
set_option maxRecDepth 20000 in
theorem se_X5_told : Cond.selects RX5 yX5_told yX5_told ∈ lw_all := lw_t3 (i := 16) rfl rfl
set_option maxRecDepth 20000 in
theorem co_X5_told : Cond.code yX5_told cX5_told 4 (some .int) ∈ lw_all := lw_t3 (i := 17) rfl rfl
set_option maxRecDepth 20000 in
theorem ml_X5_146 : Cond.methodLink RX5 146 yX4_size ∈ lw_all := lw_t3 (i := 18) rfl rfl
set_option maxRecDepth 20000 in
theorem ml_X5_147 : Cond.methodLink RX5 147 yX3_size ∈ lw_all := lw_t3 (i := 19) rfl rfl
set_option maxRecDepth 20000 in
theorem im_X3_size : Cond.instanceMethod yX3_size ∈ lw_all := lw_t3 (i := 20) rfl rfl
set_option maxRecDepth 20000 in
theorem se_X3_size : Cond.selects RX3 yX3_size yX3_size ∈ lw_all := lw_t3 (i := 21) rfl rfl
set_option maxRecDepth 20000 in
theorem co_X3_size : Cond.code yX3_size cX3_size 1 (some .int) ∈ lw_all := lw_t3 (i := 22) rfl rfl
set_option maxRecDepth 20000 in
theorem cl_L_10 : Cond.classLink RL 10 RX6 ∈ lw_all := lw_t3 (i := 23) rfl rfl
set_option maxRecDepth 20000 in
theorem is_X6 : Cond.instantiable RX6 21 ∈ lw_all := lw_t3 (i := 24) rfl rfl
set_option maxRecDepth 20000 in
theorem ml_L_12 : Cond.methodLink RL 12 yX6_init ∈ lw_all := lw_t3 (i := 25) rfl rfl
set_option maxRecDepth 20000 in
theorem im_X6_init : Cond.instanceMethod yX6_init ∈ lw_all := lw_t3 (i := 26) rfl rfl
set_option maxRecDepth 20000 in
theorem co_X6_init : Cond.code yX6_init cX6_init 1 none ∈ lw_all := lw_t3 (i := 27) rfl rfl
set_option maxRecDepth 20000 in
theorem ml_X6_1 : Cond.methodLink RX6 1 objectInit ∈ lw_all := lw_t3 (i := 28) rfl rfl
set_option maxRecDepth 20000 in
theorem fl_X6_62 : Cond.fieldLink RX6 62 "OverrideRulesModel" "types" "I" ∈ lw_all := lw_t3 (i := 29) rfl rfl
set_option maxRecDepth 20000 in
theorem fl_X6_7 : Cond.fieldLink RX6 7 "OverrideRulesModel" "kind" "[I" ∈ lw_all := lw_t3 (i := 30) rfl rfl
set_option maxRecDepth 20000 in
theorem fl_X6_13 : Cond.fieldLink RX6 13 "OverrideRulesModel" "packet" "[I" ∈ lw_all := lw_t3 (i := 31) rfl rfl
set_option maxRecDepth 20000 in
theorem fl_X6_16 : Cond.fieldLink RX6 16 "OverrideRulesModel" "parent" "[I" ∈ lw_all := lw_t3 (i := 32) rfl rfl
set_option maxRecDepth 20000 in
theorem fl_X6_19 : Cond.fieldLink RX6 19 "OverrideRulesModel" "faces" "[I" ∈ lw_all := lw_t3 (i := 33) rfl rfl
set_option maxRecDepth 20000 in
theorem fl_X6_22 : Cond.fieldLink RX6 22 "OverrideRulesModel" "face" "[I" ∈ lw_all := lw_t3 (i := 34) rfl rfl
set_option maxRecDepth 20000 in
theorem fl_X6_25 : Cond.fieldLink RX6 25 "OverrideRulesModel" "above" "[Z" ∈ lw_all := lw_t3 (i := 35) rfl rfl
set_option maxRecDepth 20000 in
theorem fl_X6_73 : Cond.fieldLink RX6 73 "OverrideRulesModel" "throwsMany" "I" ∈ lw_all := lw_t3 (i := 36) rfl rfl
set_option maxRecDepth 20000 in
theorem fl_X6_29 : Cond.fieldLink RX6 29 "OverrideRulesModel" "throwParent" "[I" ∈ lw_all := lw_t3 (i := 37) rfl rfl
set_option maxRecDepth 20000 in
theorem fl_X6_32 : Cond.fieldLink RX6 32 "OverrideRulesModel" "checked" "[Z" ∈ lw_all := lw_t3 (i := 38) rfl rfl
set_option maxRecDepth 20000 in
theorem fl_X6_70 : Cond.fieldLink RX6 70 "OverrideRulesModel" "members" "I" ∈ lw_all := lw_t3 (i := 39) rfl rfl
set_option maxRecDepth 20000 in
theorem fl_X6_35 : Cond.fieldLink RX6 35 "OverrideRulesModel" "of" "[I" ∈ lw_all := lw_t3 (i := 40) rfl rfl
set_option maxRecDepth 20000 in
theorem fl_X6_38 : Cond.fieldLink RX6 38 "OverrideRulesModel" "name" "[I" ∈ lw_all := lw_t3 (i := 41) rfl rfl
set_option maxRecDepth 20000 in
theorem fl_X6_41 : Cond.fieldLink RX6 41 "OverrideRulesModel" "result" "[I" ∈ lw_all := lw_t3 (i := 42) rfl rfl
set_option maxRecDepth 20000 in
theorem fl_X6_44 : Cond.fieldLink RX6 44 "OverrideRulesModel" "marks" "[I" ∈ lw_all := lw_t3 (i := 43) rfl rfl
set_option maxRecDepth 20000 in
theorem fl_X6_47 : Cond.fieldLink RX6 47 "OverrideRulesModel" "thrownBy" "[I" ∈ lw_all := lw_t3 (i := 44) rfl rfl
set_option maxRecDepth 20000 in
theorem fl_X6_50 : Cond.fieldLink RX6 50 "OverrideRulesModel" "over" "[Z" ∈ lw_all := lw_t3 (i := 45) rfl rfl
set_option maxRecDepth 20000 in
theorem fl_X6_144 : Cond.fieldLink RX6 144 "OverrideRulesModel" "faults" "I" ∈ lw_all := lw_t3 (i := 46) rfl rfl
set_option maxRecDepth 20000 in
theorem fl_X6_53 : Cond.fieldLink RX6 53 "OverrideRulesModel" "faultCode" "[I" ∈ lw_all := lw_t3 (i := 47) rfl rfl
set_option maxRecDepth 20000 in
theorem fl_X6_56 : Cond.fieldLink RX6 56 "OverrideRulesModel" "faultOne" "[I" ∈ lw_all := lw_t3 (i := 48) rfl rfl
set_option maxRecDepth 20000 in
theorem fl_X6_59 : Cond.fieldLink RX6 59 "OverrideRulesModel" "faultOther" "[I" ∈ lw_all := lw_t3 (i := 49) rfl rfl
set_option maxRecDepth 20000 in
theorem ac_boolean : Cond.arrayClass .boolean ∈ lw_all := lw_t3 (i := 93) rfl rfl
set_option maxRecDepth 20000 in
theorem ml_L_17 : Cond.methodLink RL 17 yX6_clear ∈ lw_all := lw_t3 (i := 94) rfl rfl
set_option maxRecDepth 20000 in
theorem im_X6_clear : Cond.instanceMethod yX6_clear ∈ lw_all := lw_t3 (i := 95) rfl rfl
set_option maxRecDepth 20000 in
theorem se_X6_clear : Cond.selects RX6 yX6_clear yX6_clear ∈ lw_all := lw_t3 (i := 96) rfl rfl
set_option maxRecDepth 20000 in
theorem co_X6_clear : Cond.code yX6_clear cX6_clear 2 (some .int) ∈ lw_all := lw_t3 (i := 97) rfl rfl
set_option maxRecDepth 20000 in
theorem ml_L_22 : Cond.methodLink RL 22 yX6_type ∈ lw_all := lw_t3 (i := 98) rfl rfl
set_option maxRecDepth 20000 in
theorem im_X6_type : Cond.instanceMethod yX6_type ∈ lw_all := lw_t3 (i := 99) rfl rfl
set_option maxRecDepth 20000 in
theorem se_X6_type : Cond.selects RX6 yX6_type yX6_type ∈ lw_all := lw_t3 (i := 100) rfl rfl
set_option maxRecDepth 20000 in
theorem co_X6_type : Cond.code yX6_type cX6_type 4 (some .int) ∈ lw_all := lw_t3 (i := 101) rfl rfl
set_option maxRecDepth 20000 in
theorem ml_X6_83 : Cond.methodLink RX6 83 yX6_isType ∈ lw_all := lw_t3 (i := 102) rfl rfl
set_option maxRecDepth 20000 in
theorem im_X6_isType : Cond.instanceMethod yX6_isType ∈ lw_all := lw_t3 (i := 104) rfl rfl
set_option maxRecDepth 20000 in
theorem co_X6_isType : Cond.code yX6_isType cX6_isType 2 (some .boolean) ∈ lw_all := lw_t3 (i := 105) rfl rfl
set_option maxRecDepth 20000 in
theorem ml_X6_66 : Cond.methodLink RX6 66 yX6_in ∈ lw_all := lw_t3 (i := 106) rfl rfl
set_option maxRecDepth 20000 in
theorem sm_X6_in : Cond.static yX6_in ∈ lw_all := lw_t3 (i := 107) rfl rfl
set_option maxRecDepth 20000 in
theorem co_X6_in : Cond.code yX6_in cX6_in 3 (some .boolean) ∈ lw_all := lw_t3 (i := 108) rfl rfl
set_option maxRecDepth 20000 in
theorem ml_X6_87 : Cond.methodLink RX6 87 yX6_rise ∈ lw_all := lw_t3 (i := 109) rfl rfl
set_option maxRecDepth 20000 in
theorem im_X6_rise : Cond.instanceMethod yX6_rise ∈ lw_all := lw_t3 (i := 111) rfl rfl
set_option maxRecDepth 20000 in
theorem co_X6_rise : Cond.code yX6_rise cX6_rise 3 none ∈ lw_all := lw_t3 (i := 112) rfl rfl
set_option maxRecDepth 20000 in
theorem ml_X6_76 : Cond.methodLink RX6 76 yX6_lift ∈ lw_all := lw_t3 (i := 113) rfl rfl
set_option maxRecDepth 20000 in
theorem im_X6_lift : Cond.instanceMethod yX6_lift ∈ lw_all := lw_t3 (i := 115) rfl rfl
set_option maxRecDepth 20000 in
theorem co_X6_lift : Cond.code yX6_lift cX6_lift 4 none ∈ lw_all := lw_t3 (i := 116) rfl rfl
set_option maxRecDepth 20000 in
theorem ml_X6_80 : Cond.methodLink RX6 80 yX6_work ∈ lw_all := lw_t3 (i := 117) rfl rfl
set_option maxRecDepth 20000 in
theorem im_X6_work : Cond.instanceMethod yX6_work ∈ lw_all := lw_t3 (i := 119) rfl rfl
set_option maxRecDepth 20000 in
theorem co_X6_work : Cond.code yX6_work cX6_work 5 none ∈ lw_all := lw_t3 (i := 120) rfl rfl
set_option maxRecDepth 20000 in
theorem ml_X6_90 : Cond.methodLink RX6 90 yX6_isBelow ∈ lw_all := lw_t3 (i := 121) rfl rfl
set_option maxRecDepth 20000 in
theorem im_X6_isBelow : Cond.instanceMethod yX6_isBelow ∈ lw_all := lw_t3 (i := 123) rfl rfl
set_option maxRecDepth 20000 in
theorem co_X6_isBelow : Cond.code yX6_isBelow cX6_isBelow 3 (some .boolean) ∈ lw_all := lw_t3 (i := 124) rfl rfl
set_option maxRecDepth 20000 in
theorem ml_X6_117 : Cond.methodLink RX6 117 yX6_isStatic ∈ lw_all := lw_t3 (i := 125) rfl rfl
set_option maxRecDepth 20000 in
theorem im_X6_isStatic : Cond.instanceMethod yX6_isStatic ∈ lw_all := lw_t3 (i := 127) rfl rfl
set_option maxRecDepth 20000 in
theorem co_X6_isStatic : Cond.code yX6_isStatic cX6_isStatic 2 (some .boolean) ∈ lw_all := lw_t3 (i := 128) rfl rfl
set_option maxRecDepth 20000 in
theorem ml_X6_100 : Cond.methodLink RX6 100 yX6_has ∈ lw_all := lw_t3 (i := 129) rfl rfl
set_option maxRecDepth 20000 in
theorem im_X6_has : Cond.instanceMethod yX6_has ∈ lw_all := lw_t3 (i := 131) rfl rfl
set_option maxRecDepth 20000 in
theorem co_X6_has : Cond.code yX6_has cX6_has 3 (some .boolean) ∈ lw_all := lw_t3 (i := 132) rfl rfl
set_option maxRecDepth 20000 in
theorem ml_X6_120 : Cond.methodLink RX6 120 yX6_isPrivate ∈ lw_all := lw_t3 (i := 133) rfl rfl
set_option maxRecDepth 20000 in
theorem im_X6_isPrivate : Cond.instanceMethod yX6_isPrivate ∈ lw_all := lw_t3 (i := 135) rfl rfl
set_option maxRecDepth 20000 in
theorem co_X6_isPrivate : Cond.code yX6_isPrivate cX6_isPrivate 2 (some .boolean) ∈ lw_all := lw_t3 (i := 136) rfl rfl
set_option maxRecDepth 20000 in
theorem ml_X6_123 : Cond.methodLink RX6 123 yX6_goesOver ∈ lw_all := lw_t3 (i := 137) rfl rfl
set_option maxRecDepth 20000 in
theorem im_X6_goesOver : Cond.instanceMethod yX6_goesOver ∈ lw_all := lw_t3 (i := 139) rfl rfl
set_option maxRecDepth 20000 in
theorem co_X6_goesOver : Cond.code yX6_goesOver cX6_goesOver 4 (some .boolean) ∈ lw_all := lw_t3 (i := 140) rfl rfl
set_option maxRecDepth 20000 in
theorem ml_X6_110 : Cond.methodLink RX6 110 yX6_isInterface ∈ lw_all := lw_t3 (i := 141) rfl rfl
set_option maxRecDepth 20000 in
theorem im_X6_isInterface : Cond.instanceMethod yX6_isInterface ∈ lw_all := lw_t3 (i := 143) rfl rfl
set_option maxRecDepth 20000 in
theorem co_X6_isInterface : Cond.code yX6_isInterface cX6_isInterface 2 (some .boolean) ∈ lw_all := lw_t3 (i := 144) rfl rfl
set_option maxRecDepth 20000 in
theorem ml_X6_126 : Cond.methodLink RX6 126 yX6_isSeen ∈ lw_all := lw_t3 (i := 145) rfl rfl
set_option maxRecDepth 20000 in
theorem im_X6_isSeen : Cond.instanceMethod yX6_isSeen ∈ lw_all := lw_t3 (i := 147) rfl rfl
set_option maxRecDepth 20000 in
theorem co_X6_isSeen : Cond.code yX6_isSeen cX6_isSeen 3 (some .boolean) ∈ lw_all := lw_t3 (i := 148) rfl rfl
set_option maxRecDepth 20000 in
theorem ml_X6_113 : Cond.methodLink RX6 113 yX6_access ∈ lw_all := lw_t3 (i := 149) rfl rfl
set_option maxRecDepth 20000 in
theorem im_X6_access : Cond.instanceMethod yX6_access ∈ lw_all := lw_t3 (i := 151) rfl rfl
set_option maxRecDepth 20000 in
theorem co_X6_access : Cond.code yX6_access cX6_access 2 (some .int) ∈ lw_all := lw_t3 (i := 152) rfl rfl
set_option maxRecDepth 20000 in
theorem ml_L_27 : Cond.methodLink RL 27 yX6_face ∈ lw_all := lw_t3 (i := 153) rfl rfl
set_option maxRecDepth 20000 in
theorem im_X6_face : Cond.instanceMethod yX6_face ∈ lw_all := lw_t3 (i := 154) rfl rfl
set_option maxRecDepth 20000 in
theorem se_X6_face : Cond.selects RX6 yX6_face yX6_face ∈ lw_all := lw_t3 (i := 155) rfl rfl
set_option maxRecDepth 20000 in
theorem co_X6_face : Cond.code yX6_face cX6_face 5 (some .int) ∈ lw_all := lw_t3 (i := 156) rfl rfl
set_option maxRecDepth 20000 in
theorem ml_L_57 : Cond.methodLink RL 57 yX6_sub ∈ lw_all := lw_t3 (i := 157) rfl rfl
set_option maxRecDepth 20000 in
theorem im_X6_sub : Cond.instanceMethod yX6_sub ∈ lw_all := lw_t3 (i := 158) rfl rfl
set_option maxRecDepth 20000 in
theorem se_X6_sub : Cond.selects RX6 yX6_sub yX6_sub ∈ lw_all := lw_t3 (i := 159) rfl rfl
set_option maxRecDepth 20000 in
theorem co_X6_sub : Cond.code yX6_sub cX6_sub 3 (some .int) ∈ lw_all := lw_t3 (i := 160) rfl rfl
set_option maxRecDepth 20000 in
theorem ml_X6_94 : Cond.methodLink RX6 94 yX6_isSub ∈ lw_all := lw_t3 (i := 161) rfl rfl
set_option maxRecDepth 20000 in
theorem im_X6_isSub : Cond.instanceMethod yX6_isSub ∈ lw_all := lw_t3 (i := 163) rfl rfl
set_option maxRecDepth 20000 in
theorem co_X6_isSub : Cond.code yX6_isSub cX6_isSub 3 (some .boolean) ∈ lw_all := lw_t3 (i := 164) rfl rfl
set_option maxRecDepth 20000 in
theorem ml_L_32 : Cond.methodLink RL 32 yX6_thrown0 ∈ lw_all := lw_t3 (i := 165) rfl rfl
set_option maxRecDepth 20000 in
theorem im_X6_thrown0 : Cond.instanceMethod yX6_thrown0 ∈ lw_all := lw_t3 (i := 166) rfl rfl
set_option maxRecDepth 20000 in
theorem se_X6_thrown0 : Cond.selects RX6 yX6_thrown0 yX6_thrown0 ∈ lw_all := lw_t3 (i := 167) rfl rfl
set_option maxRecDepth 20000 in
theorem co_X6_thrown0 : Cond.code yX6_thrown0 cX6_thrown0 3 (some .int) ∈ lw_all := lw_t3 (i := 168) rfl rfl
set_option maxRecDepth 20000 in
theorem ml_L_41 : Cond.methodLink RL 41 yX6_throws0 ∈ lw_all := lw_t3 (i := 169) rfl rfl
set_option maxRecDepth 20000 in
theorem im_X6_throws0 : Cond.instanceMethod yX6_throws0 ∈ lw_all := lw_t3 (i := 170) rfl rfl
set_option maxRecDepth 20000 in
theorem se_X6_throws0 : Cond.selects RX6 yX6_throws0 yX6_throws0 ∈ lw_all := lw_t3 (i := 171) rfl rfl
set_option maxRecDepth 20000 in
theorem co_X6_throws0 : Cond.code yX6_throws0 cX6_throws0 5 (some .int) ∈ lw_all := lw_t3 (i := 172) rfl rfl
set_option maxRecDepth 20000 in
theorem ml_X6_97 : Cond.methodLink RX6 97 yX6_isMember ∈ lw_all := lw_t3 (i := 173) rfl rfl
set_option maxRecDepth 20000 in
theorem im_X6_isMember : Cond.instanceMethod yX6_isMember ∈ lw_all := lw_t3 (i := 175) rfl rfl
set_option maxRecDepth 20000 in
theorem co_X6_isMember : Cond.code yX6_isMember cX6_isMember 2 (some .boolean) ∈ lw_all := lw_t3 (i := 176) rfl rfl
set_option maxRecDepth 20000 in
theorem ml_L_37 : Cond.methodLink RL 37 yX6_member ∈ lw_all := lw_t3 (i := 177) rfl rfl
set_option maxRecDepth 20000 in
theorem im_X6_member : Cond.instanceMethod yX6_member ∈ lw_all := lw_t3 (i := 178) rfl rfl
set_option maxRecDepth 20000 in
theorem se_X6_member : Cond.selects RX6 yX6_member yX6_member ∈ lw_all := lw_t3 (i := 179) rfl rfl
set_option maxRecDepth 20000 in
theorem co_X6_member : Cond.code yX6_member cX6_member 7 (some .int) ∈ lw_all := lw_t3 (i := 180) rfl rfl
set_option maxRecDepth 20000 in
theorem ml_X6_107 : Cond.methodLink RX6 107 yX6_mayBe ∈ lw_all := lw_t3 (i := 181) rfl rfl
set_option maxRecDepth 20000 in
theorem sm_X6_mayBe : Cond.static yX6_mayBe ∈ lw_all := lw_t3 (i := 182) rfl rfl
set_option maxRecDepth 20000 in
theorem co_X6_mayBe : Cond.code yX6_mayBe cX6_mayBe 3 (some .boolean) ∈ lw_all := lw_t3 (i := 183) rfl rfl
set_option maxRecDepth 20000 in
theorem ml_X6_103 : Cond.methodLink RX6 103 yX6_one ∈ lw_all := lw_t3 (i := 184) rfl rfl
set_option maxRecDepth 20000 in
theorem sm_X6_one : Cond.static yX6_one ∈ lw_all := lw_t3 (i := 185) rfl rfl
set_option maxRecDepth 20000 in
theorem co_X6_one : Cond.code yX6_one cX6_one 2 (some .int) ∈ lw_all := lw_t3 (i := 186) rfl rfl
set_option maxRecDepth 20000 in
theorem ml_L_45 : Cond.methodLink RL 45 yX6_overrides ∈ lw_all := lw_t3 (i := 187) rfl rfl
set_option maxRecDepth 20000 in
theorem im_X6_overrides : Cond.instanceMethod yX6_overrides ∈ lw_all := lw_t3 (i := 188) rfl rfl
set_option maxRecDepth 20000 in
theorem se_X6_overrides : Cond.selects RX6 yX6_overrides yX6_overrides ∈ lw_all := lw_t3 (i := 189) rfl rfl
set_option maxRecDepth 20000 in
theorem co_X6_overrides : Cond.code yX6_overrides cX6_overrides 3 (some .int) ∈ lw_all := lw_t3 (i := 190) rfl rfl
set_option maxRecDepth 20000 in
theorem ml_X6_129 : Cond.methodLink RX6 129 yX6_isOver ∈ lw_all := lw_t3 (i := 191) rfl rfl
set_option maxRecDepth 20000 in
theorem im_X6_isOver : Cond.instanceMethod yX6_isOver ∈ lw_all := lw_t3 (i := 193) rfl rfl
set_option maxRecDepth 20000 in
theorem co_X6_isOver : Cond.code yX6_isOver cX6_isOver 3 (some .boolean) ∈ lw_all := lw_t3 (i := 194) rfl rfl
set_option maxRecDepth 20000 in
theorem ml_L_49 : Cond.methodLink RL 49 yX6_hides ∈ lw_all := lw_t3 (i := 195) rfl rfl
set_option maxRecDepth 20000 in
theorem im_X6_hides : Cond.instanceMethod yX6_hides ∈ lw_all := lw_t3 (i := 196) rfl rfl
set_option maxRecDepth 20000 in
theorem se_X6_hides : Cond.selects RX6 yX6_hides yX6_hides ∈ lw_all := lw_t3 (i := 197) rfl rfl
set_option maxRecDepth 20000 in
theorem co_X6_hides : Cond.code yX6_hides cX6_hides 3 (some .int) ∈ lw_all := lw_t3 (i := 198) rfl rfl
set_option maxRecDepth 20000 in
theorem ml_X6_132 : Cond.methodLink RX6 132 yX6_hidesIt ∈ lw_all := lw_t3 (i := 199) rfl rfl
set_option maxRecDepth 20000 in
theorem im_X6_hidesIt : Cond.instanceMethod yX6_hidesIt ∈ lw_all := lw_t3 (i := 201) rfl rfl
set_option maxRecDepth 20000 in
theorem co_X6_hidesIt : Cond.code yX6_hidesIt cX6_hidesIt 3 (some .boolean) ∈ lw_all := lw_t3 (i := 202) rfl rfl
set_option maxRecDepth 20000 in
theorem ml_L_53 : Cond.methodLink RL 53 yX6_chosen ∈ lw_all := lw_t3 (i := 203) rfl rfl
set_option maxRecDepth 20000 in
theorem im_X6_chosen : Cond.instanceMethod yX6_chosen ∈ lw_all := lw_t3 (i := 204) rfl rfl
set_option maxRecDepth 20000 in
theorem se_X6_chosen : Cond.selects RX6 yX6_chosen yX6_chosen ∈ lw_all := lw_t3 (i := 205) rfl rfl
set_option maxRecDepth 20000 in
theorem co_X6_chosen : Cond.code yX6_chosen cX6_chosen 3 (some .int) ∈ lw_all := lw_t3 (i := 206) rfl rfl
set_option maxRecDepth 20000 in
theorem ml_X6_135 : Cond.methodLink RX6 135 yX6_isPlain ∈ lw_all := lw_t3 (i := 207) rfl rfl
set_option maxRecDepth 20000 in
theorem im_X6_isPlain : Cond.instanceMethod yX6_isPlain ∈ lw_all := lw_t3 (i := 209) rfl rfl
set_option maxRecDepth 20000 in
theorem co_X6_isPlain : Cond.code yX6_isPlain cX6_isPlain 2 (some .boolean) ∈ lw_all := lw_t3 (i := 210) rfl rfl
set_option maxRecDepth 20000 in
theorem ml_X6_141 : Cond.methodLink RX6 141 yX6_choose ∈ lw_all := lw_t3 (i := 211) rfl rfl
set_option maxRecDepth 20000 in
theorem im_X6_choose : Cond.instanceMethod yX6_choose ∈ lw_all := lw_t3 (i := 213) rfl rfl
set_option maxRecDepth 20000 in
theorem co_X6_choose : Cond.code yX6_choose cX6_choose 7 (some .int) ∈ lw_all := lw_t3 (i := 214) rfl rfl
set_option maxRecDepth 20000 in
theorem ml_X6_138 : Cond.methodLink RX6 138 yX6_isLast ∈ lw_all := lw_t3 (i := 215) rfl rfl
set_option maxRecDepth 20000 in
theorem im_X6_isLast : Cond.instanceMethod yX6_isLast ∈ lw_all := lw_t3 (i := 217) rfl rfl
set_option maxRecDepth 20000 in
theorem co_X6_isLast : Cond.code yX6_isLast cX6_isLast 4 (some .boolean) ∈ lw_all := lw_t3 (i := 218) rfl rfl
set_option maxRecDepth 20000 in
theorem ml_L_62 : Cond.methodLink RL 62 yX6_check ∈ lw_all := lw_t3 (i := 219) rfl rfl
set_option maxRecDepth 20000 in
theorem im_X6_check : Cond.instanceMethod yX6_check ∈ lw_all := lw_t3 (i := 220) rfl rfl
set_option maxRecDepth 20000 in
theorem se_X6_check : Cond.selects RX6 yX6_check yX6_check ∈ lw_all := lw_t3 (i := 221) rfl rfl
set_option maxRecDepth 20000 in
theorem co_X6_check : Cond.code yX6_check cX6_check 2 (some .int) ∈ lw_all := lw_t3 (i := 222) rfl rfl
set_option maxRecDepth 20000 in
theorem ml_X6_166 : Cond.methodLink RX6 166 yX6_judge ∈ lw_all := lw_t3 (i := 223) rfl rfl
set_option maxRecDepth 20000 in
theorem im_X6_judge : Cond.instanceMethod yX6_judge ∈ lw_all := lw_t3 (i := 225) rfl rfl
set_option maxRecDepth 20000 in
theorem co_X6_judge : Cond.code yX6_judge cX6_judge 5 none ∈ lw_all := lw_t3 (i := 226) rfl rfl
set_option maxRecDepth 20000 in
theorem ml_X6_157 : Cond.methodLink RX6 157 yX6_isMixed ∈ lw_all := lw_t3 (i := 227) rfl rfl
set_option maxRecDepth 20000 in
theorem im_X6_isMixed : Cond.instanceMethod yX6_isMixed ∈ lw_all := lw_t3 (i := 229) rfl rfl
set_option maxRecDepth 20000 in
theorem co_X6_isMixed : Cond.code yX6_isMixed cX6_isMixed 4 (some .boolean) ∈ lw_all := lw_t3 (i := 230) rfl rfl
set_option maxRecDepth 20000 in
theorem ml_X6_147 : Cond.methodLink RX6 147 yX6_note ∈ lw_all := lw_t3 (i := 231) rfl rfl
set_option maxRecDepth 20000 in
theorem im_X6_note : Cond.instanceMethod yX6_note ∈ lw_all := lw_t3 (i := 233) rfl rfl
set_option maxRecDepth 20000 in
theorem co_X6_note : Cond.code yX6_note cX6_note 4 none ∈ lw_all := lw_t3 (i := 234) rfl rfl
set_option maxRecDepth 20000 in
theorem ml_X6_160 : Cond.methodLink RX6 160 yX6_three ∈ lw_all := lw_t3 (i := 235) rfl rfl
set_option maxRecDepth 20000 in
theorem im_X6_three : Cond.instanceMethod yX6_three ∈ lw_all := lw_t3 (i := 237) rfl rfl
set_option maxRecDepth 20000 in
theorem co_X6_three : Cond.code yX6_three cX6_three 3 none ∈ lw_all := lw_t3 (i := 238) rfl rfl
set_option maxRecDepth 20000 in
theorem ml_X6_151 : Cond.methodLink RX6 151 yX6_suits ∈ lw_all := lw_t3 (i := 239) rfl rfl
set_option maxRecDepth 20000 in
theorem im_X6_suits : Cond.instanceMethod yX6_suits ∈ lw_all := lw_t4 (i := 1) rfl rfl
set_option maxRecDepth 20000 in
theorem co_X6_suits : Cond.code yX6_suits cX6_suits 3 (some .boolean) ∈ lw_all := lw_t4 (i := 2) rfl rfl
set_option maxRecDepth 20000 in
theorem ml_X6_154 : Cond.methodLink RX6 154 yX6_throwsMore ∈ lw_all := lw_t4 (i := 3) rfl rfl
set_option maxRecDepth 20000 in
theorem im_X6_throwsMore : Cond.instanceMethod yX6_throwsMore ∈ lw_all := lw_t4 (i := 5) rfl rfl
set_option maxRecDepth 20000 in
theorem co_X6_throwsMore : Cond.code yX6_throwsMore cX6_throwsMore 6 (some .boolean) ∈ lw_all := lw_t4 (i := 6) rfl rfl
set_option maxRecDepth 20000 in
theorem ml_X6_163 : Cond.methodLink RX6 163 yX6_inherited ∈ lw_all := lw_t4 (i := 7) rfl rfl
set_option maxRecDepth 20000 in
theorem im_X6_inherited : Cond.instanceMethod yX6_inherited ∈ lw_all := lw_t4 (i := 9) rfl rfl
set_option maxRecDepth 20000 in
theorem co_X6_inherited : Cond.code yX6_inherited cX6_inherited 4 none ∈ lw_all := lw_t4 (i := 10) rfl rfl
set_option maxRecDepth 20000 in
theorem ml_L_66 : Cond.methodLink RL 66 yX6_fault ∈ lw_all := lw_t4 (i := 11) rfl rfl
set_option maxRecDepth 20000 in
theorem im_X6_fault : Cond.instanceMethod yX6_fault ∈ lw_all := lw_t4 (i := 12) rfl rfl
set_option maxRecDepth 20000 in
theorem se_X6_fault : Cond.selects RX6 yX6_fault yX6_fault ∈ lw_all := lw_t4 (i := 13) rfl rfl
set_option maxRecDepth 20000 in
theorem co_X6_fault : Cond.code yX6_fault cX6_fault 4 (some .int) ∈ lw_all := lw_t4 (i := 14) rfl rfl
set_option maxRecDepth 20000 in
theorem ml_L_70 : Cond.methodLink RL 70 yX6_bridges ∈ lw_all := lw_t4 (i := 15) rfl rfl
set_option maxRecDepth 20000 in
theorem im_X6_bridges : Cond.instanceMethod yX6_bridges ∈ lw_all := lw_t4 (i := 16) rfl rfl
set_option maxRecDepth 20000 in
theorem se_X6_bridges : Cond.selects RX6 yX6_bridges yX6_bridges ∈ lw_all := lw_t4 (i := 17) rfl rfl
set_option maxRecDepth 20000 in
theorem co_X6_bridges : Cond.code yX6_bridges cX6_bridges 7 (some .int) ∈ lw_all := lw_t4 (i := 18) rfl rfl
set_option maxRecDepth 20000 in
theorem ml_L_74 : Cond.methodLink RL 74 yX6_first ∈ lw_all := lw_t4 (i := 19) rfl rfl
set_option maxRecDepth 20000 in
theorem im_X6_first : Cond.instanceMethod yX6_first ∈ lw_all := lw_t4 (i := 20) rfl rfl
set_option maxRecDepth 20000 in
theorem se_X6_first : Cond.selects RX6 yX6_first yX6_first ∈ lw_all := lw_t4 (i := 21) rfl rfl
set_option maxRecDepth 20000 in
theorem co_X6_first : Cond.code yX6_first cX6_first 7 (some .int) ∈ lw_all := lw_t4 (i := 22) rfl rfl
set_option maxRecDepth 20000 in
theorem ml_L_78 : Cond.methodLink RL 78 yX6_told ∈ lw_all := lw_t4 (i := 23) rfl rfl
set_option maxRecDepth 20000 in
theorem im_X6_told : Cond.instanceMethod yX6_told ∈ lw_all := lw_t4 (i := 24) rfl rfl
set_option maxRecDepth 20000 in
theorem se_X6_told : Cond.selects RX6 yX6_told yX6_told ∈ lw_all := lw_t4 (i := 25) rfl rfl
set_option maxRecDepth 20000 in
theorem co_X6_told : Cond.code yX6_told cX6_told 4 (some .int) ∈ lw_all := lw_t4 (i := 26) rfl rfl
set_option maxRecDepth 20000 in
theorem se_X4_findAbove : Cond.selects RX4 yX4_findAbove yX4_findAbove ∈ lw_all := List.mem_filter.mpr ⟨List.mem_append_left _ (List.mem_map.mpr ⟨(yX4_findAbove, 6), List.mem_of_getElem? (i := 0) rfl, rfl⟩), rfl⟩
set_option maxRecDepth 20000 in
theorem se_X5_isMissingType : Cond.selects RX5 yX5_isMissingType yX5_isMissingType ∈ lw_all := List.mem_filter.mpr ⟨List.mem_append_left _ (List.mem_map.mpr ⟨(yX5_isMissingType, 5), List.mem_of_getElem? (i := 1) rfl, rfl⟩), rfl⟩
set_option maxRecDepth 20000 in
theorem se_X2_isOfNameBelow : Cond.selects RX2 yX2_isOfNameBelow yX2_isOfNameBelow ∈ lw_all := List.mem_filter.mpr ⟨List.mem_append_left _ (List.mem_map.mpr ⟨(yX2_isOfNameBelow, 8), List.mem_of_getElem? (i := 2) rfl, rfl⟩), rfl⟩
set_option maxRecDepth 20000 in
theorem se_X2_isReached : Cond.selects RX2 yX2_isReached yX2_isReached ∈ lw_all := List.mem_filter.mpr ⟨List.mem_append_left _ (List.mem_map.mpr ⟨(yX2_isReached, 8), List.mem_of_getElem? (i := 3) rfl, rfl⟩), rfl⟩
set_option maxRecDepth 20000 in
theorem se_X2_isSeen : Cond.selects RX2 yX2_isSeen yX2_isSeen ∈ lw_all := List.mem_filter.mpr ⟨List.mem_append_left _ (List.mem_map.mpr ⟨(yX2_isSeen, 8), List.mem_of_getElem? (i := 4) rfl, rfl⟩), rfl⟩
set_option maxRecDepth 20000 in
theorem se_X0_chooseOfInterfaces : Cond.selects RX0 yX0_chooseOfInterfaces yX0_chooseOfInterfaces ∈ lw_all := List.mem_filter.mpr ⟨List.mem_append_left _ (List.mem_map.mpr ⟨(yX0_chooseOfInterfaces, 2), List.mem_of_getElem? (i := 5) rfl, rfl⟩), rfl⟩
set_option maxRecDepth 20000 in
theorem se_X0_leastOrFight : Cond.selects RX0 yX0_leastOrFight yX0_leastOrFight ∈ lw_all := List.mem_filter.mpr ⟨List.mem_append_left _ (List.mem_map.mpr ⟨(yX0_leastOrFight, 2), List.mem_of_getElem? (i := 6) rfl, rfl⟩), rfl⟩
set_option maxRecDepth 20000 in
theorem se_X1_walkOwn : Cond.selects RX1 yX1_walkOwn yX1_walkOwn ∈ lw_all := List.mem_filter.mpr ⟨List.mem_append_left _ (List.mem_map.mpr ⟨(yX1_walkOwn, 9), List.mem_of_getElem? (i := 7) rfl, rfl⟩), rfl⟩
set_option maxRecDepth 20000 in
theorem se_X1_noteIf : Cond.selects RX1 yX1_noteIf yX1_noteIf ∈ lw_all := List.mem_filter.mpr ⟨List.mem_append_left _ (List.mem_map.mpr ⟨(yX1_noteIf, 9), List.mem_of_getElem? (i := 8) rfl, rfl⟩), rfl⟩
set_option maxRecDepth 20000 in
theorem se_X1_note : Cond.selects RX1 yX1_note yX1_note ∈ lw_all := List.mem_filter.mpr ⟨List.mem_append_left _ (List.mem_map.mpr ⟨(yX1_note, 9), List.mem_of_getElem? (i := 9) rfl, rfl⟩), rfl⟩
set_option maxRecDepth 20000 in
theorem se_X1_compare : Cond.selects RX1 yX1_compare yX1_compare ∈ lw_all := List.mem_filter.mpr ⟨List.mem_append_left _ (List.mem_map.mpr ⟨(yX1_compare, 9), List.mem_of_getElem? (i := 10) rfl, rfl⟩), rfl⟩
set_option maxRecDepth 20000 in
theorem se_X1_suits : Cond.selects RX1 yX1_suits yX1_suits ∈ lw_all := List.mem_filter.mpr ⟨List.mem_append_left _ (List.mem_map.mpr ⟨(yX1_suits, 9), List.mem_of_getElem? (i := 11) rfl, rfl⟩), rfl⟩
set_option maxRecDepth 20000 in
theorem se_X1_walkInherited : Cond.selects RX1 yX1_walkInherited yX1_walkInherited ∈ lw_all := List.mem_filter.mpr ⟨List.mem_append_left _ (List.mem_map.mpr ⟨(yX1_walkInherited, 9), List.mem_of_getElem? (i := 12) rfl, rfl⟩), rfl⟩
set_option maxRecDepth 20000 in
theorem se_X1_noteChosen : Cond.selects RX1 yX1_noteChosen yX1_noteChosen ∈ lw_all := List.mem_filter.mpr ⟨List.mem_append_left _ (List.mem_map.mpr ⟨(yX1_noteChosen, 9), List.mem_of_getElem? (i := 13) rfl, rfl⟩), rfl⟩
set_option maxRecDepth 20000 in
theorem se_X1_isMetByChance : Cond.selects RX1 yX1_isMetByChance yX1_isMetByChance ∈ lw_all := List.mem_filter.mpr ⟨List.mem_append_left _ (List.mem_map.mpr ⟨(yX1_isMetByChance, 9), List.mem_of_getElem? (i := 14) rfl, rfl⟩), rfl⟩
set_option maxRecDepth 20000 in
theorem se_X6_isType : Cond.selects RX6 yX6_isType yX6_isType ∈ lw_all := List.mem_filter.mpr ⟨List.mem_append_left _ (List.mem_map.mpr ⟨(yX6_isType, 21), List.mem_of_getElem? (i := 15) rfl, rfl⟩), rfl⟩
set_option maxRecDepth 20000 in
theorem se_X6_rise : Cond.selects RX6 yX6_rise yX6_rise ∈ lw_all := List.mem_filter.mpr ⟨List.mem_append_left _ (List.mem_map.mpr ⟨(yX6_rise, 21), List.mem_of_getElem? (i := 16) rfl, rfl⟩), rfl⟩
set_option maxRecDepth 20000 in
theorem se_X6_lift : Cond.selects RX6 yX6_lift yX6_lift ∈ lw_all := List.mem_filter.mpr ⟨List.mem_append_left _ (List.mem_map.mpr ⟨(yX6_lift, 21), List.mem_of_getElem? (i := 17) rfl, rfl⟩), rfl⟩
set_option maxRecDepth 20000 in
theorem se_X6_work : Cond.selects RX6 yX6_work yX6_work ∈ lw_all := List.mem_filter.mpr ⟨List.mem_append_left _ (List.mem_map.mpr ⟨(yX6_work, 21), List.mem_of_getElem? (i := 18) rfl, rfl⟩), rfl⟩
set_option maxRecDepth 20000 in
theorem se_X6_isBelow : Cond.selects RX6 yX6_isBelow yX6_isBelow ∈ lw_all := List.mem_filter.mpr ⟨List.mem_append_left _ (List.mem_map.mpr ⟨(yX6_isBelow, 21), List.mem_of_getElem? (i := 19) rfl, rfl⟩), rfl⟩
set_option maxRecDepth 20000 in
theorem se_X6_isStatic : Cond.selects RX6 yX6_isStatic yX6_isStatic ∈ lw_all := List.mem_filter.mpr ⟨List.mem_append_left _ (List.mem_map.mpr ⟨(yX6_isStatic, 21), List.mem_of_getElem? (i := 20) rfl, rfl⟩), rfl⟩
set_option maxRecDepth 20000 in
theorem se_X6_has : Cond.selects RX6 yX6_has yX6_has ∈ lw_all := List.mem_filter.mpr ⟨List.mem_append_left _ (List.mem_map.mpr ⟨(yX6_has, 21), List.mem_of_getElem? (i := 21) rfl, rfl⟩), rfl⟩
set_option maxRecDepth 20000 in
theorem se_X6_isPrivate : Cond.selects RX6 yX6_isPrivate yX6_isPrivate ∈ lw_all := List.mem_filter.mpr ⟨List.mem_append_left _ (List.mem_map.mpr ⟨(yX6_isPrivate, 21), List.mem_of_getElem? (i := 22) rfl, rfl⟩), rfl⟩
set_option maxRecDepth 20000 in
theorem se_X6_goesOver : Cond.selects RX6 yX6_goesOver yX6_goesOver ∈ lw_all := List.mem_filter.mpr ⟨List.mem_append_left _ (List.mem_map.mpr ⟨(yX6_goesOver, 21), List.mem_of_getElem? (i := 23) rfl, rfl⟩), rfl⟩
set_option maxRecDepth 20000 in
theorem se_X6_isInterface : Cond.selects RX6 yX6_isInterface yX6_isInterface ∈ lw_all := List.mem_filter.mpr ⟨List.mem_append_left _ (List.mem_map.mpr ⟨(yX6_isInterface, 21), List.mem_of_getElem? (i := 24) rfl, rfl⟩), rfl⟩
set_option maxRecDepth 20000 in
theorem se_X6_isSeen : Cond.selects RX6 yX6_isSeen yX6_isSeen ∈ lw_all := List.mem_filter.mpr ⟨List.mem_append_left _ (List.mem_map.mpr ⟨(yX6_isSeen, 21), List.mem_of_getElem? (i := 25) rfl, rfl⟩), rfl⟩
set_option maxRecDepth 20000 in
theorem se_X6_access : Cond.selects RX6 yX6_access yX6_access ∈ lw_all := List.mem_filter.mpr ⟨List.mem_append_left _ (List.mem_map.mpr ⟨(yX6_access, 21), List.mem_of_getElem? (i := 26) rfl, rfl⟩), rfl⟩
set_option maxRecDepth 20000 in
theorem se_X6_isSub : Cond.selects RX6 yX6_isSub yX6_isSub ∈ lw_all := List.mem_filter.mpr ⟨List.mem_append_left _ (List.mem_map.mpr ⟨(yX6_isSub, 21), List.mem_of_getElem? (i := 27) rfl, rfl⟩), rfl⟩
set_option maxRecDepth 20000 in
theorem se_X6_isMember : Cond.selects RX6 yX6_isMember yX6_isMember ∈ lw_all := List.mem_filter.mpr ⟨List.mem_append_left _ (List.mem_map.mpr ⟨(yX6_isMember, 21), List.mem_of_getElem? (i := 28) rfl, rfl⟩), rfl⟩
set_option maxRecDepth 20000 in
theorem se_X6_isOver : Cond.selects RX6 yX6_isOver yX6_isOver ∈ lw_all := List.mem_filter.mpr ⟨List.mem_append_left _ (List.mem_map.mpr ⟨(yX6_isOver, 21), List.mem_of_getElem? (i := 29) rfl, rfl⟩), rfl⟩
set_option maxRecDepth 20000 in
theorem se_X6_hidesIt : Cond.selects RX6 yX6_hidesIt yX6_hidesIt ∈ lw_all := List.mem_filter.mpr ⟨List.mem_append_left _ (List.mem_map.mpr ⟨(yX6_hidesIt, 21), List.mem_of_getElem? (i := 30) rfl, rfl⟩), rfl⟩
set_option maxRecDepth 20000 in
theorem se_X6_isPlain : Cond.selects RX6 yX6_isPlain yX6_isPlain ∈ lw_all := List.mem_filter.mpr ⟨List.mem_append_left _ (List.mem_map.mpr ⟨(yX6_isPlain, 21), List.mem_of_getElem? (i := 31) rfl, rfl⟩), rfl⟩
set_option maxRecDepth 20000 in
theorem se_X6_choose : Cond.selects RX6 yX6_choose yX6_choose ∈ lw_all := List.mem_filter.mpr ⟨List.mem_append_left _ (List.mem_map.mpr ⟨(yX6_choose, 21), List.mem_of_getElem? (i := 32) rfl, rfl⟩), rfl⟩
set_option maxRecDepth 20000 in
theorem se_X6_isLast : Cond.selects RX6 yX6_isLast yX6_isLast ∈ lw_all := List.mem_filter.mpr ⟨List.mem_append_left _ (List.mem_map.mpr ⟨(yX6_isLast, 21), List.mem_of_getElem? (i := 33) rfl, rfl⟩), rfl⟩
set_option maxRecDepth 20000 in
theorem se_X6_judge : Cond.selects RX6 yX6_judge yX6_judge ∈ lw_all := List.mem_filter.mpr ⟨List.mem_append_left _ (List.mem_map.mpr ⟨(yX6_judge, 21), List.mem_of_getElem? (i := 34) rfl, rfl⟩), rfl⟩
set_option maxRecDepth 20000 in
theorem se_X6_isMixed : Cond.selects RX6 yX6_isMixed yX6_isMixed ∈ lw_all := List.mem_filter.mpr ⟨List.mem_append_left _ (List.mem_map.mpr ⟨(yX6_isMixed, 21), List.mem_of_getElem? (i := 35) rfl, rfl⟩), rfl⟩
set_option maxRecDepth 20000 in
theorem se_X6_note : Cond.selects RX6 yX6_note yX6_note ∈ lw_all := List.mem_filter.mpr ⟨List.mem_append_left _ (List.mem_map.mpr ⟨(yX6_note, 21), List.mem_of_getElem? (i := 36) rfl, rfl⟩), rfl⟩
set_option maxRecDepth 20000 in
theorem se_X6_three : Cond.selects RX6 yX6_three yX6_three ∈ lw_all := List.mem_filter.mpr ⟨List.mem_append_left _ (List.mem_map.mpr ⟨(yX6_three, 21), List.mem_of_getElem? (i := 37) rfl, rfl⟩), rfl⟩
set_option maxRecDepth 20000 in
theorem se_X6_suits : Cond.selects RX6 yX6_suits yX6_suits ∈ lw_all := List.mem_filter.mpr ⟨List.mem_append_left _ (List.mem_map.mpr ⟨(yX6_suits, 21), List.mem_of_getElem? (i := 38) rfl, rfl⟩), rfl⟩
set_option maxRecDepth 20000 in
theorem se_X6_throwsMore : Cond.selects RX6 yX6_throwsMore yX6_throwsMore ∈ lw_all := List.mem_filter.mpr ⟨List.mem_append_left _ (List.mem_map.mpr ⟨(yX6_throwsMore, 21), List.mem_of_getElem? (i := 39) rfl, rfl⟩), rfl⟩
set_option maxRecDepth 20000 in
theorem se_X6_inherited : Cond.selects RX6 yX6_inherited yX6_inherited ∈ lw_all := List.mem_filter.mpr ⟨List.mem_append_left _ (List.mem_map.mpr ⟨(yX6_inherited, 21), List.mem_of_getElem? (i := 40) rfl, rfl⟩), rfl⟩
set_option maxRecDepth 20000 in
theorem ly_X4_kinds : Cond.laysFinal RX4 "OverrideRules$Types" "kinds" "[I" ∈ lw_all := lw_t1 (i := 30) rfl rfl
set_option maxRecDepth 20000 in
theorem ly_X4_packets : Cond.laysFinal RX4 "OverrideRules$Types" "packets" "[I" ∈ lw_all := lw_t1 (i := 32) rfl rfl
set_option maxRecDepth 20000 in
theorem ly_X4_parents : Cond.laysFinal RX4 "OverrideRules$Types" "parents" "[I" ∈ lw_all := lw_t1 (i := 34) rfl rfl
set_option maxRecDepth 20000 in
theorem ly_X4_faces : Cond.laysFinal RX4 "OverrideRules$Types" "faces" "[I" ∈ lw_all := lw_t1 (i := 36) rfl rfl
set_option maxRecDepth 20000 in
theorem ly_X4_above : Cond.laysFinal RX4 "OverrideRules$Types" "above" "[I" ∈ lw_all := lw_t1 (i := 38) rfl rfl
set_option maxRecDepth 20000 in
theorem ly_X4_count : Cond.lays RX4 "OverrideRules$Types" "count" "I" ∈ lw_all := lw_t1 (i := 40) rfl rfl
set_option maxRecDepth 20000 in
theorem lays_X4 : ∀ w ∈ u_ws RX4 TX4 6, w ∈ lw_all := by
  show ∀ w ∈ [Cond.laysFinal RX4 "OverrideRules$Types" "kinds" "[I", Cond.laysFinal RX4 "OverrideRules$Types" "packets" "[I", Cond.laysFinal RX4 "OverrideRules$Types" "parents" "[I", Cond.laysFinal RX4 "OverrideRules$Types" "faces" "[I", Cond.laysFinal RX4 "OverrideRules$Types" "above" "[I", Cond.lays RX4 "OverrideRules$Types" "count" "I"], w ∈ lw_all
  exact List.forall_mem_cons.mpr ⟨ly_X4_kinds, List.forall_mem_cons.mpr ⟨ly_X4_packets, List.forall_mem_cons.mpr ⟨ly_X4_parents, List.forall_mem_cons.mpr ⟨ly_X4_faces, List.forall_mem_cons.mpr ⟨ly_X4_above, List.forall_mem_cons.mpr ⟨ly_X4_count, fun _ h => absurd h List.not_mem_nil⟩⟩⟩⟩⟩⟩
set_option maxRecDepth 20000 in
theorem ly_X3_subTo : Cond.laysFinal RX3 "OverrideRules$Throws" "subTo" "[I" ∈ lw_all := lw_t1 (i := 53) rfl rfl
set_option maxRecDepth 20000 in
theorem ly_X3_checkedOnes : Cond.lays RX3 "OverrideRules$Throws" "checkedOnes" "I" ∈ lw_all := lw_t1 (i := 55) rfl rfl
set_option maxRecDepth 20000 in
theorem ly_X3_count : Cond.lays RX3 "OverrideRules$Throws" "count" "I" ∈ lw_all := lw_t1 (i := 57) rfl rfl
set_option maxRecDepth 20000 in
theorem lays_X3 : ∀ w ∈ u_ws RX3 TX3 3, w ∈ lw_all := by
  show ∀ w ∈ [Cond.laysFinal RX3 "OverrideRules$Throws" "subTo" "[I", Cond.lays RX3 "OverrideRules$Throws" "checkedOnes" "I", Cond.lays RX3 "OverrideRules$Throws" "count" "I"], w ∈ lw_all
  exact List.forall_mem_cons.mpr ⟨ly_X3_subTo, List.forall_mem_cons.mpr ⟨ly_X3_checkedOnes, List.forall_mem_cons.mpr ⟨ly_X3_count, fun _ h => absurd h List.not_mem_nil⟩⟩⟩
set_option maxRecDepth 20000 in
theorem ly_X2_types : Cond.laysFinal RX2 "OverrideRules$Members" "types" "LOverrideRules$Types;" ∈ lw_all := lw_t1 (i := 74) rfl rfl
set_option maxRecDepth 20000 in
theorem ly_X2_owners : Cond.laysFinal RX2 "OverrideRules$Members" "owners" "[I" ∈ lw_all := lw_t1 (i := 76) rfl rfl
set_option maxRecDepth 20000 in
theorem ly_X2_names : Cond.laysFinal RX2 "OverrideRules$Members" "names" "[I" ∈ lw_all := lw_t1 (i := 78) rfl rfl
set_option maxRecDepth 20000 in
theorem ly_X2_results : Cond.laysFinal RX2 "OverrideRules$Members" "results" "[I" ∈ lw_all := lw_t1 (i := 80) rfl rfl
set_option maxRecDepth 20000 in
theorem ly_X2_marks : Cond.laysFinal RX2 "OverrideRules$Members" "marks" "[I" ∈ lw_all := lw_t1 (i := 82) rfl rfl
set_option maxRecDepth 20000 in
theorem ly_X2_throwSets : Cond.laysFinal RX2 "OverrideRules$Members" "throwSets" "[I" ∈ lw_all := lw_t1 (i := 84) rfl rfl
set_option maxRecDepth 20000 in
theorem ly_X2_slots : Cond.laysFinal RX2 "OverrideRules$Members" "slots" "[I" ∈ lw_all := lw_t1 (i := 86) rfl rfl
set_option maxRecDepth 20000 in
theorem ly_X2_count : Cond.lays RX2 "OverrideRules$Members" "count" "I" ∈ lw_all := lw_t1 (i := 88) rfl rfl
set_option maxRecDepth 20000 in
theorem lays_X2 : ∀ w ∈ u_ws RX2 TX2 8, w ∈ lw_all := by
  show ∀ w ∈ [Cond.laysFinal RX2 "OverrideRules$Members" "types" "LOverrideRules$Types;", Cond.laysFinal RX2 "OverrideRules$Members" "owners" "[I", Cond.laysFinal RX2 "OverrideRules$Members" "names" "[I", Cond.laysFinal RX2 "OverrideRules$Members" "results" "[I", Cond.laysFinal RX2 "OverrideRules$Members" "marks" "[I", Cond.laysFinal RX2 "OverrideRules$Members" "throwSets" "[I", Cond.laysFinal RX2 "OverrideRules$Members" "slots" "[I", Cond.lays RX2 "OverrideRules$Members" "count" "I"], w ∈ lw_all
  exact List.forall_mem_cons.mpr ⟨ly_X2_types, List.forall_mem_cons.mpr ⟨ly_X2_owners, List.forall_mem_cons.mpr ⟨ly_X2_names, List.forall_mem_cons.mpr ⟨ly_X2_results, List.forall_mem_cons.mpr ⟨ly_X2_marks, List.forall_mem_cons.mpr ⟨ly_X2_throwSets, List.forall_mem_cons.mpr ⟨ly_X2_slots, List.forall_mem_cons.mpr ⟨ly_X2_count, fun _ h => absurd h List.not_mem_nil⟩⟩⟩⟩⟩⟩⟩⟩
set_option maxRecDepth 20000 in
theorem ly_X0_types : Cond.laysFinal RX0 "OverrideRules$Choice" "types" "LOverrideRules$Types;" ∈ lw_all := lw_t1 (i := 99) rfl rfl
set_option maxRecDepth 20000 in
theorem ly_X0_members : Cond.laysFinal RX0 "OverrideRules$Choice" "members" "LOverrideRules$Members;" ∈ lw_all := lw_t1 (i := 101) rfl rfl
set_option maxRecDepth 20000 in
theorem lays_X0 : ∀ w ∈ u_ws RX0 TX0 2, w ∈ lw_all := by
  show ∀ w ∈ [Cond.laysFinal RX0 "OverrideRules$Choice" "types" "LOverrideRules$Types;", Cond.laysFinal RX0 "OverrideRules$Choice" "members" "LOverrideRules$Members;"], w ∈ lw_all
  exact List.forall_mem_cons.mpr ⟨ly_X0_types, List.forall_mem_cons.mpr ⟨ly_X0_members, fun _ h => absurd h List.not_mem_nil⟩⟩
set_option maxRecDepth 20000 in
theorem ly_X1_types : Cond.laysFinal RX1 "OverrideRules$Faults" "types" "LOverrideRules$Types;" ∈ lw_all := lw_t1 (i := 119) rfl rfl
set_option maxRecDepth 20000 in
theorem ly_X1_thrown : Cond.laysFinal RX1 "OverrideRules$Faults" "thrown" "LOverrideRules$Throws;" ∈ lw_all := lw_t1 (i := 121) rfl rfl
set_option maxRecDepth 20000 in
theorem ly_X1_members : Cond.laysFinal RX1 "OverrideRules$Faults" "members" "LOverrideRules$Members;" ∈ lw_all := lw_t1 (i := 123) rfl rfl
set_option maxRecDepth 20000 in
theorem ly_X1_choice : Cond.laysFinal RX1 "OverrideRules$Faults" "choice" "LOverrideRules$Choice;" ∈ lw_all := lw_t1 (i := 125) rfl rfl
set_option maxRecDepth 20000 in
theorem ly_X1_wanted : Cond.lays RX1 "OverrideRules$Faults" "wanted" "I" ∈ lw_all := lw_t1 (i := 127) rfl rfl
set_option maxRecDepth 20000 in
theorem ly_X1_count : Cond.lays RX1 "OverrideRules$Faults" "count" "I" ∈ lw_all := lw_t1 (i := 129) rfl rfl
set_option maxRecDepth 20000 in
theorem ly_X1_pickedCode : Cond.lays RX1 "OverrideRules$Faults" "pickedCode" "I" ∈ lw_all := lw_t1 (i := 131) rfl rfl
set_option maxRecDepth 20000 in
theorem ly_X1_pickedM : Cond.lays RX1 "OverrideRules$Faults" "pickedM" "I" ∈ lw_all := lw_t1 (i := 133) rfl rfl
set_option maxRecDepth 20000 in
theorem ly_X1_pickedO : Cond.lays RX1 "OverrideRules$Faults" "pickedO" "I" ∈ lw_all := lw_t1 (i := 135) rfl rfl
set_option maxRecDepth 20000 in
theorem lays_X1 : ∀ w ∈ u_ws RX1 TX1 9, w ∈ lw_all := by
  show ∀ w ∈ [Cond.laysFinal RX1 "OverrideRules$Faults" "types" "LOverrideRules$Types;", Cond.laysFinal RX1 "OverrideRules$Faults" "thrown" "LOverrideRules$Throws;", Cond.laysFinal RX1 "OverrideRules$Faults" "members" "LOverrideRules$Members;", Cond.laysFinal RX1 "OverrideRules$Faults" "choice" "LOverrideRules$Choice;", Cond.lays RX1 "OverrideRules$Faults" "wanted" "I", Cond.lays RX1 "OverrideRules$Faults" "count" "I", Cond.lays RX1 "OverrideRules$Faults" "pickedCode" "I", Cond.lays RX1 "OverrideRules$Faults" "pickedM" "I", Cond.lays RX1 "OverrideRules$Faults" "pickedO" "I"], w ∈ lw_all
  exact List.forall_mem_cons.mpr ⟨ly_X1_types, List.forall_mem_cons.mpr ⟨ly_X1_thrown, List.forall_mem_cons.mpr ⟨ly_X1_members, List.forall_mem_cons.mpr ⟨ly_X1_choice, List.forall_mem_cons.mpr ⟨ly_X1_wanted, List.forall_mem_cons.mpr ⟨ly_X1_count, List.forall_mem_cons.mpr ⟨ly_X1_pickedCode, List.forall_mem_cons.mpr ⟨ly_X1_pickedM, List.forall_mem_cons.mpr ⟨ly_X1_pickedO, fun _ h => absurd h List.not_mem_nil⟩⟩⟩⟩⟩⟩⟩⟩⟩
set_option maxRecDepth 20000 in
theorem ly_X5_types : Cond.laysFinal RX5 "OverrideRules" "types" "LOverrideRules$Types;" ∈ lw_all := lw_t1 (i := 143) rfl rfl
set_option maxRecDepth 20000 in
theorem ly_X5_thrown : Cond.laysFinal RX5 "OverrideRules" "thrown" "LOverrideRules$Throws;" ∈ lw_all := lw_t1 (i := 145) rfl rfl
set_option maxRecDepth 20000 in
theorem ly_X5_members : Cond.laysFinal RX5 "OverrideRules" "members" "LOverrideRules$Members;" ∈ lw_all := lw_t1 (i := 147) rfl rfl
set_option maxRecDepth 20000 in
theorem ly_X5_choice : Cond.laysFinal RX5 "OverrideRules" "choice" "LOverrideRules$Choice;" ∈ lw_all := lw_t1 (i := 149) rfl rfl
set_option maxRecDepth 20000 in
theorem ly_X5_faults : Cond.laysFinal RX5 "OverrideRules" "faults" "LOverrideRules$Faults;" ∈ lw_all := lw_t1 (i := 151) rfl rfl
set_option maxRecDepth 20000 in
theorem lays_X5 : ∀ w ∈ u_ws RX5 TX5 5, w ∈ lw_all := by
  show ∀ w ∈ [Cond.laysFinal RX5 "OverrideRules" "types" "LOverrideRules$Types;", Cond.laysFinal RX5 "OverrideRules" "thrown" "LOverrideRules$Throws;", Cond.laysFinal RX5 "OverrideRules" "members" "LOverrideRules$Members;", Cond.laysFinal RX5 "OverrideRules" "choice" "LOverrideRules$Choice;", Cond.laysFinal RX5 "OverrideRules" "faults" "LOverrideRules$Faults;"], w ∈ lw_all
  exact List.forall_mem_cons.mpr ⟨ly_X5_types, List.forall_mem_cons.mpr ⟨ly_X5_thrown, List.forall_mem_cons.mpr ⟨ly_X5_members, List.forall_mem_cons.mpr ⟨ly_X5_choice, List.forall_mem_cons.mpr ⟨ly_X5_faults, fun _ h => absurd h List.not_mem_nil⟩⟩⟩⟩⟩
set_option maxRecDepth 20000 in
theorem ly_X6_types : Cond.lays RX6 "OverrideRulesModel" "types" "I" ∈ lw_all := lw_t3 (i := 50) rfl rfl
set_option maxRecDepth 20000 in
theorem ly_X6_kind : Cond.laysFinal RX6 "OverrideRulesModel" "kind" "[I" ∈ lw_all := lw_t3 (i := 52) rfl rfl
set_option maxRecDepth 20000 in
theorem ly_X6_packet : Cond.laysFinal RX6 "OverrideRulesModel" "packet" "[I" ∈ lw_all := lw_t3 (i := 54) rfl rfl
set_option maxRecDepth 20000 in
theorem ly_X6_parent : Cond.laysFinal RX6 "OverrideRulesModel" "parent" "[I" ∈ lw_all := lw_t3 (i := 56) rfl rfl
set_option maxRecDepth 20000 in
theorem ly_X6_faces : Cond.laysFinal RX6 "OverrideRulesModel" "faces" "[I" ∈ lw_all := lw_t3 (i := 58) rfl rfl
set_option maxRecDepth 20000 in
theorem ly_X6_face : Cond.laysFinal RX6 "OverrideRulesModel" "face" "[I" ∈ lw_all := lw_t3 (i := 60) rfl rfl
set_option maxRecDepth 20000 in
theorem ly_X6_above : Cond.laysFinal RX6 "OverrideRulesModel" "above" "[Z" ∈ lw_all := lw_t3 (i := 62) rfl rfl
set_option maxRecDepth 20000 in
theorem ly_X6_throwsMany : Cond.lays RX6 "OverrideRulesModel" "throwsMany" "I" ∈ lw_all := lw_t3 (i := 64) rfl rfl
set_option maxRecDepth 20000 in
theorem ly_X6_throwParent : Cond.laysFinal RX6 "OverrideRulesModel" "throwParent" "[I" ∈ lw_all := lw_t3 (i := 66) rfl rfl
set_option maxRecDepth 20000 in
theorem ly_X6_checked : Cond.laysFinal RX6 "OverrideRulesModel" "checked" "[Z" ∈ lw_all := lw_t3 (i := 68) rfl rfl
set_option maxRecDepth 20000 in
theorem ly_X6_members : Cond.lays RX6 "OverrideRulesModel" "members" "I" ∈ lw_all := lw_t3 (i := 70) rfl rfl
set_option maxRecDepth 20000 in
theorem ly_X6_of : Cond.laysFinal RX6 "OverrideRulesModel" "of" "[I" ∈ lw_all := lw_t3 (i := 72) rfl rfl
set_option maxRecDepth 20000 in
theorem ly_X6_name : Cond.laysFinal RX6 "OverrideRulesModel" "name" "[I" ∈ lw_all := lw_t3 (i := 74) rfl rfl
set_option maxRecDepth 20000 in
theorem ly_X6_result : Cond.laysFinal RX6 "OverrideRulesModel" "result" "[I" ∈ lw_all := lw_t3 (i := 76) rfl rfl
set_option maxRecDepth 20000 in
theorem ly_X6_marks : Cond.laysFinal RX6 "OverrideRulesModel" "marks" "[I" ∈ lw_all := lw_t3 (i := 78) rfl rfl
set_option maxRecDepth 20000 in
theorem ly_X6_thrownBy : Cond.laysFinal RX6 "OverrideRulesModel" "thrownBy" "[I" ∈ lw_all := lw_t3 (i := 80) rfl rfl
set_option maxRecDepth 20000 in
theorem ly_X6_over : Cond.laysFinal RX6 "OverrideRulesModel" "over" "[Z" ∈ lw_all := lw_t3 (i := 82) rfl rfl
set_option maxRecDepth 20000 in
theorem ly_X6_faults : Cond.lays RX6 "OverrideRulesModel" "faults" "I" ∈ lw_all := lw_t3 (i := 84) rfl rfl
set_option maxRecDepth 20000 in
theorem ly_X6_faultCode : Cond.laysFinal RX6 "OverrideRulesModel" "faultCode" "[I" ∈ lw_all := lw_t3 (i := 86) rfl rfl
set_option maxRecDepth 20000 in
theorem ly_X6_faultOne : Cond.laysFinal RX6 "OverrideRulesModel" "faultOne" "[I" ∈ lw_all := lw_t3 (i := 88) rfl rfl
set_option maxRecDepth 20000 in
theorem ly_X6_faultOther : Cond.laysFinal RX6 "OverrideRulesModel" "faultOther" "[I" ∈ lw_all := lw_t3 (i := 90) rfl rfl
set_option maxRecDepth 20000 in
theorem lays_X6 : ∀ w ∈ u_ws RX6 TX6 21, w ∈ lw_all := by
  show ∀ w ∈ [Cond.lays RX6 "OverrideRulesModel" "types" "I", Cond.laysFinal RX6 "OverrideRulesModel" "kind" "[I", Cond.laysFinal RX6 "OverrideRulesModel" "packet" "[I", Cond.laysFinal RX6 "OverrideRulesModel" "parent" "[I", Cond.laysFinal RX6 "OverrideRulesModel" "faces" "[I", Cond.laysFinal RX6 "OverrideRulesModel" "face" "[I", Cond.laysFinal RX6 "OverrideRulesModel" "above" "[Z", Cond.lays RX6 "OverrideRulesModel" "throwsMany" "I", Cond.laysFinal RX6 "OverrideRulesModel" "throwParent" "[I", Cond.laysFinal RX6 "OverrideRulesModel" "checked" "[Z", Cond.lays RX6 "OverrideRulesModel" "members" "I", Cond.laysFinal RX6 "OverrideRulesModel" "of" "[I", Cond.laysFinal RX6 "OverrideRulesModel" "name" "[I", Cond.laysFinal RX6 "OverrideRulesModel" "result" "[I", Cond.laysFinal RX6 "OverrideRulesModel" "marks" "[I", Cond.laysFinal RX6 "OverrideRulesModel" "thrownBy" "[I", Cond.laysFinal RX6 "OverrideRulesModel" "over" "[Z", Cond.lays RX6 "OverrideRulesModel" "faults" "I", Cond.laysFinal RX6 "OverrideRulesModel" "faultCode" "[I", Cond.laysFinal RX6 "OverrideRulesModel" "faultOne" "[I", Cond.laysFinal RX6 "OverrideRulesModel" "faultOther" "[I"], w ∈ lw_all
  exact List.forall_mem_cons.mpr ⟨ly_X6_types, List.forall_mem_cons.mpr ⟨ly_X6_kind, List.forall_mem_cons.mpr ⟨ly_X6_packet, List.forall_mem_cons.mpr ⟨ly_X6_parent, List.forall_mem_cons.mpr ⟨ly_X6_faces, List.forall_mem_cons.mpr ⟨ly_X6_face, List.forall_mem_cons.mpr ⟨ly_X6_above, List.forall_mem_cons.mpr ⟨ly_X6_throwsMany, List.forall_mem_cons.mpr ⟨ly_X6_throwParent, List.forall_mem_cons.mpr ⟨ly_X6_checked, List.forall_mem_cons.mpr ⟨ly_X6_members, List.forall_mem_cons.mpr ⟨ly_X6_of, List.forall_mem_cons.mpr ⟨ly_X6_name, List.forall_mem_cons.mpr ⟨ly_X6_result, List.forall_mem_cons.mpr ⟨ly_X6_marks, List.forall_mem_cons.mpr ⟨ly_X6_thrownBy, List.forall_mem_cons.mpr ⟨ly_X6_over, List.forall_mem_cons.mpr ⟨ly_X6_faults, List.forall_mem_cons.mpr ⟨ly_X6_faultCode, List.forall_mem_cons.mpr ⟨ly_X6_faultOne, List.forall_mem_cons.mpr ⟨ly_X6_faultOther, fun _ h => absurd h List.not_mem_nil⟩⟩⟩⟩⟩⟩⟩⟩⟩⟩⟩⟩⟩⟩⟩⟩⟩⟩⟩⟩⟩
def lw_nest : List Cond := [Cond.methodLinkNest RX5 9 yX4_init RX5, Cond.methodLinkNest RX5 18 yX3_init RX5, Cond.methodLinkNest RX4 39 yX5_hasBit RX5, Cond.methodLinkNest RX2 44 yX5_hasBit RX5, Cond.methodLinkNest RX0 64 yX5_hasBit RX5, Cond.methodLinkNest RX3 22 yX5_hasBit RX5, Cond.methodLinkNest RX2 80 yX5_oneIf RX5]
theorem mn_X5_9 : Cond.methodLinkNest RX5 9 yX4_init RX5 ∈ lw_nest := List.mem_of_getElem? (i := 0) rfl
theorem mn_X5_18 : Cond.methodLinkNest RX5 18 yX3_init RX5 ∈ lw_nest := List.mem_of_getElem? (i := 1) rfl
theorem mn_X4_39 : Cond.methodLinkNest RX4 39 yX5_hasBit RX5 ∈ lw_nest := List.mem_of_getElem? (i := 2) rfl
theorem mn_X2_44 : Cond.methodLinkNest RX2 44 yX5_hasBit RX5 ∈ lw_nest := List.mem_of_getElem? (i := 3) rfl
theorem mn_X0_64 : Cond.methodLinkNest RX0 64 yX5_hasBit RX5 ∈ lw_nest := List.mem_of_getElem? (i := 4) rfl
theorem mn_X3_22 : Cond.methodLinkNest RX3 22 yX5_hasBit RX5 ∈ lw_nest := List.mem_of_getElem? (i := 5) rfl
theorem mn_X2_80 : Cond.methodLinkNest RX2 80 yX5_oneIf RX5 ∈ lw_nest := List.mem_of_getElem? (i := 6) rfl
set_option maxRecDepth 20000 in
theorem lw_nest_tbl : ∀ w ∈ lw_nest, w ∈ lw_tbl := List.forall_mem_cons.mpr ⟨List.mem_append_right _ (List.mem_append_left _ (List.mem_of_getElem? (i := 20) rfl)), List.forall_mem_cons.mpr ⟨List.mem_append_right _ (List.mem_append_left _ (List.mem_of_getElem? (i := 46) rfl)), List.forall_mem_cons.mpr ⟨List.mem_append_right _ (List.mem_append_left _ (List.mem_of_getElem? (i := 198) rfl)), List.forall_mem_cons.mpr ⟨List.mem_append_right _ (List.mem_append_right _ (List.mem_append_left _ (List.mem_of_getElem? (i := 43) rfl))), List.forall_mem_cons.mpr ⟨List.mem_append_right _ (List.mem_append_right _ (List.mem_append_left _ (List.mem_of_getElem? (i := 140) rfl))), List.forall_mem_cons.mpr ⟨List.mem_append_right _ (List.mem_append_right _ (List.mem_append_left _ (List.mem_of_getElem? (i := 205) rfl))), List.forall_mem_cons.mpr ⟨List.mem_append_right _ (List.mem_append_right _ (List.mem_append_right _ (List.mem_append_left _ (List.mem_of_getElem? (i := 13) rfl)))), fun _ h => absurd h List.not_mem_nil⟩⟩⟩⟩⟩⟩⟩
