theorem pl_0 : Cond.initialized R_LW ∈ tables_1_1 := List.mem_of_getElem? (i := 0) rfl
theorem pl_1 : Cond.classLink R_LW 8 R_SS ∈ tables_1_1 := List.mem_of_getElem? (i := 39) rfl
theorem pl_2 : Cond.methodLink R_LW 33 y_SS_init ∈ tables_1_1 := List.mem_of_getElem? (i := 41) rfl
theorem pl_3 : Cond.methodLink R_LW 39 y_SS_feed ∈ tables_1_3 := List.mem_of_getElem? (i := 118) rfl
theorem pl_4 : Cond.methodLink R_LW 44 y_SS_take ∈ tables_1_3 := List.mem_of_getElem? (i := 139) rfl
theorem pl_5 : Cond.methodLink R_LW 49 y_SS_file ∈ tables_1_6 := List.mem_of_getElem? (i := 119) rfl
theorem pl_6 : Cond.methodLink R_LW 53 y_SS_byteAt ∈ tables_1_10 := List.mem_of_getElem? (i := 164) rfl
theorem pl_7 : Cond.methodLink R_LW 67 y_SS_member ∈ tables_1_10 := List.mem_of_getElem? (i := 169) rfl
theorem pl_8 : Cond.methodLink R_LW 71 y_SS_act ∈ tables_1_10 := List.mem_of_getElem? (i := 203) rfl
theorem pl_9 : Cond.methodLink R_LW 76 y_SS_kind ∈ tables_1_10 := List.mem_of_getElem? (i := 212) rfl
theorem pl_10 : Cond.methodLink R_LW 80 y_SS_block ∈ tables_1_10 := List.mem_of_getElem? (i := 218) rfl
theorem pl_11 : Cond.methodLink R_LW 84 y_SS_text ∈ tables_1_10 := List.mem_of_getElem? (i := 228) rfl
theorem pl_12 : Cond.methodLink R_LW 88 y_SS_judge ∈ tables_1_10 := List.mem_of_getElem? (i := 232) rfl
theorem pl_13 : Cond.methodLink R_LW 93 y_SS_edit ∈ tables_1_10 := List.mem_of_getElem? (i := 236) rfl
theorem pl_14 : Cond.methodLink R_LW 97 y_SS_undo ∈ tables_1_11 := List.mem_of_getElem? (i := 25) rfl
theorem pl_15 : Cond.methodLink R_LW 102 y_SS_pair ∈ tables_1_11 := List.mem_of_getElem? (i := 29) rfl
theorem pl_16 : Cond.methodLink R_LW 106 y_SS_alike ∈ tables_1_11 := List.mem_of_getElem? (i := 37) rfl
theorem pl_17 : Cond.methodLink R_LW 110 y_SS_call ∈ tables_1_11 := List.mem_of_getElem? (i := 44) rfl
theorem pl_18 : Cond.methodLink R_LW 128 y_SS_settle ∈ tables_1_11 := List.mem_of_getElem? (i := 76) rfl
theorem pl_19 : Cond.methodLink R_LW 132 y_SS_count ∈ tables_1_11 := List.mem_of_getElem? (i := 80) rfl
theorem pl_20 : Cond.methodLink R_LW 58 y_LW_entry ∈ tables_1_11 := List.mem_of_getElem? (i := 84) rfl
theorem pl_21 : Cond.static y_LW_entry ∈ tables_1_11 := List.mem_of_getElem? (i := 85) rfl
theorem pl_22 : Cond.codeWith y_LW_entry b_LW_entry 6 (some (.int)) [(0, 11, 14, 13)] ∈ tables_1_11 := List.mem_of_getElem? (i := 86) rfl
theorem pl_23 : Cond.classLink R_LW 13 "java/lang/IndexOutOfBoundsException" ∈ tables_1_11 := List.mem_of_getElem? (i := 87) rfl
theorem pl_24 : Cond.methodLink R_LW 7 y_SS_entry ∈ tables_1_11 := List.mem_of_getElem? (i := 88) rfl
theorem pl_25 : Cond.methodLink R_LW 115 y_LW_steps ∈ tables_1_11 := List.mem_of_getElem? (i := 114) rfl
theorem pl_26 : Cond.static y_LW_steps ∈ tables_1_11 := List.mem_of_getElem? (i := 115) rfl
theorem pl_27 : Cond.codeWith y_LW_steps b_LW_steps 5 (some (.int)) [(0, 10, 13, 19), (0, 10, 17, 21)] ∈ tables_1_11 := List.mem_of_getElem? (i := 116) rfl
theorem pl_28 : Cond.classLink R_LW 19 "java/lang/IllegalArgumentException" ∈ tables_1_11 := List.mem_of_getElem? (i := 117) rfl
theorem pl_29 : Cond.classLink R_LW 21 "java/lang/IllegalStateException" ∈ tables_1_11 := List.mem_of_getElem? (i := 118) rfl
theorem pl_30 : Cond.methodLink R_LW 15 y_SS_steps ∈ tables_1_11 := List.mem_of_getElem? (i := 119) rfl
theorem pl_31 : Cond.methodLink R_LW 119 y_LW_state ∈ tables_1_11 := List.mem_of_getElem? (i := 213) rfl
theorem pl_32 : Cond.static y_LW_state ∈ tables_1_11 := List.mem_of_getElem? (i := 214) rfl
theorem pl_33 : Cond.codeWith y_LW_state b_LW_state 5 (some (.int)) [(0, 9, 12, 13)] ∈ tables_1_11 := List.mem_of_getElem? (i := 215) rfl
theorem pl_34 : Cond.methodLink R_LW 23 y_SS_state ∈ tables_1_11 := List.mem_of_getElem? (i := 216) rfl
theorem pl_35 : Cond.methodLink R_LW 122 y_LW_field ∈ tables_1_11 := List.mem_of_getElem? (i := 228) rfl
theorem pl_36 : Cond.static y_LW_field ∈ tables_1_11 := List.mem_of_getElem? (i := 229) rfl
theorem pl_37 : Cond.codeWith y_LW_field b_LW_field 6 (some (.int)) [(0, 11, 14, 13)] ∈ tables_1_11 := List.mem_of_getElem? (i := 230) rfl
theorem pl_38 : Cond.methodLink R_LW 27 y_SS_field ∈ tables_1_11 := List.mem_of_getElem? (i := 231) rfl
theorem pl_39 : Cond.methodLink R_LW 125 y_LW_element ∈ tables_1_11 := List.mem_of_getElem? (i := 239) rfl
theorem pl_40 : Cond.static y_LW_element ∈ tables_1_12 := List.mem_of_getElem? (i := 0) rfl
theorem pl_41 : Cond.codeWith y_LW_element b_LW_element 6 (some (.int)) [(0, 11, 14, 13)] ∈ tables_1_12 := List.mem_of_getElem? (i := 1) rfl
theorem pl_42 : Cond.methodLink R_LW 30 y_SS_element ∈ tables_1_12 := List.mem_of_getElem? (i := 2) rfl
theorem pl_43 : Cond.classLink R_LW 34 R_MM ∈ tables_1_12 := List.mem_of_getElem? (i := 8) rfl
theorem pl_44 : Cond.methodLink R_LW 36 y_MM_init ∈ tables_1_12 := List.mem_of_getElem? (i := 10) rfl
theorem pl_45 : Cond.methodLink R_LW 64 y_MM_thrown ∈ tables_1_14 := List.mem_of_getElem? (i := 136) rfl
theorem pl_46 : Cond.methodLink R_LW 43 y_MM_feed ∈ tables_1_14 := List.mem_of_getElem? (i := 140) rfl
theorem pl_47 : Cond.methodLink R_LW 48 y_MM_take ∈ tables_1_14 := List.mem_of_getElem? (i := 157) rfl
theorem pl_48 : Cond.methodLink R_LW 92 y_MM_judge ∈ tables_1_19 := List.mem_of_getElem? (i := 9) rfl
theorem pl_49 : Cond.methodLink R_LW 96 y_MM_edit ∈ tables_1_19 := List.mem_of_getElem? (i := 13) rfl
theorem pl_50 : Cond.methodLink R_LW 101 y_MM_undo ∈ tables_1_19 := List.mem_of_getElem? (i := 27) rfl
theorem pl_51 : Cond.methodLink R_LW 105 y_MM_pair ∈ tables_1_19 := List.mem_of_getElem? (i := 31) rfl
theorem pl_52 : Cond.methodLink R_LW 109 y_MM_alike ∈ tables_1_19 := List.mem_of_getElem? (i := 39) rfl
theorem pl_53 : Cond.methodLink R_LW 131 y_MM_settle ∈ tables_1_19 := List.mem_of_getElem? (i := 44) rfl
theorem pl_54 : Cond.methodLink R_LW 114 y_MM_call ∈ tables_1_19 := List.mem_of_getElem? (i := 48) rfl
theorem pl_55 : Cond.methodLink R_LW 118 y_MM_steps ∈ tables_1_19 := List.mem_of_getElem? (i := 71) rfl
theorem pl_56 : Cond.methodLink R_LW 52 y_MM_file ∈ tables_1_19 := List.mem_of_getElem? (i := 121) rfl
theorem pl_57 : Cond.methodLink R_LW 57 y_MM_byteAt ∈ tables_1_19 := List.mem_of_getElem? (i := 125) rfl
theorem pl_58 : Cond.methodLink R_LW 63 y_MM_entry ∈ tables_1_19 := List.mem_of_getElem? (i := 129) rfl
theorem pl_59 : Cond.methodLink R_LW 70 y_MM_member_1 ∈ tables_1_19 := List.mem_of_getElem? (i := 133) rfl
theorem pl_60 : Cond.methodLink R_LW 75 y_MM_act_0 ∈ tables_1_19 := List.mem_of_getElem? (i := 137) rfl
theorem pl_61 : Cond.methodLink R_LW 79 y_MM_kind ∈ tables_1_19 := List.mem_of_getElem? (i := 141) rfl
theorem pl_62 : Cond.methodLink R_LW 83 y_MM_block ∈ tables_1_19 := List.mem_of_getElem? (i := 145) rfl
theorem pl_63 : Cond.methodLink R_LW 87 y_MM_text ∈ tables_1_19 := List.mem_of_getElem? (i := 149) rfl
theorem pl_64 : Cond.methodLink R_LW 121 y_MM_state ∈ tables_1_19 := List.mem_of_getElem? (i := 153) rfl
theorem pl_65 : Cond.methodLink R_LW 124 y_MM_field ∈ tables_1_19 := List.mem_of_getElem? (i := 157) rfl
theorem pl_66 : Cond.methodLink R_LW 127 y_MM_element ∈ tables_1_19 := List.mem_of_getElem? (i := 161) rfl
theorem pl_67 : Cond.methodLink R_LW 135 y_MM_count ∈ tables_1_19 := List.mem_of_getElem? (i := 165) rfl
theorem pl_68 : Cond.constantLong R_LW 37 (4294967295 : Int64) ∈ tables_1_19 := List.mem_of_getElem? (i := 169) rfl
theorem pm_0 : Cond.initialized R_MM ∈ tables_1_1 := List.mem_of_getElem? (i := 12) rfl
theorem pm_1 : Cond.initialized R_MH ∈ tables_1_1 := List.mem_of_getElem? (i := 16) rfl
theorem pm_2 : Cond.initialized R_MB ∈ tables_1_1 := List.mem_of_getElem? (i := 17) rfl
theorem pm_3 : Cond.initialized R_MI ∈ tables_1_1 := List.mem_of_getElem? (i := 18) rfl
theorem pm_4 : Cond.initialized R_MR ∈ tables_1_1 := List.mem_of_getElem? (i := 19) rfl
theorem pm_5 : Cond.initialized R_ML ∈ tables_1_1 := List.mem_of_getElem? (i := 20) rfl
theorem pm_6 : Cond.initialized "java/lang/String" ∈ tables_1_1 := List.mem_of_getElem? (i := 28) rfl
theorem pm_7 : Cond.initialized R_MX ∈ tables_1_1 := List.mem_of_getElem? (i := 36) rfl
theorem pm_8 : Cond.instanceMethod objectInit ∈ tables_1_1 := List.mem_of_getElem? (i := 45) rfl
theorem pm_9 : Cond.code objectInit ⟨#[0xb1]⟩ 1 none ∈ tables_1_1 := List.mem_of_getElem? (i := 46) rfl
theorem pm_10 : Cond.arrayClass FieldType.byte ∈ tables_1_1 := List.mem_of_getElem? (i := 67) rfl
theorem pm_11 : Cond.arrayClass FieldType.int ∈ tables_1_1 := List.mem_of_getElem? (i := 68) rfl
theorem pm_12 : Cond.arrayClass FieldType.long ∈ tables_1_1 := List.mem_of_getElem? (i := 147) rfl
theorem pm_13 : Cond.instantiable "java/lang/String" 4 ∈ tables_1_5 := List.mem_of_getElem? (i := 148) rfl
theorem pm_14 : Cond.instantiable R_MM 132 ∈ tables_1_12 := List.mem_of_getElem? (i := 9) rfl
theorem pm_15 : Cond.instanceMethod y_MM_init ∈ tables_1_12 := List.mem_of_getElem? (i := 11) rfl
theorem pm_16 : Cond.code y_MM_init b_MM_init 1 none ∈ tables_1_12 := List.mem_of_getElem? (i := 12) rfl
theorem pm_17 : Cond.methodLink R_MM 1 objectInit ∈ tables_1_12 := List.mem_of_getElem? (i := 13) rfl
theorem pm_18 : Cond.classLink R_MM 7 R_MH ∈ tables_1_12 := List.mem_of_getElem? (i := 14) rfl
theorem pm_19 : Cond.instantiable R_MH 8 ∈ tables_1_12 := List.mem_of_getElem? (i := 15) rfl
theorem pm_20 : Cond.instanceMethod y_MH_init ∈ tables_1_12 := List.mem_of_getElem? (i := 24) rfl
theorem pm_21 : Cond.code y_MH_init b_MH_init 1 none ∈ tables_1_12 := List.mem_of_getElem? (i := 25) rfl
theorem pm_22 : Cond.methodLink R_MH 1 ⟨"java/lang/RuntimeException", "<init>", "()V"⟩ ∈ tables_1_12 := List.mem_of_getElem? (i := 26) rfl
theorem pm_23 : Cond.fieldLink R_MH 7 "SourceBackModel$Halt" "number" "I" ∈ tables_1_12 := List.mem_of_getElem? (i := 33) rfl
theorem pm_24 : Cond.fieldLink R_MH 13 "SourceBackModel$Halt" "place" "I" ∈ tables_1_12 := List.mem_of_getElem? (i := 35) rfl
theorem pm_25 : Cond.classLink R_MM 16 R_MB ∈ tables_1_12 := List.mem_of_getElem? (i := 43) rfl
theorem pm_26 : Cond.instantiable R_MB 2 ∈ tables_1_12 := List.mem_of_getElem? (i := 44) rfl
theorem pm_27 : Cond.instanceMethod y_MB_init ∈ tables_1_12 := List.mem_of_getElem? (i := 46) rfl
theorem pm_28 : Cond.code y_MB_init b_MB_init 1 none ∈ tables_1_12 := List.mem_of_getElem? (i := 47) rfl
theorem pm_29 : Cond.methodLink R_MB 1 objectInit ∈ tables_1_12 := List.mem_of_getElem? (i := 48) rfl
theorem pm_30 : Cond.fieldLink R_MB 7 "SourceBackModel$Bytes" "a" "[B" ∈ tables_1_12 := List.mem_of_getElem? (i := 49) rfl
theorem pm_31 : Cond.fieldLink R_MB 13 "SourceBackModel$Bytes" "size" "I" ∈ tables_1_12 := List.mem_of_getElem? (i := 52) rfl
theorem pm_32 : Cond.classLink R_MM 26 R_MI ∈ tables_1_12 := List.mem_of_getElem? (i := 59) rfl
theorem pm_33 : Cond.instantiable R_MI 2 ∈ tables_1_12 := List.mem_of_getElem? (i := 60) rfl
theorem pm_34 : Cond.methodLink R_MM 28 y_MI_init ∈ tables_1_12 := List.mem_of_getElem? (i := 61) rfl
theorem pm_35 : Cond.instanceMethod y_MI_init ∈ tables_1_12 := List.mem_of_getElem? (i := 62) rfl
theorem pm_36 : Cond.code y_MI_init b_MI_init 2 none ∈ tables_1_12 := List.mem_of_getElem? (i := 63) rfl
theorem pm_37 : Cond.methodLink R_MI 1 objectInit ∈ tables_1_12 := List.mem_of_getElem? (i := 64) rfl
theorem pm_38 : Cond.fieldLink R_MI 7 "SourceBackModel$Ints" "a" "[I" ∈ tables_1_12 := List.mem_of_getElem? (i := 65) rfl
theorem pm_39 : Cond.fieldLink R_MI 13 "SourceBackModel$Ints" "size" "I" ∈ tables_1_12 := List.mem_of_getElem? (i := 71) rfl
theorem pm_40 : Cond.classLink R_MM 38 R_MX ∈ tables_1_12 := List.mem_of_getElem? (i := 78) rfl
theorem pm_41 : Cond.classLink R_MM 57 R_MR ∈ tables_1_12 := List.mem_of_getElem? (i := 80) rfl
theorem pm_42 : Cond.instantiable R_MR 24 ∈ tables_1_12 := List.mem_of_getElem? (i := 81) rfl
theorem pm_43 : Cond.methodLink R_MM 59 y_MR_init ∈ tables_1_12 := List.mem_of_getElem? (i := 82) rfl
theorem pm_44 : Cond.instanceMethod y_MR_init ∈ tables_1_12 := List.mem_of_getElem? (i := 83) rfl
theorem pm_45 : Cond.code y_MR_init b_MR_init 3 none ∈ tables_1_12 := List.mem_of_getElem? (i := 84) rfl
theorem pm_46 : Cond.methodLink R_MR 3 objectInit ∈ tables_1_12 := List.mem_of_getElem? (i := 85) rfl
theorem pm_47 : Cond.classLink R_MR 9 R_MI ∈ tables_1_12 := List.mem_of_getElem? (i := 86) rfl
theorem pm_48 : Cond.methodLink R_MR 11 y_MI_init ∈ tables_1_12 := List.mem_of_getElem? (i := 87) rfl
theorem pm_49 : Cond.classLink R_MR 29 R_ML ∈ tables_1_12 := List.mem_of_getElem? (i := 88) rfl
theorem pm_50 : Cond.instantiable R_ML 2 ∈ tables_1_12 := List.mem_of_getElem? (i := 89) rfl
theorem pm_51 : Cond.methodLink R_MR 31 y_ML_init ∈ tables_1_12 := List.mem_of_getElem? (i := 90) rfl
theorem pm_52 : Cond.instanceMethod y_ML_init ∈ tables_1_12 := List.mem_of_getElem? (i := 91) rfl
theorem pm_53 : Cond.code y_ML_init b_ML_init 2 none ∈ tables_1_12 := List.mem_of_getElem? (i := 92) rfl
theorem pm_54 : Cond.methodLink R_ML 1 objectInit ∈ tables_1_12 := List.mem_of_getElem? (i := 93) rfl
theorem pm_55 : Cond.fieldLink R_ML 7 "SourceBackModel$Longs" "a" "[J" ∈ tables_1_12 := List.mem_of_getElem? (i := 94) rfl
theorem pm_56 : Cond.fieldLink R_ML 13 "SourceBackModel$Longs" "size" "I" ∈ tables_1_12 := List.mem_of_getElem? (i := 99) rfl
theorem pm_57 : Cond.fieldLink R_MR 14 "SourceBackModel$Member" "at" "LSourceBackModel$Ints;" ∈ tables_1_12 := List.mem_of_getElem? (i := 119) rfl
theorem pm_58 : Cond.fieldLink R_MR 20 "SourceBackModel$Member" "op" "LSourceBackModel$Ints;" ∈ tables_1_12 := List.mem_of_getElem? (i := 121) rfl
theorem pm_59 : Cond.fieldLink R_MR 23 "SourceBackModel$Member" "a" "LSourceBackModel$Ints;" ∈ tables_1_12 := List.mem_of_getElem? (i := 123) rfl
theorem pm_60 : Cond.fieldLink R_MR 26 "SourceBackModel$Member" "b" "LSourceBackModel$Ints;" ∈ tables_1_12 := List.mem_of_getElem? (i := 125) rfl
theorem pm_61 : Cond.fieldLink R_MR 32 "SourceBackModel$Member" "v" "LSourceBackModel$Longs;" ∈ tables_1_12 := List.mem_of_getElem? (i := 127) rfl
theorem pm_62 : Cond.fieldLink R_MR 36 "SourceBackModel$Member" "owner" "LSourceBackModel$Ints;" ∈ tables_1_12 := List.mem_of_getElem? (i := 129) rfl
theorem pm_63 : Cond.fieldLink R_MR 39 "SourceBackModel$Member" "of" "LSourceBackModel$Ints;" ∈ tables_1_12 := List.mem_of_getElem? (i := 131) rfl
theorem pm_64 : Cond.fieldLink R_MR 42 "SourceBackModel$Member" "sort" "LSourceBackModel$Ints;" ∈ tables_1_12 := List.mem_of_getElem? (i := 133) rfl
theorem pm_65 : Cond.fieldLink R_MR 45 "SourceBackModel$Member" "key" "LSourceBackModel$Longs;" ∈ tables_1_12 := List.mem_of_getElem? (i := 135) rfl
theorem pm_66 : Cond.fieldLink R_MR 48 "SourceBackModel$Member" "end" "LSourceBackModel$Ints;" ∈ tables_1_12 := List.mem_of_getElem? (i := 137) rfl
theorem pm_67 : Cond.constant R_MM 66 (240000 : Int32) ∈ tables_1_12 := List.mem_of_getElem? (i := 196) rfl
theorem pm_68 : Cond.constant R_MM 71 (244000 : Int32) ∈ tables_1_12 := List.mem_of_getElem? (i := 197) rfl
theorem pm_69 : Cond.classLink R_MM 139 R_ML ∈ tables_1_12 := List.mem_of_getElem? (i := 198) rfl
theorem pm_70 : Cond.methodLink R_MM 141 y_ML_init ∈ tables_1_12 := List.mem_of_getElem? (i := 199) rfl
theorem pm_71 : Cond.classLink R_MM 209 "java/lang/String" ∈ tables_1_12 := List.mem_of_getElem? (i := 200) rfl
theorem pm_72 : Cond.constant R_MM 314 (80000 : Int32) ∈ tables_1_12 := List.mem_of_getElem? (i := 218) rfl
theorem pm_73 : Cond.fieldLink R_MM 343 "SourceBackModel" "thrown" "I" ∈ tables_1_12 := List.mem_of_getElem? (i := 220) rfl
theorem pm_74 : Cond.fieldLink R_MM 10 "SourceBackModel" "halt" "LSourceBackModel$Halt;" ∈ tables_1_12 := List.mem_of_getElem? (i := 221) rfl
theorem pm_75 : Cond.fieldLink R_MM 19 "SourceBackModel" "tape" "LSourceBackModel$Bytes;" ∈ tables_1_12 := List.mem_of_getElem? (i := 222) rfl
theorem pm_76 : Cond.fieldLink R_MM 23 "SourceBackModel" "letters" "LSourceBackModel$Bytes;" ∈ tables_1_12 := List.mem_of_getElem? (i := 223) rfl
theorem pm_77 : Cond.fieldLink R_MM 31 "SourceBackModel" "wordFrom" "LSourceBackModel$Ints;" ∈ tables_1_12 := List.mem_of_getElem? (i := 224) rfl
theorem pm_78 : Cond.fieldLink R_MM 35 "SourceBackModel" "wordSize" "LSourceBackModel$Ints;" ∈ tables_1_12 := List.mem_of_getElem? (i := 225) rfl
theorem pm_79 : Cond.fieldLink R_MM 390 "SourceBackModel" "size" "I" ∈ tables_1_12 := List.mem_of_getElem? (i := 226) rfl
theorem pm_80 : Cond.fieldLink R_MM 387 "SourceBackModel" "at" "I" ∈ tables_1_12 := List.mem_of_getElem? (i := 227) rfl
theorem pm_81 : Cond.fieldLink R_MM 410 "SourceBackModel" "count" "I" ∈ tables_1_12 := List.mem_of_getElem? (i := 228) rfl
theorem pm_82 : Cond.fieldLink R_MM 40 "SourceBackModel" "files" "[LSourceBackModel$Box;" ∈ tables_1_12 := List.mem_of_getElem? (i := 229) rfl
theorem pm_83 : Cond.fieldLink R_MM 44 "SourceBackModel" "older" "[LSourceBackModel$Box;" ∈ tables_1_12 := List.mem_of_getElem? (i := 230) rfl
theorem pm_84 : Cond.fieldLink R_MM 47 "SourceBackModel" "edits" "[I" ∈ tables_1_12 := List.mem_of_getElem? (i := 231) rfl
theorem pm_85 : Cond.fieldLink R_MM 51 "SourceBackModel" "spares" "[LSourceBackModel$Box;" ∈ tables_1_12 := List.mem_of_getElem? (i := 232) rfl
theorem pm_86 : Cond.fieldLink R_MM 403 "SourceBackModel" "spareCount" "I" ∈ tables_1_12 := List.mem_of_getElem? (i := 233) rfl
theorem pm_87 : Cond.fieldLink R_MM 417 "SourceBackModel" "box" "LSourceBackModel$Box;" ∈ tables_1_12 := List.mem_of_getElem? (i := 234) rfl
theorem pm_88 : Cond.fieldLink R_MM 54 "SourceBackModel" "places" "LSourceBackModel$Ints;" ∈ tables_1_12 := List.mem_of_getElem? (i := 235) rfl
theorem pm_89 : Cond.fieldLink R_MM 498 "SourceBackModel" "nameAt" "I" ∈ tables_1_12 := List.mem_of_getElem? (i := 236) rfl
theorem pm_90 : Cond.fieldLink R_MM 62 "SourceBackModel" "reading" "LSourceBackModel$Member;" ∈ tables_1_12 := List.mem_of_getElem? (i := 237) rfl
theorem pm_91 : Cond.fieldLink R_MM 67 "SourceBackModel" "localKind" "[B" ∈ tables_1_12 := List.mem_of_getElem? (i := 238) rfl
theorem pm_92 : Cond.fieldLink R_MM 72 "SourceBackModel" "pileKind" "[B" ∈ tables_1_12 := List.mem_of_getElem? (i := 239) rfl
theorem pm_93 : Cond.fieldLink R_MM 75 "SourceBackModel" "depth" "[I" ∈ tables_1_13 := List.mem_of_getElem? (i := 0) rfl
theorem pm_94 : Cond.fieldLink R_MM 78 "SourceBackModel" "nowLocal" "[B" ∈ tables_1_13 := List.mem_of_getElem? (i := 1) rfl
theorem pm_95 : Cond.fieldLink R_MM 81 "SourceBackModel" "nowPile" "[B" ∈ tables_1_13 := List.mem_of_getElem? (i := 2) rfl
theorem pm_96 : Cond.fieldLink R_MM 712 "SourceBackModel" "blocks" "I" ∈ tables_1_13 := List.mem_of_getElem? (i := 6) rfl
theorem pm_97 : Cond.fieldLink R_MM 84 "SourceBackModel" "begins" "[Z" ∈ tables_1_13 := List.mem_of_getElem? (i := 7) rfl
theorem pm_98 : Cond.fieldLink R_MM 88 "SourceBackModel" "order" "[I" ∈ tables_1_13 := List.mem_of_getElem? (i := 8) rfl
theorem pm_99 : Cond.fieldLink R_MM 91 "SourceBackModel" "first" "[I" ∈ tables_1_13 := List.mem_of_getElem? (i := 9) rfl
theorem pm_100 : Cond.fieldLink R_MM 94 "SourceBackModel" "last" "[I" ∈ tables_1_13 := List.mem_of_getElem? (i := 10) rfl
theorem pm_101 : Cond.fieldLink R_MM 97 "SourceBackModel" "parent" "[I" ∈ tables_1_13 := List.mem_of_getElem? (i := 11) rfl
theorem pm_102 : Cond.fieldLink R_MM 100 "SourceBackModel" "isHead" "[Z" ∈ tables_1_13 := List.mem_of_getElem? (i := 12) rfl
theorem pm_103 : Cond.fieldLink R_MM 103 "SourceBackModel" "isMet" "[Z" ∈ tables_1_13 := List.mem_of_getElem? (i := 13) rfl
theorem pm_104 : Cond.fieldLink R_MM 106 "SourceBackModel" "wayFrom" "[I" ∈ tables_1_13 := List.mem_of_getElem? (i := 15) rfl
theorem pm_105 : Cond.fieldLink R_MM 109 "SourceBackModel" "ways" "LSourceBackModel$Ints;" ∈ tables_1_13 := List.mem_of_getElem? (i := 16) rfl
theorem pm_106 : Cond.fieldLink R_MM 112 "SourceBackModel" "some" "LSourceBackModel$Ints;" ∈ tables_1_13 := List.mem_of_getElem? (i := 17) rfl
theorem pm_107 : Cond.fieldLink R_MM 115 "SourceBackModel" "stack" "LSourceBackModel$Ints;" ∈ tables_1_13 := List.mem_of_getElem? (i := 18) rfl
theorem pm_108 : Cond.fieldLink R_MM 118 "SourceBackModel" "left" "LSourceBackModel$Ints;" ∈ tables_1_13 := List.mem_of_getElem? (i := 19) rfl
theorem pm_109 : Cond.fieldLink R_MM 121 "SourceBackModel" "stackWay" "LSourceBackModel$Ints;" ∈ tables_1_13 := List.mem_of_getElem? (i := 20) rfl
theorem pm_110 : Cond.fieldLink R_MM 124 "SourceBackModel" "stackOf" "[I" ∈ tables_1_13 := List.mem_of_getElem? (i := 21) rfl
theorem pm_111 : Cond.fieldLink R_MM 127 "SourceBackModel" "termSort" "LSourceBackModel$Ints;" ∈ tables_1_13 := List.mem_of_getElem? (i := 22) rfl
theorem pm_112 : Cond.fieldLink R_MM 130 "SourceBackModel" "termA" "LSourceBackModel$Ints;" ∈ tables_1_13 := List.mem_of_getElem? (i := 23) rfl
theorem pm_113 : Cond.fieldLink R_MM 133 "SourceBackModel" "termB" "LSourceBackModel$Ints;" ∈ tables_1_13 := List.mem_of_getElem? (i := 24) rfl
theorem pm_114 : Cond.fieldLink R_MM 136 "SourceBackModel" "termC" "LSourceBackModel$Ints;" ∈ tables_1_13 := List.mem_of_getElem? (i := 25) rfl
theorem pm_115 : Cond.fieldLink R_MM 142 "SourceBackModel" "termV" "LSourceBackModel$Longs;" ∈ tables_1_13 := List.mem_of_getElem? (i := 26) rfl
theorem pm_116 : Cond.fieldLink R_MM 146 "SourceBackModel" "parts" "LSourceBackModel$Ints;" ∈ tables_1_13 := List.mem_of_getElem? (i := 27) rfl
theorem pm_117 : Cond.fieldLink R_MM 149 "SourceBackModel" "sort" "LSourceBackModel$Ints;" ∈ tables_1_13 := List.mem_of_getElem? (i := 28) rfl
theorem pm_118 : Cond.fieldLink R_MM 152 "SourceBackModel" "label" "LSourceBackModel$Ints;" ∈ tables_1_13 := List.mem_of_getElem? (i := 29) rfl
theorem pm_119 : Cond.fieldLink R_MM 155 "SourceBackModel" "sa" "LSourceBackModel$Ints;" ∈ tables_1_13 := List.mem_of_getElem? (i := 30) rfl
theorem pm_120 : Cond.fieldLink R_MM 158 "SourceBackModel" "sb" "LSourceBackModel$Ints;" ∈ tables_1_13 := List.mem_of_getElem? (i := 31) rfl
theorem pm_121 : Cond.fieldLink R_MM 161 "SourceBackModel" "sc" "LSourceBackModel$Ints;" ∈ tables_1_13 := List.mem_of_getElem? (i := 32) rfl
theorem pm_122 : Cond.fieldLink R_MM 164 "SourceBackModel" "sv" "LSourceBackModel$Longs;" ∈ tables_1_13 := List.mem_of_getElem? (i := 33) rfl
theorem pm_123 : Cond.fieldLink R_MM 167 "SourceBackModel" "body" "LSourceBackModel$Ints;" ∈ tables_1_13 := List.mem_of_getElem? (i := 34) rfl
theorem pm_124 : Cond.fieldLink R_MM 170 "SourceBackModel" "other" "LSourceBackModel$Ints;" ∈ tables_1_13 := List.mem_of_getElem? (i := 35) rfl
theorem pm_125 : Cond.fieldLink R_MM 173 "SourceBackModel" "next" "LSourceBackModel$Ints;" ∈ tables_1_13 := List.mem_of_getElem? (i := 36) rfl
theorem pm_126 : Cond.fieldLink R_MM 176 "SourceBackModel" "caseFrom" "LSourceBackModel$Ints;" ∈ tables_1_13 := List.mem_of_getElem? (i := 37) rfl
theorem pm_127 : Cond.fieldLink R_MM 179 "SourceBackModel" "caseMany" "LSourceBackModel$Ints;" ∈ tables_1_13 := List.mem_of_getElem? (i := 38) rfl
theorem pm_128 : Cond.fieldLink R_MM 182 "SourceBackModel" "caseBody" "LSourceBackModel$Ints;" ∈ tables_1_13 := List.mem_of_getElem? (i := 39) rfl
theorem pm_129 : Cond.fieldLink R_MM 185 "SourceBackModel" "caseNext" "LSourceBackModel$Ints;" ∈ tables_1_13 := List.mem_of_getElem? (i := 40) rfl
theorem pm_130 : Cond.fieldLink R_MM 188 "SourceBackModel" "caseKey" "LSourceBackModel$Longs;" ∈ tables_1_13 := List.mem_of_getElem? (i := 41) rfl
theorem pm_131 : Cond.fieldLink R_MM 191 "SourceBackModel" "pile" "[I" ∈ tables_1_13 := List.mem_of_getElem? (i := 44) rfl
theorem pm_132 : Cond.fieldLink R_MM 760 "SourceBackModel" "high" "I" ∈ tables_1_13 := List.mem_of_getElem? (i := 45) rfl
theorem pm_133 : Cond.fieldLink R_MM 194 "SourceBackModel" "lists" "LSourceBackModel$Ints;" ∈ tables_1_13 := List.mem_of_getElem? (i := 48) rfl
theorem pm_134 : Cond.fieldLink R_MM 197 "SourceBackModel" "tasks" "LSourceBackModel$Ints;" ∈ tables_1_13 := List.mem_of_getElem? (i := 50) rfl
theorem pm_135 : Cond.fieldLink R_MM 200 "SourceBackModel" "hasLocal" "[Z" ∈ tables_1_13 := List.mem_of_getElem? (i := 51) rfl
theorem pm_136 : Cond.fieldLink R_MM 203 "SourceBackModel" "seenTemporary" "LSourceBackModel$Ints;" ∈ tables_1_13 := List.mem_of_getElem? (i := 54) rfl
theorem pm_137 : Cond.fieldLink R_MM 206 "SourceBackModel" "seenArray" "LSourceBackModel$Ints;" ∈ tables_1_13 := List.mem_of_getElem? (i := 55) rfl
theorem pm_138 : Cond.fieldLink R_MM 231 "SourceBackModel" "signWords" "[Ljava/lang/String;" ∈ tables_1_13 := List.mem_of_getElem? (i := 56) rfl
theorem pm_139 : Cond.fieldLink R_MM 247 "SourceBackModel" "comparedWords" "[Ljava/lang/String;" ∈ tables_1_13 := List.mem_of_getElem? (i := 58) rfl
theorem pm_140 : Cond.fieldLink R_MM 250 "SourceBackModel" "variableWord" "[I" ∈ tables_1_13 := List.mem_of_getElem? (i := 68) rfl
theorem pm_141 : Cond.fieldLink R_MM 253 "SourceBackModel" "variableKind" "[I" ∈ tables_1_13 := List.mem_of_getElem? (i := 69) rfl
theorem pm_142 : Cond.fieldLink R_MM 256 "SourceBackModel" "labelWord" "[I" ∈ tables_1_13 := List.mem_of_getElem? (i := 71) rfl
theorem pm_143 : Cond.fieldLink R_MM 259 "SourceBackModel" "isLoop" "[Z" ∈ tables_1_13 := List.mem_of_getElem? (i := 72) rfl
theorem pm_144 : Cond.fieldLink R_MM 262 "SourceBackModel" "loopBegin" "[I" ∈ tables_1_13 := List.mem_of_getElem? (i := 73) rfl
theorem pm_145 : Cond.fieldLink R_MM 265 "SourceBackModel" "breakChain" "[I" ∈ tables_1_13 := List.mem_of_getElem? (i := 74) rfl
theorem pm_146 : Cond.fieldLink R_MM 268 "SourceBackModel" "keys" "LSourceBackModel$Longs;" ∈ tables_1_13 := List.mem_of_getElem? (i := 81) rfl
theorem pm_147 : Cond.fieldLink R_MM 271 "SourceBackModel" "keyEnds" "LSourceBackModel$Ints;" ∈ tables_1_13 := List.mem_of_getElem? (i := 82) rfl
theorem pm_148 : Cond.fieldLink R_MM 1345 "SourceBackModel" "firstPlace" "I" ∈ tables_1_13 := List.mem_of_getElem? (i := 83) rfl
theorem pm_149 : Cond.fieldLink R_MM 274 "SourceBackModel" "draftMember" "LSourceBackModel$Member;" ∈ tables_1_13 := List.mem_of_getElem? (i := 84) rfl
theorem pm_150 : Cond.fieldLink R_MM 277 "SourceBackModel" "draft" "LSourceBackModel$Bytes;" ∈ tables_1_13 := List.mem_of_getElem? (i := 86) rfl
theorem pm_151 : Cond.fieldLink R_MM 280 "SourceBackModel" "assembled" "LSourceBackModel$Bytes;" ∈ tables_1_13 := List.mem_of_getElem? (i := 87) rfl
theorem pm_152 : Cond.fieldLink R_MM 283 "SourceBackModel" "phase" "[I" ∈ tables_1_13 := List.mem_of_getElem? (i := 88) rfl
theorem pm_153 : Cond.fieldLink R_MM 286 "SourceBackModel" "came" "[J" ∈ tables_1_13 := List.mem_of_getElem? (i := 89) rfl
theorem pm_154 : Cond.fieldLink R_MM 290 "SourceBackModel" "failure" "[I" ∈ tables_1_13 := List.mem_of_getElem? (i := 90) rfl
theorem pm_155 : Cond.fieldLink R_MM 293 "SourceBackModel" "failNumber" "[J" ∈ tables_1_13 := List.mem_of_getElem? (i := 91) rfl
theorem pm_156 : Cond.fieldLink R_MM 296 "SourceBackModel" "done" "[J" ∈ tables_1_13 := List.mem_of_getElem? (i := 92) rfl
theorem pm_157 : Cond.fieldLink R_MM 1488 "SourceBackModel" "begun" "I" ∈ tables_1_13 := List.mem_of_getElem? (i := 93) rfl
theorem pm_158 : Cond.fieldLink R_MM 299 "SourceBackModel" "fieldValue" "[J" ∈ tables_1_13 := List.mem_of_getElem? (i := 94) rfl
theorem pm_159 : Cond.fieldLink R_MM 302 "SourceBackModel" "arrayCount" "[I" ∈ tables_1_13 := List.mem_of_getElem? (i := 95) rfl
theorem pm_160 : Cond.fieldLink R_MM 305 "SourceBackModel" "elementCount" "[I" ∈ tables_1_13 := List.mem_of_getElem? (i := 96) rfl
theorem pm_161 : Cond.fieldLink R_MM 308 "SourceBackModel" "arrayFrom" "[I" ∈ tables_1_13 := List.mem_of_getElem? (i := 97) rfl
theorem pm_162 : Cond.fieldLink R_MM 311 "SourceBackModel" "arraySize" "[I" ∈ tables_1_13 := List.mem_of_getElem? (i := 98) rfl
theorem pm_163 : Cond.fieldLink R_MM 315 "SourceBackModel" "elements" "[J" ∈ tables_1_13 := List.mem_of_getElem? (i := 99) rfl
theorem pm_164 : Cond.fieldLink R_MM 318 "SourceBackModel" "frames" "[I" ∈ tables_1_13 := List.mem_of_getElem? (i := 100) rfl
theorem pm_165 : Cond.fieldLink R_MM 321 "SourceBackModel" "frameFile" "[I" ∈ tables_1_13 := List.mem_of_getElem? (i := 101) rfl
theorem pm_166 : Cond.fieldLink R_MM 324 "SourceBackModel" "frameMember" "[I" ∈ tables_1_13 := List.mem_of_getElem? (i := 102) rfl
theorem pm_167 : Cond.fieldLink R_MM 327 "SourceBackModel" "frameCode" "[LSourceBackModel$Member;" ∈ tables_1_13 := List.mem_of_getElem? (i := 103) rfl
theorem pm_168 : Cond.fieldLink R_MM 331 "SourceBackModel" "frameAct" "[I" ∈ tables_1_13 := List.mem_of_getElem? (i := 104) rfl
theorem pm_169 : Cond.fieldLink R_MM 334 "SourceBackModel" "frameHigh" "[I" ∈ tables_1_13 := List.mem_of_getElem? (i := 105) rfl
theorem pm_170 : Cond.fieldLink R_MM 337 "SourceBackModel" "frameLocal" "[J" ∈ tables_1_13 := List.mem_of_getElem? (i := 106) rfl
theorem pm_171 : Cond.fieldLink R_MM 340 "SourceBackModel" "framePile" "[J" ∈ tables_1_13 := List.mem_of_getElem? (i := 107) rfl
theorem pm_172 : Cond.fieldLink R_MM 1476 "SourceBackModel" "side" "I" ∈ tables_1_13 := List.mem_of_getElem? (i := 108) rfl
theorem pm_173 : Cond.fieldLink R_MM 1482 "SourceBackModel" "top" "I" ∈ tables_1_13 := List.mem_of_getElem? (i := 109) rfl
theorem pm_174 : Cond.arrayClass FieldType.boolean ∈ tables_1_14 := List.mem_of_getElem? (i := 135) rfl
theorem pm_175 : Cond.instanceMethod y_MM_thrown ∈ tables_1_14 := List.mem_of_getElem? (i := 137) rfl
theorem pm_176 : Cond.selects R_MM y_MM_thrown y_MM_thrown ∈ tables_1_14 := List.mem_of_getElem? (i := 138) rfl
theorem pm_177 : Cond.code y_MM_thrown b_MM_thrown 1 (some (.int)) ∈ tables_1_14 := List.mem_of_getElem? (i := 139) rfl
theorem pm_178 : Cond.instanceMethod y_MM_feed ∈ tables_1_14 := List.mem_of_getElem? (i := 141) rfl
theorem pm_179 : Cond.selects R_MM y_MM_feed y_MM_feed ∈ tables_1_14 := List.mem_of_getElem? (i := 142) rfl
theorem pm_180 : Cond.code y_MM_feed b_MM_feed 4 (some (.int)) ∈ tables_1_14 := List.mem_of_getElem? (i := 143) rfl
theorem pm_181 : Cond.constantLong R_MM 347 (8 : Int64) ∈ tables_1_14 := List.mem_of_getElem? (i := 144) rfl
theorem pm_182 : Cond.methodLink R_MM 349 y_MM_in ∈ tables_1_14 := List.mem_of_getElem? (i := 145) rfl
theorem pm_183 : Cond.static y_MM_in ∈ tables_1_14 := List.mem_of_getElem? (i := 146) rfl
theorem pm_184 : Cond.code y_MM_in b_MM_in 6 (some (.boolean)) ∈ tables_1_14 := List.mem_of_getElem? (i := 147) rfl
theorem pm_185 : Cond.constant R_MM 356 (65536 : Int32) ∈ tables_1_14 := List.mem_of_getElem? (i := 148) rfl
theorem pm_186 : Cond.methodLink R_MM 357 y_MB_addLong ∈ tables_1_14 := List.mem_of_getElem? (i := 149) rfl
theorem pm_187 : Cond.instanceMethod y_MB_addLong ∈ tables_1_14 := List.mem_of_getElem? (i := 150) rfl
theorem pm_188 : Cond.selects R_MB y_MB_addLong y_MB_addLong ∈ tables_1_14 := List.mem_of_getElem? (i := 151) rfl
theorem pm_189 : Cond.code y_MB_addLong b_MB_addLong 5 none ∈ tables_1_14 := List.mem_of_getElem? (i := 152) rfl
theorem pm_190 : Cond.methodLink R_MB 17 y_MB_add ∈ tables_1_14 := List.mem_of_getElem? (i := 153) rfl
theorem pm_191 : Cond.instanceMethod y_MB_add ∈ tables_1_14 := List.mem_of_getElem? (i := 154) rfl
theorem pm_192 : Cond.selects R_MB y_MB_add y_MB_add ∈ tables_1_14 := List.mem_of_getElem? (i := 155) rfl
theorem pm_193 : Cond.code y_MB_add b_MB_add 4 none ∈ tables_1_14 := List.mem_of_getElem? (i := 156) rfl
theorem pm_194 : Cond.instanceMethod y_MM_take ∈ tables_1_14 := List.mem_of_getElem? (i := 158) rfl
theorem pm_195 : Cond.selects R_MM y_MM_take y_MM_take ∈ tables_1_14 := List.mem_of_getElem? (i := 159) rfl
theorem pm_196 : Cond.codeWith y_MM_take b_MM_take 3 (some (.int)) [(18, 126, 129, 7)] ∈ tables_1_14 := List.mem_of_getElem? (i := 160) rfl
theorem pm_197 : Cond.methodLink R_MM 413 y_MM_newBox ∈ tables_1_14 := List.mem_of_getElem? (i := 161) rfl
theorem pm_198 : Cond.instanceMethod y_MM_newBox ∈ tables_1_14 := List.mem_of_getElem? (i := 163) rfl
theorem pm_199 : Cond.code y_MM_newBox b_MM_newBox 2 (some (.object "SourceBackModel$Box")) ∈ tables_1_14 := List.mem_of_getElem? (i := 164) rfl
theorem pm_200 : Cond.methodLink R_MM 406 y_MX_clear ∈ tables_1_14 := List.mem_of_getElem? (i := 165) rfl
theorem pm_201 : Cond.instanceMethod y_MX_clear ∈ tables_1_14 := List.mem_of_getElem? (i := 166) rfl
theorem pm_202 : Cond.selects R_MX y_MX_clear y_MX_clear ∈ tables_1_14 := List.mem_of_getElem? (i := 167) rfl
theorem pm_203 : Cond.code y_MX_clear b_MX_clear 1 none ∈ tables_1_14 := List.mem_of_getElem? (i := 168) rfl
theorem pm_204 : Cond.methodLink R_MX 71 y_MX_add ∈ tables_1_14 := List.mem_of_getElem? (i := 169) rfl
theorem pm_205 : Cond.instanceMethod y_MX_add ∈ tables_1_14 := List.mem_of_getElem? (i := 170) rfl
theorem pm_206 : Cond.selects R_MX y_MX_add y_MX_add ∈ tables_1_14 := List.mem_of_getElem? (i := 171) rfl
theorem pm_207 : Cond.code y_MX_add b_MX_add 2 (some (.int)) ∈ tables_1_14 := List.mem_of_getElem? (i := 172) rfl
theorem pm_208 : Cond.methodLink R_MX 75 y_MI_add ∈ tables_1_14 := List.mem_of_getElem? (i := 173) rfl
theorem pm_209 : Cond.instanceMethod y_MI_add ∈ tables_1_14 := List.mem_of_getElem? (i := 174) rfl
theorem pm_210 : Cond.selects R_MI y_MI_add y_MI_add ∈ tables_1_14 := List.mem_of_getElem? (i := 175) rfl
theorem pm_211 : Cond.code y_MI_add b_MI_add 4 none ∈ tables_1_14 := List.mem_of_getElem? (i := 176) rfl
theorem pm_212 : Cond.methodLink R_MX 77 y_ML_add ∈ tables_1_14 := List.mem_of_getElem? (i := 177) rfl
theorem pm_213 : Cond.instanceMethod y_ML_add ∈ tables_1_14 := List.mem_of_getElem? (i := 178) rfl
theorem pm_214 : Cond.selects R_ML y_ML_add y_ML_add ∈ tables_1_14 := List.mem_of_getElem? (i := 179) rfl
theorem pm_215 : Cond.code y_ML_add b_ML_add 5 none ∈ tables_1_14 := List.mem_of_getElem? (i := 180) rfl
theorem pm_216 : Cond.instantiable R_MX 15 ∈ tables_1_14 := List.mem_of_getElem? (i := 181) rfl
theorem pm_217 : Cond.instanceMethod y_MX_init ∈ tables_1_14 := List.mem_of_getElem? (i := 183) rfl
theorem pm_218 : Cond.code y_MX_init b_MX_init 1 none ∈ tables_1_14 := List.mem_of_getElem? (i := 184) rfl
theorem pm_219 : Cond.methodLink R_MX 3 objectInit ∈ tables_1_14 := List.mem_of_getElem? (i := 185) rfl
theorem pm_220 : Cond.classLink R_MX 9 R_MB ∈ tables_1_14 := List.mem_of_getElem? (i := 186) rfl
theorem pm_221 : Cond.classLink R_MX 18 R_MI ∈ tables_1_14 := List.mem_of_getElem? (i := 188) rfl
theorem pm_222 : Cond.methodLink R_MX 20 y_MI_init ∈ tables_1_14 := List.mem_of_getElem? (i := 189) rfl
theorem pm_223 : Cond.classLink R_MX 39 R_ML ∈ tables_1_14 := List.mem_of_getElem? (i := 190) rfl
theorem pm_224 : Cond.methodLink R_MX 41 y_ML_init ∈ tables_1_14 := List.mem_of_getElem? (i := 191) rfl
theorem pm_225 : Cond.classLink R_MX 52 R_MR ∈ tables_1_14 := List.mem_of_getElem? (i := 192) rfl
theorem pm_226 : Cond.fieldLink R_MX 12 "SourceBackModel$Box" "bytes" "LSourceBackModel$Bytes;" ∈ tables_1_14 := List.mem_of_getElem? (i := 193) rfl
theorem pm_227 : Cond.fieldLink R_MX 23 "SourceBackModel$Box" "tag" "LSourceBackModel$Ints;" ∈ tables_1_14 := List.mem_of_getElem? (i := 199) rfl
theorem pm_228 : Cond.fieldLink R_MX 27 "SourceBackModel$Box" "word" "LSourceBackModel$Ints;" ∈ tables_1_14 := List.mem_of_getElem? (i := 201) rfl
theorem pm_229 : Cond.fieldLink R_MX 30 "SourceBackModel$Box" "owner" "LSourceBackModel$Ints;" ∈ tables_1_14 := List.mem_of_getElem? (i := 203) rfl
theorem pm_230 : Cond.fieldLink R_MX 33 "SourceBackModel$Box" "name" "LSourceBackModel$Ints;" ∈ tables_1_14 := List.mem_of_getElem? (i := 205) rfl
theorem pm_231 : Cond.fieldLink R_MX 36 "SourceBackModel$Box" "sort" "LSourceBackModel$Ints;" ∈ tables_1_14 := List.mem_of_getElem? (i := 207) rfl
theorem pm_232 : Cond.fieldLink R_MX 42 "SourceBackModel$Box" "number" "LSourceBackModel$Longs;" ∈ tables_1_14 := List.mem_of_getElem? (i := 209) rfl
theorem pm_233 : Cond.fieldLink R_MX 46 "SourceBackModel$Box" "fields" "LSourceBackModel$Ints;" ∈ tables_1_14 := List.mem_of_getElem? (i := 211) rfl
theorem pm_234 : Cond.fieldLink R_MX 49 "SourceBackModel$Box" "entryOf" "LSourceBackModel$Ints;" ∈ tables_1_14 := List.mem_of_getElem? (i := 213) rfl
theorem pm_235 : Cond.fieldLink R_MX 54 "SourceBackModel$Box" "members" "[LSourceBackModel$Member;" ∈ tables_1_14 := List.mem_of_getElem? (i := 215) rfl
theorem pm_236 : Cond.fieldLink R_MX 64 "SourceBackModel$Box" "memberCount" "I" ∈ tables_1_14 := List.mem_of_getElem? (i := 217) rfl
theorem pm_237 : Cond.fieldLink R_MX 67 "SourceBackModel$Box" "hasMade" "Z" ∈ tables_1_14 := List.mem_of_getElem? (i := 219) rfl
theorem pm_238 : Cond.methodLink R_MM 391 y_MM_must ∈ tables_1_15 := List.mem_of_getElem? (i := 13) rfl
theorem pm_239 : Cond.instanceMethod y_MM_must ∈ tables_1_15 := List.mem_of_getElem? (i := 15) rfl
theorem pm_240 : Cond.code y_MM_must b_MM_must 4 none ∈ tables_1_15 := List.mem_of_getElem? (i := 16) rfl
theorem pm_241 : Cond.methodLink R_MM 383 y_MH_of ∈ tables_1_15 := List.mem_of_getElem? (i := 17) rfl
theorem pm_242 : Cond.instanceMethod y_MH_of ∈ tables_1_15 := List.mem_of_getElem? (i := 18) rfl
theorem pm_243 : Cond.selects R_MH y_MH_of y_MH_of ∈ tables_1_15 := List.mem_of_getElem? (i := 19) rfl
theorem pm_244 : Cond.code y_MH_of b_MH_of 3 (some (.object "SourceBackModel$Halt")) ∈ tables_1_15 := List.mem_of_getElem? (i := 20) rfl
theorem pm_245 : Cond.methodLink R_MM 421 y_MM_readsFile ∈ tables_1_15 := List.mem_of_getElem? (i := 21) rfl
theorem pm_246 : Cond.instanceMethod y_MM_readsFile ∈ tables_1_15 := List.mem_of_getElem? (i := 23) rfl
theorem pm_247 : Cond.code y_MM_readsFile b_MM_readsFile 5 none ∈ tables_1_15 := List.mem_of_getElem? (i := 24) rfl
theorem pm_248 : Cond.methodLink R_MM 399 y_MM_reads ∈ tables_1_15 := List.mem_of_getElem? (i := 25) rfl
theorem pm_249 : Cond.instanceMethod y_MM_reads ∈ tables_1_15 := List.mem_of_getElem? (i := 27) rfl
theorem pm_250 : Cond.code y_MM_reads b_MM_reads 5 (some (.long)) ∈ tables_1_15 := List.mem_of_getElem? (i := 28) rfl
theorem pm_251 : Cond.constantLong R_MM 450 (2953310494 : Int64) ∈ tables_1_15 := List.mem_of_getElem? (i := 33) rfl
theorem pm_252 : Cond.constantLong R_MM 459 (9 : Int64) ∈ tables_1_15 := List.mem_of_getElem? (i := 38) rfl
theorem pm_253 : Cond.constantLong R_MM 461 (2000 : Int64) ∈ tables_1_15 := List.mem_of_getElem? (i := 39) rfl
theorem pm_254 : Cond.methodLink R_MM 367 y_MI_add ∈ tables_1_15 := List.mem_of_getElem? (i := 40) rfl
theorem pm_255 : Cond.constantLong R_MM 580 (4000 : Int64) ∈ tables_1_15 := List.mem_of_getElem? (i := 124) rfl
theorem pm_256 : Cond.instanceMethod y_MM_act_1 ∈ tables_1_16 := List.mem_of_getElem? (i := 111) rfl
theorem pm_257 : Cond.code y_MM_act_1 b_MM_act_1 8 none ∈ tables_1_16 := List.mem_of_getElem? (i := 112) rfl
theorem pm_258 : Cond.instanceMethod y_MM_member_0 ∈ tables_1_18 := List.mem_of_getElem? (i := 39) rfl
theorem pm_259 : Cond.code y_MM_member_0 b_MM_member_0 6 (some (.int)) ∈ tables_1_18 := List.mem_of_getElem? (i := 40) rfl
theorem pm_260 : Cond.methodLink R_MM 438 y_MM_settles ∈ tables_1_19 := List.mem_of_getElem? (i := 0) rfl
theorem pm_261 : Cond.instanceMethod y_MM_settles ∈ tables_1_19 := List.mem_of_getElem? (i := 2) rfl
theorem pm_262 : Cond.code y_MM_settles b_MM_settles 4 none ∈ tables_1_19 := List.mem_of_getElem? (i := 3) rfl
theorem pm_263 : Cond.constantLong R_MM 1474 (-1 : Int64) ∈ tables_1_19 := List.mem_of_getElem? (i := 4) rfl
theorem pm_264 : Cond.methodLink R_MM 441 y_MM_gives ∈ tables_1_19 := List.mem_of_getElem? (i := 5) rfl
theorem pm_265 : Cond.instanceMethod y_MM_gives ∈ tables_1_19 := List.mem_of_getElem? (i := 7) rfl
theorem pm_266 : Cond.code y_MM_gives b_MM_gives 2 none ∈ tables_1_19 := List.mem_of_getElem? (i := 8) rfl
theorem pm_267 : Cond.instanceMethod y_MM_judge ∈ tables_1_19 := List.mem_of_getElem? (i := 10) rfl
theorem pm_268 : Cond.selects R_MM y_MM_judge y_MM_judge ∈ tables_1_19 := List.mem_of_getElem? (i := 11) rfl
theorem pm_269 : Cond.codeWith y_MM_judge b_MM_judge 4 (some (.int)) [(25, 47, 50, 7)] ∈ tables_1_19 := List.mem_of_getElem? (i := 12) rfl
theorem pm_270 : Cond.instanceMethod y_MM_edit ∈ tables_1_19 := List.mem_of_getElem? (i := 14) rfl
theorem pm_271 : Cond.selects R_MM y_MM_edit y_MM_edit ∈ tables_1_19 := List.mem_of_getElem? (i := 15) rfl
theorem pm_272 : Cond.codeWith y_MM_edit b_MM_edit 6 (some (.int)) [(44, 142, 145, 7)] ∈ tables_1_19 := List.mem_of_getElem? (i := 16) rfl
theorem pm_273 : Cond.instanceMethod y_MM_undo ∈ tables_1_19 := List.mem_of_getElem? (i := 28) rfl
theorem pm_274 : Cond.selects R_MM y_MM_undo y_MM_undo ∈ tables_1_19 := List.mem_of_getElem? (i := 29) rfl
theorem pm_275 : Cond.code y_MM_undo b_MM_undo 2 (some (.boolean)) ∈ tables_1_19 := List.mem_of_getElem? (i := 30) rfl
theorem pm_276 : Cond.instanceMethod y_MM_pair ∈ tables_1_19 := List.mem_of_getElem? (i := 32) rfl
theorem pm_277 : Cond.selects R_MM y_MM_pair y_MM_pair ∈ tables_1_19 := List.mem_of_getElem? (i := 33) rfl
theorem pm_278 : Cond.code y_MM_pair b_MM_pair 7 (some (.int)) ∈ tables_1_19 := List.mem_of_getElem? (i := 34) rfl
theorem pm_279 : Cond.methodLink R_MM 1468 y_MM_isMember ∈ tables_1_19 := List.mem_of_getElem? (i := 35) rfl
theorem pm_280 : Cond.instanceMethod y_MM_isMember ∈ tables_1_19 := List.mem_of_getElem? (i := 37) rfl
theorem pm_281 : Cond.code y_MM_isMember b_MM_isMember 3 (some (.boolean)) ∈ tables_1_19 := List.mem_of_getElem? (i := 38) rfl
theorem pm_282 : Cond.instanceMethod y_MM_alike ∈ tables_1_19 := List.mem_of_getElem? (i := 40) rfl
theorem pm_283 : Cond.selects R_MM y_MM_alike y_MM_alike ∈ tables_1_19 := List.mem_of_getElem? (i := 41) rfl
theorem pm_284 : Cond.code y_MM_alike b_MM_alike 7 (some (.int)) ∈ tables_1_19 := List.mem_of_getElem? (i := 42) rfl
theorem pm_285 : Cond.methodLink R_MM 1471 y_MM_pair ∈ tables_1_19 := List.mem_of_getElem? (i := 43) rfl
theorem pm_286 : Cond.instanceMethod y_MM_settle ∈ tables_1_19 := List.mem_of_getElem? (i := 45) rfl
theorem pm_287 : Cond.selects R_MM y_MM_settle y_MM_settle ∈ tables_1_19 := List.mem_of_getElem? (i := 46) rfl
theorem pm_288 : Cond.code y_MM_settle b_MM_settle 1 none ∈ tables_1_19 := List.mem_of_getElem? (i := 47) rfl
theorem pm_289 : Cond.instanceMethod y_MM_call ∈ tables_1_19 := List.mem_of_getElem? (i := 49) rfl
theorem pm_290 : Cond.selects R_MM y_MM_call y_MM_call ∈ tables_1_19 := List.mem_of_getElem? (i := 50) rfl
theorem pm_291 : Cond.code y_MM_call b_MM_call 13 (some (.boolean)) ∈ tables_1_19 := List.mem_of_getElem? (i := 51) rfl
theorem pm_292 : Cond.constantLong R_MM 1494 (4 : Int64) ∈ tables_1_19 := List.mem_of_getElem? (i := 60) rfl
theorem pm_293 : Cond.instanceMethod y_MM_steps ∈ tables_1_19 := List.mem_of_getElem? (i := 72) rfl
theorem pm_294 : Cond.selects R_MM y_MM_steps y_MM_steps ∈ tables_1_19 := List.mem_of_getElem? (i := 73) rfl
theorem pm_295 : Cond.code y_MM_steps b_MM_steps 4 (some (.int)) ∈ tables_1_19 := List.mem_of_getElem? (i := 74) rfl
theorem pm_296 : Cond.instanceMethod y_MM_file ∈ tables_1_19 := List.mem_of_getElem? (i := 122) rfl
theorem pm_297 : Cond.selects R_MM y_MM_file y_MM_file ∈ tables_1_19 := List.mem_of_getElem? (i := 123) rfl
theorem pm_298 : Cond.code y_MM_file b_MM_file 4 (some (.int)) ∈ tables_1_19 := List.mem_of_getElem? (i := 124) rfl
theorem pm_299 : Cond.instanceMethod y_MM_byteAt ∈ tables_1_19 := List.mem_of_getElem? (i := 126) rfl
theorem pm_300 : Cond.selects R_MM y_MM_byteAt y_MM_byteAt ∈ tables_1_19 := List.mem_of_getElem? (i := 127) rfl
theorem pm_301 : Cond.code y_MM_byteAt b_MM_byteAt 5 (some (.int)) ∈ tables_1_19 := List.mem_of_getElem? (i := 128) rfl
theorem pm_302 : Cond.instanceMethod y_MM_entry ∈ tables_1_19 := List.mem_of_getElem? (i := 130) rfl
theorem pm_303 : Cond.selects R_MM y_MM_entry y_MM_entry ∈ tables_1_19 := List.mem_of_getElem? (i := 131) rfl
theorem pm_304 : Cond.code y_MM_entry b_MM_entry 8 (some (.long)) ∈ tables_1_19 := List.mem_of_getElem? (i := 132) rfl
theorem pm_305 : Cond.instanceMethod y_MM_member_1 ∈ tables_1_19 := List.mem_of_getElem? (i := 134) rfl
theorem pm_306 : Cond.selects R_MM y_MM_member_1 y_MM_member_1 ∈ tables_1_19 := List.mem_of_getElem? (i := 135) rfl
theorem pm_307 : Cond.code y_MM_member_1 b_MM_member_1 5 (some (.int)) ∈ tables_1_19 := List.mem_of_getElem? (i := 136) rfl
theorem pm_308 : Cond.instanceMethod y_MM_act_0 ∈ tables_1_19 := List.mem_of_getElem? (i := 138) rfl
theorem pm_309 : Cond.selects R_MM y_MM_act_0 y_MM_act_0 ∈ tables_1_19 := List.mem_of_getElem? (i := 139) rfl
theorem pm_310 : Cond.code y_MM_act_0 b_MM_act_0 7 (some (.int)) ∈ tables_1_19 := List.mem_of_getElem? (i := 140) rfl
theorem pm_311 : Cond.instanceMethod y_MM_kind ∈ tables_1_19 := List.mem_of_getElem? (i := 142) rfl
theorem pm_312 : Cond.selects R_MM y_MM_kind y_MM_kind ∈ tables_1_19 := List.mem_of_getElem? (i := 143) rfl
theorem pm_313 : Cond.code y_MM_kind b_MM_kind 7 (some (.int)) ∈ tables_1_19 := List.mem_of_getElem? (i := 144) rfl
theorem pm_314 : Cond.instanceMethod y_MM_block ∈ tables_1_19 := List.mem_of_getElem? (i := 146) rfl
theorem pm_315 : Cond.selects R_MM y_MM_block y_MM_block ∈ tables_1_19 := List.mem_of_getElem? (i := 147) rfl
theorem pm_316 : Cond.code y_MM_block b_MM_block 7 (some (.int)) ∈ tables_1_19 := List.mem_of_getElem? (i := 148) rfl
theorem pm_317 : Cond.instanceMethod y_MM_text ∈ tables_1_19 := List.mem_of_getElem? (i := 150) rfl
theorem pm_318 : Cond.selects R_MM y_MM_text y_MM_text ∈ tables_1_19 := List.mem_of_getElem? (i := 151) rfl
theorem pm_319 : Cond.code y_MM_text b_MM_text 5 (some (.int)) ∈ tables_1_19 := List.mem_of_getElem? (i := 152) rfl
theorem pm_320 : Cond.instanceMethod y_MM_state ∈ tables_1_19 := List.mem_of_getElem? (i := 154) rfl
theorem pm_321 : Cond.selects R_MM y_MM_state y_MM_state ∈ tables_1_19 := List.mem_of_getElem? (i := 155) rfl
theorem pm_322 : Cond.code y_MM_state b_MM_state 5 (some (.long)) ∈ tables_1_19 := List.mem_of_getElem? (i := 156) rfl
theorem pm_323 : Cond.instanceMethod y_MM_field ∈ tables_1_19 := List.mem_of_getElem? (i := 158) rfl
theorem pm_324 : Cond.selects R_MM y_MM_field y_MM_field ∈ tables_1_19 := List.mem_of_getElem? (i := 159) rfl
theorem pm_325 : Cond.code y_MM_field b_MM_field 5 (some (.long)) ∈ tables_1_19 := List.mem_of_getElem? (i := 160) rfl
theorem pm_326 : Cond.instanceMethod y_MM_element ∈ tables_1_19 := List.mem_of_getElem? (i := 162) rfl
theorem pm_327 : Cond.selects R_MM y_MM_element y_MM_element ∈ tables_1_19 := List.mem_of_getElem? (i := 163) rfl
theorem pm_328 : Cond.code y_MM_element b_MM_element 6 (some (.long)) ∈ tables_1_19 := List.mem_of_getElem? (i := 164) rfl
theorem pm_329 : Cond.instanceMethod y_MM_count ∈ tables_1_19 := List.mem_of_getElem? (i := 166) rfl
theorem pm_330 : Cond.selects R_MM y_MM_count y_MM_count ∈ tables_1_19 := List.mem_of_getElem? (i := 167) rfl
theorem pm_331 : Cond.code y_MM_count b_MM_count 4 (some (.int)) ∈ tables_1_19 := List.mem_of_getElem? (i := 168) rfl
theorem pm_332 : Cond.selects R_MM y_MM_must y_MM_must ∈ k2_sels lw_privs := List.mem_of_getElem? (i := 0) rfl
theorem pm_333 : Cond.selects R_MM y_MM_reads y_MM_reads ∈ k2_sels lw_privs := List.mem_of_getElem? (i := 1) rfl
theorem pm_334 : Cond.selects R_MM y_MM_newBox y_MM_newBox ∈ k2_sels lw_privs := List.mem_of_getElem? (i := 2) rfl
theorem pm_335 : Cond.selects R_MM y_MM_gives y_MM_gives ∈ k2_sels lw_privs := List.mem_of_getElem? (i := 3) rfl
theorem pm_336 : Cond.selects R_MM y_MM_readsFile y_MM_readsFile ∈ k2_sels lw_privs := List.mem_of_getElem? (i := 4) rfl
theorem pm_337 : Cond.selects R_MM y_MM_act_1 y_MM_act_1 ∈ k2_sels lw_privs := List.mem_of_getElem? (i := 5) rfl
theorem pm_338 : Cond.selects R_MM y_MM_member_0 y_MM_member_0 ∈ k2_sels lw_privs := List.mem_of_getElem? (i := 6) rfl
theorem pm_339 : Cond.selects R_MM y_MM_isMember y_MM_isMember ∈ k2_sels lw_privs := List.mem_of_getElem? (i := 7) rfl
theorem pm_340 : Cond.selects R_MM y_MM_settles y_MM_settles ∈ k2_sels lw_privs := List.mem_of_getElem? (i := 8) rfl
theorem ps_0 : Cond.initialized R_SS ∈ tables_1_1 := List.mem_of_getElem? (i := 1) rfl
theorem ps_1 : Cond.initialized R_SR ∈ tables_1_1 := List.mem_of_getElem? (i := 2) rfl
theorem ps_2 : Cond.initialized R_SF ∈ tables_1_1 := List.mem_of_getElem? (i := 3) rfl
theorem ps_3 : Cond.initialized R_SK ∈ tables_1_1 := List.mem_of_getElem? (i := 4) rfl
theorem ps_4 : Cond.initialized R_SN ∈ tables_1_1 := List.mem_of_getElem? (i := 5) rfl
theorem ps_5 : Cond.initialized R_ST ∈ tables_1_1 := List.mem_of_getElem? (i := 6) rfl
theorem ps_6 : Cond.initialized R_SP ∈ tables_1_1 := List.mem_of_getElem? (i := 7) rfl
theorem ps_7 : Cond.initialized R_SM ∈ tables_1_1 := List.mem_of_getElem? (i := 8) rfl
theorem ps_8 : Cond.initialized R_SJ ∈ tables_1_1 := List.mem_of_getElem? (i := 9) rfl
theorem ps_9 : Cond.initialized R_SO ∈ tables_1_1 := List.mem_of_getElem? (i := 10) rfl
theorem ps_10 : Cond.initialized R_SD ∈ tables_1_1 := List.mem_of_getElem? (i := 11) rfl
theorem ps_11 : Cond.initialized R_JA ∈ tables_1_1 := List.mem_of_getElem? (i := 21) rfl
theorem ps_12 : Cond.initialized R_JX ∈ tables_1_1 := List.mem_of_getElem? (i := 22) rfl
theorem ps_13 : Cond.initialized "java/lang/System" ∈ tables_1_1 := List.mem_of_getElem? (i := 23) rfl
theorem ps_14 : Cond.initialized R_SQ ∈ tables_1_1 := List.mem_of_getElem? (i := 24) rfl
theorem ps_15 : Cond.initialized "java/lang/IllegalArgumentException" ∈ tables_1_1 := List.mem_of_getElem? (i := 25) rfl
theorem ps_16 : Cond.initialized "java/lang/IndexOutOfBoundsException" ∈ tables_1_1 := List.mem_of_getElem? (i := 34) rfl
theorem ps_17 : Cond.initialized "java/lang/IllegalStateException" ∈ tables_1_1 := List.mem_of_getElem? (i := 38) rfl
theorem ps_18 : Cond.instantiable R_SS 18 ∈ tables_1_1 := List.mem_of_getElem? (i := 40) rfl
theorem ps_19 : Cond.instanceMethod y_SS_init ∈ tables_1_1 := List.mem_of_getElem? (i := 42) rfl
theorem ps_20 : Cond.code y_SS_init b_SS_init 1 none ∈ tables_1_1 := List.mem_of_getElem? (i := 43) rfl
theorem ps_21 : Cond.methodLink R_SS 3 objectInit ∈ tables_1_1 := List.mem_of_getElem? (i := 44) rfl
theorem ps_22 : Cond.instanceMethod objectInit ∈ tables_1_1 := List.mem_of_getElem? (i := 45) rfl
theorem ps_23 : Cond.code objectInit ⟨#[0xb1]⟩ 1 none ∈ tables_1_1 := List.mem_of_getElem? (i := 46) rfl
theorem ps_24 : Cond.classLink R_SS 13 R_SQ ∈ tables_1_1 := List.mem_of_getElem? (i := 47) rfl
theorem ps_25 : Cond.classLink R_SS 26 R_SD ∈ tables_1_1 := List.mem_of_getElem? (i := 49) rfl
theorem ps_26 : Cond.classLink R_SS 32 R_SR ∈ tables_1_1 := List.mem_of_getElem? (i := 51) rfl
theorem ps_27 : Cond.instantiable R_SR 3 ∈ tables_1_1 := List.mem_of_getElem? (i := 52) rfl
theorem ps_28 : Cond.instanceMethod y_SR_init ∈ tables_1_1 := List.mem_of_getElem? (i := 54) rfl
theorem ps_29 : Cond.code y_SR_init b_SR_init 1 none ∈ tables_1_1 := List.mem_of_getElem? (i := 55) rfl
theorem ps_30 : Cond.methodLink R_SR 3 objectInit ∈ tables_1_1 := List.mem_of_getElem? (i := 56) rfl
theorem ps_31 : Cond.fieldLink R_SR 9 "SourceBack$Reader" "form" "LSourceBack$Form;" ∈ tables_1_1 := List.mem_of_getElem? (i := 57) rfl
theorem ps_32 : Cond.fieldLink R_SR 15 "SourceBack$Reader" "at" "I" ∈ tables_1_1 := List.mem_of_getElem? (i := 58) rfl
theorem ps_33 : Cond.fieldLink R_SR 19 "SourceBack$Reader" "fault" "I" ∈ tables_1_1 := List.mem_of_getElem? (i := 59) rfl
theorem ps_34 : Cond.arrayClass FieldType.byte ∈ tables_1_1 := List.mem_of_getElem? (i := 67) rfl
theorem ps_35 : Cond.arrayClass FieldType.int ∈ tables_1_1 := List.mem_of_getElem? (i := 68) rfl
theorem ps_36 : Cond.classLink R_SS 39 R_SF ∈ tables_1_1 := List.mem_of_getElem? (i := 69) rfl
theorem ps_37 : Cond.instantiable R_SF 19 ∈ tables_1_1 := List.mem_of_getElem? (i := 70) rfl
theorem ps_38 : Cond.instanceMethod y_SF_init ∈ tables_1_1 := List.mem_of_getElem? (i := 72) rfl
theorem ps_39 : Cond.code y_SF_init b_SF_init 1 none ∈ tables_1_1 := List.mem_of_getElem? (i := 73) rfl
theorem ps_40 : Cond.methodLink R_SF 3 objectInit ∈ tables_1_1 := List.mem_of_getElem? (i := 74) rfl
theorem ps_41 : Cond.fieldLink R_SF 9 "SourceBack$Flow" "code" "[B" ∈ tables_1_1 := List.mem_of_getElem? (i := 78) rfl
theorem ps_42 : Cond.fieldLink R_SS 214 "SourceBack$Flow" "acts" "I" ∈ tables_1_1 := List.mem_of_getElem? (i := 91) rfl
theorem ps_43 : Cond.fieldLink R_SF 15 "SourceBack$Flow" "at" "[I" ∈ tables_1_1 := List.mem_of_getElem? (i := 92) rfl
theorem ps_44 : Cond.fieldLink R_SS 237 "SourceBack$Flow" "at" "[I" ∈ tables_1_1 := List.mem_of_getElem? (i := 94) rfl
theorem ps_45 : Cond.fieldLink R_SF 19 "SourceBack$Flow" "index" "[I" ∈ tables_1_1 := List.mem_of_getElem? (i := 95) rfl
theorem ps_46 : Cond.fieldLink R_SF 22 "SourceBack$Flow" "deep" "[I" ∈ tables_1_1 := List.mem_of_getElem? (i := 96) rfl
theorem ps_47 : Cond.fieldLink R_SS 243 "SourceBack$Flow" "deep" "[I" ∈ tables_1_1 := List.mem_of_getElem? (i := 98) rfl
theorem ps_48 : Cond.fieldLink R_SF 25 "SourceBack$Flow" "low" "[J" ∈ tables_1_1 := List.mem_of_getElem? (i := 100) rfl
theorem ps_49 : Cond.fieldLink R_SF 29 "SourceBack$Flow" "high" "[J" ∈ tables_1_1 := List.mem_of_getElem? (i := 101) rfl
theorem ps_50 : Cond.fieldLink R_SF 32 "SourceBack$Flow" "pile" "[J" ∈ tables_1_1 := List.mem_of_getElem? (i := 102) rfl
theorem ps_51 : Cond.arrayClass FieldType.long ∈ tables_1_1 := List.mem_of_getElem? (i := 147) rfl
theorem ps_52 : Cond.classLink R_SS 46 R_SK ∈ tables_1_1 := List.mem_of_getElem? (i := 148) rfl
theorem ps_53 : Cond.instantiable R_SK 16 ∈ tables_1_1 := List.mem_of_getElem? (i := 149) rfl
theorem ps_54 : Cond.instanceMethod y_SK_init ∈ tables_1_1 := List.mem_of_getElem? (i := 151) rfl
theorem ps_55 : Cond.code y_SK_init b_SK_init 1 none ∈ tables_1_1 := List.mem_of_getElem? (i := 152) rfl
theorem ps_56 : Cond.methodLink R_SK 3 objectInit ∈ tables_1_1 := List.mem_of_getElem? (i := 153) rfl
theorem ps_57 : Cond.fieldLink R_SS 220 "SourceBack$Blocks" "count" "I" ∈ tables_1_1 := List.mem_of_getElem? (i := 156) rfl
theorem ps_58 : Cond.fieldLink R_SS 223 "SourceBack$Blocks" "knotted" "Z" ∈ tables_1_1 := List.mem_of_getElem? (i := 158) rfl
theorem ps_59 : Cond.fieldLink R_SK 9 "SourceBack$Blocks" "begins" "[I" ∈ tables_1_1 := List.mem_of_getElem? (i := 161) rfl
theorem ps_60 : Cond.fieldLink R_SK 15 "SourceBack$Blocks" "holder" "[I" ∈ tables_1_1 := List.mem_of_getElem? (i := 162) rfl
theorem ps_61 : Cond.fieldLink R_SK 18 "SourceBack$Blocks" "first" "[I" ∈ tables_1_1 := List.mem_of_getElem? (i := 163) rfl
theorem ps_62 : Cond.fieldLink R_SK 21 "SourceBack$Blocks" "last" "[I" ∈ tables_1_1 := List.mem_of_getElem? (i := 164) rfl
theorem ps_63 : Cond.fieldLink R_SK 24 "SourceBack$Blocks" "from" "[I" ∈ tables_1_1 := List.mem_of_getElem? (i := 165) rfl
theorem ps_64 : Cond.fieldLink R_SK 27 "SourceBack$Blocks" "numberOf" "[I" ∈ tables_1_1 := List.mem_of_getElem? (i := 166) rfl
theorem ps_65 : Cond.fieldLink R_SK 30 "SourceBack$Blocks" "nextWay" "[I" ∈ tables_1_1 := List.mem_of_getElem? (i := 167) rfl
theorem ps_66 : Cond.fieldLink R_SK 33 "SourceBack$Blocks" "ends" "[I" ∈ tables_1_1 := List.mem_of_getElem? (i := 168) rfl
theorem ps_67 : Cond.fieldLink R_SK 36 "SourceBack$Blocks" "standing" "[I" ∈ tables_1_1 := List.mem_of_getElem? (i := 170) rfl
theorem ps_68 : Cond.fieldLink R_SK 39 "SourceBack$Blocks" "parents" "[I" ∈ tables_1_1 := List.mem_of_getElem? (i := 171) rfl
theorem ps_69 : Cond.fieldLink R_SK 42 "SourceBack$Blocks" "marks" "[I" ∈ tables_1_1 := List.mem_of_getElem? (i := 172) rfl
theorem ps_70 : Cond.fieldLink R_SK 45 "SourceBack$Blocks" "stack" "[I" ∈ tables_1_1 := List.mem_of_getElem? (i := 173) rfl
theorem ps_71 : Cond.classLink R_SS 53 R_SN ∈ tables_1_1 := List.mem_of_getElem? (i := 207) rfl
theorem ps_72 : Cond.instantiable R_SN 2 ∈ tables_1_1 := List.mem_of_getElem? (i := 208) rfl
theorem ps_73 : Cond.instanceMethod y_SN_init ∈ tables_1_1 := List.mem_of_getElem? (i := 210) rfl
theorem ps_74 : Cond.code y_SN_init b_SN_init 1 none ∈ tables_1_1 := List.mem_of_getElem? (i := 211) rfl
theorem ps_75 : Cond.methodLink R_SN 3 objectInit ∈ tables_1_1 := List.mem_of_getElem? (i := 212) rfl
theorem ps_76 : Cond.fieldLink R_SN 11 "SourceBack$Nodes" "row" "[I" ∈ tables_1_1 := List.mem_of_getElem? (i := 213) rfl
theorem ps_77 : Cond.classLink R_SS 60 R_ST ∈ tables_1_1 := List.mem_of_getElem? (i := 220) rfl
theorem ps_78 : Cond.instantiable R_ST 18 ∈ tables_1_1 := List.mem_of_getElem? (i := 221) rfl
theorem ps_79 : Cond.methodLink R_SS 62 y_ST_init ∈ tables_1_1 := List.mem_of_getElem? (i := 222) rfl
theorem ps_80 : Cond.instanceMethod y_ST_init ∈ tables_1_1 := List.mem_of_getElem? (i := 223) rfl
theorem ps_81 : Cond.code y_ST_init b_ST_init 2 none ∈ tables_1_1 := List.mem_of_getElem? (i := 224) rfl
theorem ps_82 : Cond.methodLink R_ST 3 objectInit ∈ tables_1_1 := List.mem_of_getElem? (i := 225) rfl
theorem ps_83 : Cond.fieldLink R_ST 24 "SourceBack$Tree" "nodes" "LSourceBack$Nodes;" ∈ tables_1_1 := List.mem_of_getElem? (i := 226) rfl
theorem ps_84 : Cond.fieldLink R_ST 9 "SourceBack$Tree" "pile" "[I" ∈ tables_1_1 := List.mem_of_getElem? (i := 239) rfl
theorem ps_85 : Cond.fieldLink R_ST 15 "SourceBack$Tree" "blockNode" "[I" ∈ tables_1_2 := List.mem_of_getElem? (i := 2) rfl
theorem ps_86 : Cond.fieldLink R_ST 18 "SourceBack$Tree" "loopNode" "[I" ∈ tables_1_2 := List.mem_of_getElem? (i := 3) rfl
theorem ps_87 : Cond.fieldLink R_ST 21 "SourceBack$Tree" "work" "[I" ∈ tables_1_2 := List.mem_of_getElem? (i := 4) rfl
theorem ps_88 : Cond.classLink R_SS 69 R_SP ∈ tables_1_2 := List.mem_of_getElem? (i := 45) rfl
theorem ps_89 : Cond.instantiable R_SP 7 ∈ tables_1_2 := List.mem_of_getElem? (i := 46) rfl
theorem ps_90 : Cond.methodLink R_SS 71 y_SP_init ∈ tables_1_2 := List.mem_of_getElem? (i := 47) rfl
theorem ps_91 : Cond.instanceMethod y_SP_init ∈ tables_1_2 := List.mem_of_getElem? (i := 48) rfl
theorem ps_92 : Cond.code y_SP_init b_SP_init 2 none ∈ tables_1_2 := List.mem_of_getElem? (i := 49) rfl
theorem ps_93 : Cond.methodLink R_SP 3 objectInit ∈ tables_1_2 := List.mem_of_getElem? (i := 50) rfl
theorem ps_94 : Cond.fieldLink R_SP 9 "SourceBack$Printer" "out" "[B" ∈ tables_1_2 := List.mem_of_getElem? (i := 51) rfl
theorem ps_95 : Cond.fieldLink R_SP 19 "SourceBack$Printer" "nodes" "LSourceBack$Nodes;" ∈ tables_1_2 := List.mem_of_getElem? (i := 55) rfl
theorem ps_96 : Cond.fieldLink R_SP 15 "SourceBack$Printer" "stack" "[I" ∈ tables_1_2 := List.mem_of_getElem? (i := 58) rfl
theorem ps_97 : Cond.classLink R_SS 76 R_SM ∈ tables_1_2 := List.mem_of_getElem? (i := 75) rfl
theorem ps_98 : Cond.instantiable R_SM 20 ∈ tables_1_2 := List.mem_of_getElem? (i := 76) rfl
theorem ps_99 : Cond.instanceMethod y_SM_init ∈ tables_1_2 := List.mem_of_getElem? (i := 78) rfl
theorem ps_100 : Cond.code y_SM_init b_SM_init 1 none ∈ tables_1_2 := List.mem_of_getElem? (i := 79) rfl
theorem ps_101 : Cond.methodLink R_SM 3 objectInit ∈ tables_1_2 := List.mem_of_getElem? (i := 80) rfl
theorem ps_102 : Cond.fieldLink R_SM 11 "SourceBack$Maker" "rows" "[I" ∈ tables_1_2 := List.mem_of_getElem? (i := 81) rfl
theorem ps_103 : Cond.fieldLink R_SM 15 "SourceBack$Maker" "offsets" "[I" ∈ tables_1_2 := List.mem_of_getElem? (i := 83) rfl
theorem ps_104 : Cond.fieldLink R_SM 18 "SourceBack$Maker" "labels" "[I" ∈ tables_1_2 := List.mem_of_getElem? (i := 84) rfl
theorem ps_105 : Cond.fieldLink R_SM 21 "SourceBack$Maker" "keys" "[I" ∈ tables_1_2 := List.mem_of_getElem? (i := 86) rfl
theorem ps_106 : Cond.fieldLink R_SM 24 "SourceBack$Maker" "numbers" "[J" ∈ tables_1_2 := List.mem_of_getElem? (i := 89) rfl
theorem ps_107 : Cond.fieldLink R_SM 28 "SourceBack$Maker" "code" "[B" ∈ tables_1_2 := List.mem_of_getElem? (i := 91) rfl
theorem ps_108 : Cond.fieldLink R_SM 32 "SourceBack$Maker" "pool" "[B" ∈ tables_1_2 := List.mem_of_getElem? (i := 103) rfl
theorem ps_109 : Cond.fieldLink R_SM 35 "SourceBack$Maker" "entryAt" "[I" ∈ tables_1_2 := List.mem_of_getElem? (i := 105) rfl
theorem ps_110 : Cond.fieldLink R_SS 301 "SourceBack$Maker" "entryCount" "I" ∈ tables_1_2 := List.mem_of_getElem? (i := 106) rfl
theorem ps_111 : Cond.fieldLink R_SM 38 "SourceBack$Maker" "bodies" "[B" ∈ tables_1_2 := List.mem_of_getElem? (i := 108) rfl
theorem ps_112 : Cond.classLink R_SS 83 R_SJ ∈ tables_1_2 := List.mem_of_getElem? (i := 151) rfl
theorem ps_113 : Cond.instantiable R_SJ 21 ∈ tables_1_2 := List.mem_of_getElem? (i := 152) rfl
theorem ps_114 : Cond.methodLink R_SS 85 y_SJ_init ∈ tables_1_2 := List.mem_of_getElem? (i := 153) rfl
theorem ps_115 : Cond.instanceMethod y_SJ_init ∈ tables_1_2 := List.mem_of_getElem? (i := 154) rfl
theorem ps_116 : Cond.code y_SJ_init b_SJ_init 2 none ∈ tables_1_2 := List.mem_of_getElem? (i := 155) rfl
theorem ps_117 : Cond.methodLink R_SJ 3 objectInit ∈ tables_1_2 := List.mem_of_getElem? (i := 156) rfl
theorem ps_118 : Cond.classLink R_SJ 9 R_SO ∈ tables_1_2 := List.mem_of_getElem? (i := 157) rfl
theorem ps_119 : Cond.instantiable R_SO 5 ∈ tables_1_2 := List.mem_of_getElem? (i := 158) rfl
theorem ps_120 : Cond.instanceMethod y_SO_init ∈ tables_1_2 := List.mem_of_getElem? (i := 160) rfl
theorem ps_121 : Cond.code y_SO_init b_SO_init 1 none ∈ tables_1_2 := List.mem_of_getElem? (i := 161) rfl
theorem ps_122 : Cond.methodLink R_SO 3 objectInit ∈ tables_1_2 := List.mem_of_getElem? (i := 162) rfl
theorem ps_123 : Cond.fieldLink R_SO 9 "SourceBack$Tokens" "text" "[B" ∈ tables_1_2 := List.mem_of_getElem? (i := 163) rfl
theorem ps_124 : Cond.fieldLink R_SJ 12 "SourceBack$Judge" "tokens" "LSourceBack$Tokens;" ∈ tables_1_2 := List.mem_of_getElem? (i := 184) rfl
theorem ps_125 : Cond.fieldLink R_SJ 28 "SourceBack$Judge" "maker" "LSourceBack$Maker;" ∈ tables_1_2 := List.mem_of_getElem? (i := 185) rfl
theorem ps_126 : Cond.fieldLink R_SJ 18 "SourceBack$Judge" "stack" "[I" ∈ tables_1_2 := List.mem_of_getElem? (i := 194) rfl
theorem ps_127 : Cond.fieldLink R_SJ 22 "SourceBack$Judge" "frames" "[I" ∈ tables_1_2 := List.mem_of_getElem? (i := 197) rfl
theorem ps_128 : Cond.fieldLink R_SJ 25 "SourceBack$Judge" "told" "[I" ∈ tables_1_2 := List.mem_of_getElem? (i := 199) rfl
theorem ps_129 : Cond.fieldLink R_SS 281 "SourceBack$Judge" "firstAt" "I" ∈ tables_1_2 := List.mem_of_getElem? (i := 204) rfl
theorem ps_130 : Cond.instantiable R_SD 14 ∈ tables_1_3 := List.mem_of_getElem? (i := 9) rfl
theorem ps_131 : Cond.instanceMethod y_SD_init ∈ tables_1_3 := List.mem_of_getElem? (i := 11) rfl
theorem ps_132 : Cond.code y_SD_init b_SD_init 1 none ∈ tables_1_3 := List.mem_of_getElem? (i := 12) rfl
theorem ps_133 : Cond.methodLink R_SD 3 objectInit ∈ tables_1_3 := List.mem_of_getElem? (i := 13) rfl
theorem ps_134 : Cond.classLink R_SD 9 R_SQ ∈ tables_1_3 := List.mem_of_getElem? (i := 14) rfl
theorem ps_135 : Cond.classLink R_SD 17 "[J" ∈ tables_1_3 := List.mem_of_getElem? (i := 15) rfl
theorem ps_136 : Cond.fieldLink R_SD 11 "SourceBack$Side" "forms" "[LSourceBack$Form;" ∈ tables_1_3 := List.mem_of_getElem? (i := 17) rfl
theorem ps_137 : Cond.fieldLink R_SS 336 "SourceBack$Side" "forms" "[LSourceBack$Form;" ∈ tables_1_3 := List.mem_of_getElem? (i := 18) rfl
theorem ps_138 : Cond.fieldLink R_SD 36 "SourceBack$Side" "files" "I" ∈ tables_1_3 := List.mem_of_getElem? (i := 19) rfl
theorem ps_139 : Cond.fieldLink R_SD 19 "SourceBack$Side" "fields" "[[J" ∈ tables_1_3 := List.mem_of_getElem? (i := 20) rfl
theorem ps_140 : Cond.fieldLink R_SD 51 "SourceBack$Side" "arrays" "I" ∈ tables_1_3 := List.mem_of_getElem? (i := 21) rfl
theorem ps_141 : Cond.fieldLink R_SS 362 "SourceBack$Side" "arrays" "I" ∈ tables_1_3 := List.mem_of_getElem? (i := 22) rfl
theorem ps_142 : Cond.fieldLink R_SD 23 "SourceBack$Side" "arrayAt" "[I" ∈ tables_1_3 := List.mem_of_getElem? (i := 23) rfl
theorem ps_143 : Cond.fieldLink R_SD 27 "SourceBack$Side" "cells" "[J" ∈ tables_1_3 := List.mem_of_getElem? (i := 24) rfl
theorem ps_144 : Cond.fieldLink R_SD 30 "SourceBack$Side" "frames" "[I" ∈ tables_1_3 := List.mem_of_getElem? (i := 25) rfl
theorem ps_145 : Cond.fieldLink R_SD 54 "SourceBack$Side" "open" "I" ∈ tables_1_3 := List.mem_of_getElem? (i := 26) rfl
theorem ps_146 : Cond.fieldLink R_SD 33 "SourceBack$Side" "values" "[J" ∈ tables_1_3 := List.mem_of_getElem? (i := 27) rfl
theorem ps_147 : Cond.fieldLink R_SD 57 "SourceBack$Side" "status" "I" ∈ tables_1_3 := List.mem_of_getElem? (i := 28) rfl
theorem ps_148 : Cond.fieldLink R_SS 333 "SourceBack$Side" "status" "I" ∈ tables_1_3 := List.mem_of_getElem? (i := 29) rfl
theorem ps_149 : Cond.fieldLink R_SD 60 "SourceBack$Side" "failure" "I" ∈ tables_1_3 := List.mem_of_getElem? (i := 30) rfl
theorem ps_150 : Cond.fieldLink R_SD 63 "SourceBack$Side" "failNumber" "J" ∈ tables_1_3 := List.mem_of_getElem? (i := 31) rfl
theorem ps_151 : Cond.fieldLink R_SD 67 "SourceBack$Side" "result" "J" ∈ tables_1_3 := List.mem_of_getElem? (i := 32) rfl
theorem ps_152 : Cond.fieldLink R_SD 70 "SourceBack$Side" "steps" "I" ∈ tables_1_3 := List.mem_of_getElem? (i := 33) rfl
theorem ps_153 : Cond.fieldLink R_SS 9 "SourceBack" "tape" "[B" ∈ tables_1_3 := List.mem_of_getElem? (i := 63) rfl
theorem ps_154 : Cond.fieldLink R_SS 97 "SourceBack" "tapeLength" "I" ∈ tables_1_3 := List.mem_of_getElem? (i := 64) rfl
theorem ps_155 : Cond.fieldLink R_SS 15 "SourceBack" "forms" "[LSourceBack$Form;" ∈ tables_1_3 := List.mem_of_getElem? (i := 65) rfl
theorem ps_156 : Cond.fieldLink R_SS 107 "SourceBack" "fileCount" "I" ∈ tables_1_3 := List.mem_of_getElem? (i := 66) rfl
theorem ps_157 : Cond.fieldLink R_SS 19 "SourceBack" "kept" "[LSourceBack$Form;" ∈ tables_1_3 := List.mem_of_getElem? (i := 67) rfl
theorem ps_158 : Cond.fieldLink R_SS 22 "SourceBack" "undoable" "[I" ∈ tables_1_3 := List.mem_of_getElem? (i := 68) rfl
theorem ps_159 : Cond.fieldLink R_SS 337 "SourceBack" "begun" "I" ∈ tables_1_3 := List.mem_of_getElem? (i := 69) rfl
theorem ps_160 : Cond.fieldLink R_SS 28 "SourceBack" "sides" "[LSourceBack$Side;" ∈ tables_1_3 := List.mem_of_getElem? (i := 70) rfl
theorem ps_161 : Cond.fieldLink R_SS 35 "SourceBack" "reader" "LSourceBack$Reader;" ∈ tables_1_3 := List.mem_of_getElem? (i := 71) rfl
theorem ps_162 : Cond.fieldLink R_SS 42 "SourceBack" "flow" "LSourceBack$Flow;" ∈ tables_1_3 := List.mem_of_getElem? (i := 72) rfl
theorem ps_163 : Cond.fieldLink R_SS 49 "SourceBack" "blocks" "LSourceBack$Blocks;" ∈ tables_1_3 := List.mem_of_getElem? (i := 73) rfl
theorem ps_164 : Cond.fieldLink R_SS 56 "SourceBack" "nodes" "LSourceBack$Nodes;" ∈ tables_1_3 := List.mem_of_getElem? (i := 74) rfl
theorem ps_165 : Cond.fieldLink R_SS 65 "SourceBack" "tree" "LSourceBack$Tree;" ∈ tables_1_3 := List.mem_of_getElem? (i := 75) rfl
theorem ps_166 : Cond.fieldLink R_SS 72 "SourceBack" "printer" "LSourceBack$Printer;" ∈ tables_1_3 := List.mem_of_getElem? (i := 76) rfl
theorem ps_167 : Cond.fieldLink R_SS 79 "SourceBack" "maker" "LSourceBack$Maker;" ∈ tables_1_3 := List.mem_of_getElem? (i := 77) rfl
theorem ps_168 : Cond.fieldLink R_SS 88 "SourceBack" "judge" "LSourceBack$Judge;" ∈ tables_1_3 := List.mem_of_getElem? (i := 78) rfl
theorem ps_169 : Cond.fieldLink R_SS 92 "SourceBack" "seenMember" "I" ∈ tables_1_3 := List.mem_of_getElem? (i := 80) rfl
theorem ps_170 : Cond.instanceMethod y_SS_feed ∈ tables_1_3 := List.mem_of_getElem? (i := 119) rfl
theorem ps_171 : Cond.selects R_SS y_SS_feed y_SS_feed ∈ tables_1_3 := List.mem_of_getElem? (i := 120) rfl
theorem ps_172 : Cond.code y_SS_feed b_SS_feed 5 (some (.int)) ∈ tables_1_3 := List.mem_of_getElem? (i := 121) rfl
theorem ps_173 : Cond.constant R_SS 100 (65536 : Int32) ∈ tables_1_3 := List.mem_of_getElem? (i := 122) rfl
theorem ps_174 : Cond.static arraycopyName ∈ tables_1_3 := List.mem_of_getElem? (i := 137) rfl
theorem ps_175 : Cond.native arraycopyName ∈ tables_1_3 := List.mem_of_getElem? (i := 138) rfl
theorem ps_176 : Cond.instanceMethod y_SS_take ∈ tables_1_3 := List.mem_of_getElem? (i := 140) rfl
theorem ps_177 : Cond.selects R_SS y_SS_take y_SS_take ∈ tables_1_3 := List.mem_of_getElem? (i := 141) rfl
theorem ps_178 : Cond.code y_SS_take b_SS_take 5 (some (.int)) ∈ tables_1_3 := List.mem_of_getElem? (i := 142) rfl
theorem ps_179 : Cond.methodLink R_SS 110 y_SS_keptAt ∈ tables_1_3 := List.mem_of_getElem? (i := 143) rfl
theorem ps_180 : Cond.instanceMethod y_SS_keptAt ∈ tables_1_3 := List.mem_of_getElem? (i := 145) rfl
theorem ps_181 : Cond.code y_SS_keptAt b_SS_keptAt 2 (some (.object "SourceBack$Form")) ∈ tables_1_3 := List.mem_of_getElem? (i := 146) rfl
theorem ps_182 : Cond.instantiable R_SQ 16 ∈ tables_1_3 := List.mem_of_getElem? (i := 147) rfl
theorem ps_183 : Cond.instanceMethod y_SQ_init ∈ tables_1_3 := List.mem_of_getElem? (i := 149) rfl
theorem ps_184 : Cond.code y_SQ_init b_SQ_init 1 none ∈ tables_1_3 := List.mem_of_getElem? (i := 150) rfl
theorem ps_185 : Cond.methodLink R_SQ 3 objectInit ∈ tables_1_3 := List.mem_of_getElem? (i := 151) rfl
theorem ps_186 : Cond.classLink R_SQ 25 "[B" ∈ tables_1_3 := List.mem_of_getElem? (i := 152) rfl
theorem ps_187 : Cond.fieldLink R_SQ 9 "SourceBack$Form" "bytes" "[B" ∈ tables_1_3 := List.mem_of_getElem? (i := 154) rfl
theorem ps_188 : Cond.fieldLink R_SS 118 "SourceBack$Form" "bytes" "[B" ∈ tables_1_3 := List.mem_of_getElem? (i := 156) rfl
theorem ps_189 : Cond.fieldLink R_SQ 45 "SourceBack$Form" "size" "I" ∈ tables_1_3 := List.mem_of_getElem? (i := 159) rfl
theorem ps_190 : Cond.fieldLink R_SR 54 "SourceBack$Form" "size" "I" ∈ tables_1_3 := List.mem_of_getElem? (i := 160) rfl
theorem ps_191 : Cond.fieldLink R_SS 167 "SourceBack$Form" "size" "I" ∈ tables_1_3 := List.mem_of_getElem? (i := 161) rfl
theorem ps_192 : Cond.fieldLink R_SR 26 "SourceBack$Form" "entryCount" "I" ∈ tables_1_3 := List.mem_of_getElem? (i := 164) rfl
theorem ps_193 : Cond.fieldLink R_SQ 49 "SourceBack$Form" "entryCount" "I" ∈ tables_1_3 := List.mem_of_getElem? (i := 165) rfl
theorem ps_194 : Cond.fieldLink R_SS 161 "SourceBack$Form" "entryCount" "I" ∈ tables_1_3 := List.mem_of_getElem? (i := 166) rfl
theorem ps_195 : Cond.fieldLink R_SQ 15 "SourceBack$Form" "entryAt" "[I" ∈ tables_1_3 := List.mem_of_getElem? (i := 168) rfl
theorem ps_196 : Cond.fieldLink R_SQ 52 "SourceBack$Form" "nameAt" "I" ∈ tables_1_3 := List.mem_of_getElem? (i := 170) rfl
theorem ps_197 : Cond.fieldLink R_SS 148 "SourceBack$Form" "nameAt" "I" ∈ tables_1_3 := List.mem_of_getElem? (i := 171) rfl
theorem ps_198 : Cond.fieldLink R_SD 40 "SourceBack$Form" "fields" "I" ∈ tables_1_3 := List.mem_of_getElem? (i := 174) rfl
theorem ps_199 : Cond.fieldLink R_SQ 55 "SourceBack$Form" "fields" "I" ∈ tables_1_3 := List.mem_of_getElem? (i := 175) rfl
theorem ps_200 : Cond.fieldLink R_SS 164 "SourceBack$Form" "fields" "I" ∈ tables_1_3 := List.mem_of_getElem? (i := 176) rfl
theorem ps_201 : Cond.fieldLink R_SQ 19 "SourceBack$Form" "fieldEntry" "[I" ∈ tables_1_3 := List.mem_of_getElem? (i := 178) rfl
theorem ps_202 : Cond.fieldLink R_SD 42 "SourceBack$Form" "fieldEntry" "[I" ∈ tables_1_3 := List.mem_of_getElem? (i := 179) rfl
theorem ps_203 : Cond.fieldLink R_SQ 58 "SourceBack$Form" "members" "I" ∈ tables_1_3 := List.mem_of_getElem? (i := 182) rfl
theorem ps_204 : Cond.fieldLink R_SS 131 "SourceBack$Form" "members" "I" ∈ tables_1_3 := List.mem_of_getElem? (i := 183) rfl
theorem ps_205 : Cond.fieldLink R_SQ 22 "SourceBack$Form" "memberAt" "[I" ∈ tables_1_3 := List.mem_of_getElem? (i := 185) rfl
theorem ps_206 : Cond.fieldLink R_SR 47 "SourceBack$Form" "memberAt" "[I" ∈ tables_1_3 := List.mem_of_getElem? (i := 186) rfl
theorem ps_207 : Cond.fieldLink R_SQ 26 "SourceBack$Form" "texts" "[[B" ∈ tables_1_3 := List.mem_of_getElem? (i := 188) rfl
theorem ps_208 : Cond.fieldLink R_SS 227 "SourceBack$Form" "texts" "[[B" ∈ tables_1_3 := List.mem_of_getElem? (i := 189) rfl
theorem ps_209 : Cond.fieldLink R_SQ 30 "SourceBack$Form" "textKnown" "[B" ∈ tables_1_3 := List.mem_of_getElem? (i := 190) rfl
theorem ps_210 : Cond.fieldLink R_SQ 33 "SourceBack$Form" "againKnown" "[B" ∈ tables_1_3 := List.mem_of_getElem? (i := 192) rfl
theorem ps_211 : Cond.fieldLink R_SQ 36 "SourceBack$Form" "again" "[I" ∈ tables_1_3 := List.mem_of_getElem? (i := 194) rfl
theorem ps_212 : Cond.fieldLink R_SS 234 "SourceBack$Form" "again" "[I" ∈ tables_1_3 := List.mem_of_getElem? (i := 195) rfl
theorem ps_213 : Cond.fieldLink R_SQ 61 "SourceBack$Form" "madeKnown" "Z" ∈ tables_1_3 := List.mem_of_getElem? (i := 196) rfl
theorem ps_214 : Cond.fieldLink R_SS 315 "SourceBack$Form" "madeKnown" "Z" ∈ tables_1_3 := List.mem_of_getElem? (i := 197) rfl
theorem ps_215 : Cond.fieldLink R_SQ 65 "SourceBack$Form" "made" "LSourceBack$Form;" ∈ tables_1_3 := List.mem_of_getElem? (i := 198) rfl
theorem ps_216 : Cond.fieldLink R_SS 177 "SourceBack$Form" "made" "LSourceBack$Form;" ∈ tables_1_3 := List.mem_of_getElem? (i := 199) rfl
theorem ps_217 : Cond.fieldLink R_SS 309 "SourceBack$Form" "edited" "I" ∈ tables_1_3 := List.mem_of_getElem? (i := 200) rfl
theorem ps_218 : Cond.methodLink R_SS 114 y_SQ_begin ∈ tables_1_3 := List.mem_of_getElem? (i := 234) rfl
theorem ps_219 : Cond.instanceMethod y_SQ_begin ∈ tables_1_3 := List.mem_of_getElem? (i := 235) rfl
theorem ps_220 : Cond.selects R_SQ y_SQ_begin y_SQ_begin ∈ tables_1_3 := List.mem_of_getElem? (i := 236) rfl
theorem ps_221 : Cond.code y_SQ_begin b_SQ_begin 2 none ∈ tables_1_3 := List.mem_of_getElem? (i := 237) rfl
theorem ps_222 : Cond.methodLink R_SS 121 arraycopyName ∈ tables_1_4 := List.mem_of_getElem? (i := 1) rfl
theorem ps_223 : Cond.methodLink R_SS 127 y_SR_read ∈ tables_1_4 := List.mem_of_getElem? (i := 2) rfl
theorem ps_224 : Cond.instanceMethod y_SR_read ∈ tables_1_4 := List.mem_of_getElem? (i := 3) rfl
theorem ps_225 : Cond.selects R_SR y_SR_read y_SR_read ∈ tables_1_4 := List.mem_of_getElem? (i := 4) rfl
theorem ps_226 : Cond.code y_SR_read b_SR_read 5 (some (.int)) ∈ tables_1_4 := List.mem_of_getElem? (i := 5) rfl
theorem ps_227 : Cond.methodLink R_SR 22 y_SR_readHead ∈ tables_1_4 := List.mem_of_getElem? (i := 6) rfl
theorem ps_228 : Cond.instanceMethod y_SR_readHead ∈ tables_1_4 := List.mem_of_getElem? (i := 8) rfl
theorem ps_229 : Cond.code y_SR_readHead b_SR_readHead 3 none ∈ tables_1_4 := List.mem_of_getElem? (i := 9) rfl
theorem ps_230 : Cond.methodLink R_SR 65 y_SR_number ∈ tables_1_4 := List.mem_of_getElem? (i := 10) rfl
theorem ps_231 : Cond.instanceMethod y_SR_number ∈ tables_1_4 := List.mem_of_getElem? (i := 12) rfl
theorem ps_232 : Cond.code y_SR_number b_SR_number 4 (some (.int)) ∈ tables_1_4 := List.mem_of_getElem? (i := 13) rfl
theorem ps_233 : Cond.methodLink R_SR 57 y_SR_tell ∈ tables_1_4 := List.mem_of_getElem? (i := 14) rfl
theorem ps_234 : Cond.instanceMethod y_SR_tell ∈ tables_1_4 := List.mem_of_getElem? (i := 16) rfl
theorem ps_235 : Cond.code y_SR_tell b_SR_tell 3 none ∈ tables_1_4 := List.mem_of_getElem? (i := 17) rfl
theorem ps_236 : Cond.constant R_SR 68 (-1341656802 : Int32) ∈ tables_1_4 := List.mem_of_getElem? (i := 22) rfl
theorem ps_237 : Cond.methodLink R_SR 40 y_SR_bounded ∈ tables_1_4 := List.mem_of_getElem? (i := 23) rfl
theorem ps_238 : Cond.instanceMethod y_SR_bounded ∈ tables_1_4 := List.mem_of_getElem? (i := 25) rfl
theorem ps_239 : Cond.code y_SR_bounded b_SR_bounded 7 (some (.int)) ∈ tables_1_4 := List.mem_of_getElem? (i := 26) rfl
theorem ps_240 : Cond.instantiable "java/lang/IllegalArgumentException" 6 ∈ tables_1_4 := List.mem_of_getElem? (i := 179) rfl
theorem ps_241 : Cond.methodLink R_SS 151 y_SS_beginAnew ∈ tables_1_6 := List.mem_of_getElem? (i := 109) rfl
theorem ps_242 : Cond.instanceMethod y_SS_beginAnew ∈ tables_1_6 := List.mem_of_getElem? (i := 111) rfl
theorem ps_243 : Cond.code y_SS_beginAnew b_SS_beginAnew 1 none ∈ tables_1_6 := List.mem_of_getElem? (i := 112) rfl
theorem ps_244 : Cond.methodLink R_SS 374 y_SD_beginAnew ∈ tables_1_6 := List.mem_of_getElem? (i := 113) rfl
theorem ps_245 : Cond.instanceMethod y_SD_beginAnew ∈ tables_1_6 := List.mem_of_getElem? (i := 114) rfl
theorem ps_246 : Cond.selects R_SD y_SD_beginAnew y_SD_beginAnew ∈ tables_1_6 := List.mem_of_getElem? (i := 115) rfl
theorem ps_247 : Cond.code y_SD_beginAnew b_SD_beginAnew 7 none ∈ tables_1_6 := List.mem_of_getElem? (i := 116) rfl
theorem ps_248 : Cond.constantLong R_SD 49 (-1 : Int64) ∈ tables_1_6 := List.mem_of_getElem? (i := 118) rfl
theorem ps_249 : Cond.instanceMethod y_SS_file ∈ tables_1_6 := List.mem_of_getElem? (i := 120) rfl
theorem ps_250 : Cond.selects R_SS y_SS_file y_SS_file ∈ tables_1_6 := List.mem_of_getElem? (i := 121) rfl
theorem ps_251 : Cond.code y_SS_file b_SS_file 4 (some (.int)) ∈ tables_1_6 := List.mem_of_getElem? (i := 122) rfl
theorem ps_252 : Cond.methodLink R_SS 154 y_SS_formOf ∈ tables_1_6 := List.mem_of_getElem? (i := 123) rfl
theorem ps_253 : Cond.instanceMethod y_SS_formOf ∈ tables_1_6 := List.mem_of_getElem? (i := 125) rfl
theorem ps_254 : Cond.code y_SS_formOf b_SS_formOf 2 (some (.object "SourceBack$Form")) ∈ tables_1_6 := List.mem_of_getElem? (i := 126) rfl
theorem ps_255 : Cond.instantiable "java/lang/IllegalStateException" 6 ∈ tables_1_9 := List.mem_of_getElem? (i := 56) rfl
theorem ps_256 : Cond.instanceMethod y_SS_byteAt ∈ tables_1_10 := List.mem_of_getElem? (i := 165) rfl
theorem ps_257 : Cond.selects R_SS y_SS_byteAt y_SS_byteAt ∈ tables_1_10 := List.mem_of_getElem? (i := 166) rfl
theorem ps_258 : Cond.code y_SS_byteAt b_SS_byteAt 5 (some (.int)) ∈ tables_1_10 := List.mem_of_getElem? (i := 167) rfl
theorem ps_259 : Cond.instanceMethod y_SS_member ∈ tables_1_10 := List.mem_of_getElem? (i := 170) rfl
theorem ps_260 : Cond.selects R_SS y_SS_member y_SS_member ∈ tables_1_10 := List.mem_of_getElem? (i := 171) rfl
theorem ps_261 : Cond.code y_SS_member b_SS_member 5 (some (.int)) ∈ tables_1_10 := List.mem_of_getElem? (i := 172) rfl
theorem ps_262 : Cond.instanceMethod y_SS_act ∈ tables_1_10 := List.mem_of_getElem? (i := 204) rfl
theorem ps_263 : Cond.selects R_SS y_SS_act y_SS_act ∈ tables_1_10 := List.mem_of_getElem? (i := 205) rfl
theorem ps_264 : Cond.code y_SS_act b_SS_act 6 (some (.int)) ∈ tables_1_10 := List.mem_of_getElem? (i := 206) rfl
theorem ps_265 : Cond.instanceMethod y_SS_kind ∈ tables_1_10 := List.mem_of_getElem? (i := 213) rfl
theorem ps_266 : Cond.selects R_SS y_SS_kind y_SS_kind ∈ tables_1_10 := List.mem_of_getElem? (i := 214) rfl
theorem ps_267 : Cond.code y_SS_kind b_SS_kind 7 (some (.int)) ∈ tables_1_10 := List.mem_of_getElem? (i := 215) rfl
theorem ps_268 : Cond.instanceMethod y_SS_block ∈ tables_1_10 := List.mem_of_getElem? (i := 219) rfl
theorem ps_269 : Cond.selects R_SS y_SS_block y_SS_block ∈ tables_1_10 := List.mem_of_getElem? (i := 220) rfl
theorem ps_270 : Cond.code y_SS_block b_SS_block 6 (some (.int)) ∈ tables_1_10 := List.mem_of_getElem? (i := 221) rfl
theorem ps_271 : Cond.instanceMethod y_SS_text ∈ tables_1_10 := List.mem_of_getElem? (i := 229) rfl
theorem ps_272 : Cond.selects R_SS y_SS_text y_SS_text ∈ tables_1_10 := List.mem_of_getElem? (i := 230) rfl
theorem ps_273 : Cond.code y_SS_text b_SS_text 6 (some (.int)) ∈ tables_1_10 := List.mem_of_getElem? (i := 231) rfl
theorem ps_274 : Cond.instanceMethod y_SS_judge ∈ tables_1_10 := List.mem_of_getElem? (i := 233) rfl
theorem ps_275 : Cond.selects R_SS y_SS_judge y_SS_judge ∈ tables_1_10 := List.mem_of_getElem? (i := 234) rfl
theorem ps_276 : Cond.code y_SS_judge b_SS_judge 4 (some (.int)) ∈ tables_1_10 := List.mem_of_getElem? (i := 235) rfl
theorem ps_277 : Cond.instanceMethod y_SS_edit ∈ tables_1_10 := List.mem_of_getElem? (i := 237) rfl
theorem ps_278 : Cond.selects R_SS y_SS_edit y_SS_edit ∈ tables_1_10 := List.mem_of_getElem? (i := 238) rfl
theorem ps_279 : Cond.code y_SS_edit b_SS_edit 7 (some (.int)) ∈ tables_1_10 := List.mem_of_getElem? (i := 239) rfl
theorem ps_280 : Cond.instanceMethod y_SS_undo ∈ tables_1_11 := List.mem_of_getElem? (i := 26) rfl
theorem ps_281 : Cond.selects R_SS y_SS_undo y_SS_undo ∈ tables_1_11 := List.mem_of_getElem? (i := 27) rfl
theorem ps_282 : Cond.code y_SS_undo b_SS_undo 4 (some (.boolean)) ∈ tables_1_11 := List.mem_of_getElem? (i := 28) rfl
theorem ps_283 : Cond.instanceMethod y_SS_pair ∈ tables_1_11 := List.mem_of_getElem? (i := 30) rfl
theorem ps_284 : Cond.selects R_SS y_SS_pair y_SS_pair ∈ tables_1_11 := List.mem_of_getElem? (i := 31) rfl
theorem ps_285 : Cond.code y_SS_pair b_SS_pair 6 (some (.int)) ∈ tables_1_11 := List.mem_of_getElem? (i := 32) rfl
theorem ps_286 : Cond.instanceMethod y_SS_alike ∈ tables_1_11 := List.mem_of_getElem? (i := 38) rfl
theorem ps_287 : Cond.selects R_SS y_SS_alike y_SS_alike ∈ tables_1_11 := List.mem_of_getElem? (i := 39) rfl
theorem ps_288 : Cond.code y_SS_alike b_SS_alike 7 (some (.int)) ∈ tables_1_11 := List.mem_of_getElem? (i := 40) rfl
theorem ps_289 : Cond.instanceMethod y_SS_call ∈ tables_1_11 := List.mem_of_getElem? (i := 45) rfl
theorem ps_290 : Cond.selects R_SS y_SS_call y_SS_call ∈ tables_1_11 := List.mem_of_getElem? (i := 46) rfl
theorem ps_291 : Cond.code y_SS_call b_SS_call 11 (some (.boolean)) ∈ tables_1_11 := List.mem_of_getElem? (i := 47) rfl
theorem ps_292 : Cond.instanceMethod y_SS_settle ∈ tables_1_11 := List.mem_of_getElem? (i := 77) rfl
theorem ps_293 : Cond.selects R_SS y_SS_settle y_SS_settle ∈ tables_1_11 := List.mem_of_getElem? (i := 78) rfl
theorem ps_294 : Cond.code y_SS_settle b_SS_settle 1 none ∈ tables_1_11 := List.mem_of_getElem? (i := 79) rfl
theorem ps_295 : Cond.instanceMethod y_SS_count ∈ tables_1_11 := List.mem_of_getElem? (i := 81) rfl
theorem ps_296 : Cond.selects R_SS y_SS_count y_SS_count ∈ tables_1_11 := List.mem_of_getElem? (i := 82) rfl
theorem ps_297 : Cond.code y_SS_count b_SS_count 4 (some (.int)) ∈ tables_1_11 := List.mem_of_getElem? (i := 83) rfl
theorem ps_298 : Cond.instanceMethod y_SS_entry ∈ tables_1_11 := List.mem_of_getElem? (i := 89) rfl
theorem ps_299 : Cond.selects R_SS y_SS_entry y_SS_entry ∈ tables_1_11 := List.mem_of_getElem? (i := 90) rfl
theorem ps_300 : Cond.code y_SS_entry b_SS_entry 5 (some (.long)) ∈ tables_1_11 := List.mem_of_getElem? (i := 91) rfl
theorem ps_301 : Cond.classLink R_SS 188 "java/lang/IndexOutOfBoundsException" ∈ tables_1_11 := List.mem_of_getElem? (i := 96) rfl
theorem ps_302 : Cond.instantiable "java/lang/IndexOutOfBoundsException" 6 ∈ tables_1_11 := List.mem_of_getElem? (i := 97) rfl
theorem ps_303 : Cond.methodLink R_SS 192 ⟨"java/lang/IndexOutOfBoundsException", "<init>", "(Ljava/lang/String;)V"⟩ ∈ tables_1_11 := List.mem_of_getElem? (i := 106) rfl
theorem ps_304 : Cond.instanceMethod y_SS_steps ∈ tables_1_11 := List.mem_of_getElem? (i := 120) rfl
theorem ps_305 : Cond.selects R_SS y_SS_steps y_SS_steps ∈ tables_1_11 := List.mem_of_getElem? (i := 121) rfl
theorem ps_306 : Cond.code y_SS_steps b_SS_steps 3 (some (.int)) ∈ tables_1_11 := List.mem_of_getElem? (i := 122) rfl
theorem ps_307 : Cond.classLink R_SS 343 "java/lang/IllegalArgumentException" ∈ tables_1_11 := List.mem_of_getElem? (i := 123) rfl
theorem ps_308 : Cond.methodLink R_SS 347 ⟨"java/lang/IllegalArgumentException", "<init>", "(Ljava/lang/String;)V"⟩ ∈ tables_1_11 := List.mem_of_getElem? (i := 125) rfl
theorem ps_309 : Cond.classLink R_SS 348 "java/lang/IllegalStateException" ∈ tables_1_11 := List.mem_of_getElem? (i := 126) rfl
theorem ps_310 : Cond.methodLink R_SS 352 ⟨"java/lang/IllegalStateException", "<init>", "(Ljava/lang/String;)V"⟩ ∈ tables_1_11 := List.mem_of_getElem? (i := 128) rfl
theorem ps_311 : Cond.instanceMethod y_SS_state ∈ tables_1_11 := List.mem_of_getElem? (i := 217) rfl
theorem ps_312 : Cond.selects R_SS y_SS_state y_SS_state ∈ tables_1_11 := List.mem_of_getElem? (i := 218) rfl
theorem ps_313 : Cond.code y_SS_state b_SS_state 3 (some (.long)) ∈ tables_1_11 := List.mem_of_getElem? (i := 219) rfl
theorem ps_314 : Cond.methodLink R_SS 356 y_SD_told ∈ tables_1_11 := List.mem_of_getElem? (i := 220) rfl
theorem ps_315 : Cond.instanceMethod y_SD_told ∈ tables_1_11 := List.mem_of_getElem? (i := 221) rfl
theorem ps_316 : Cond.selects R_SD y_SD_told y_SD_told ∈ tables_1_11 := List.mem_of_getElem? (i := 222) rfl
theorem ps_317 : Cond.code y_SD_told b_SD_told 4 (some (.long)) ∈ tables_1_11 := List.mem_of_getElem? (i := 223) rfl
theorem ps_318 : Cond.instanceMethod y_SS_field ∈ tables_1_11 := List.mem_of_getElem? (i := 232) rfl
theorem ps_319 : Cond.selects R_SS y_SS_field y_SS_field ∈ tables_1_11 := List.mem_of_getElem? (i := 233) rfl
theorem ps_320 : Cond.code y_SS_field b_SS_field 5 (some (.long)) ∈ tables_1_11 := List.mem_of_getElem? (i := 234) rfl
theorem ps_321 : Cond.instanceMethod y_SS_element ∈ tables_1_12 := List.mem_of_getElem? (i := 3) rfl
theorem ps_322 : Cond.selects R_SS y_SS_element y_SS_element ∈ tables_1_12 := List.mem_of_getElem? (i := 4) rfl
theorem ps_323 : Cond.code y_SS_element b_SS_element 4 (some (.long)) ∈ tables_1_12 := List.mem_of_getElem? (i := 5) rfl
theorem ps_324 : Cond.selects R_SS y_SS_formOf y_SS_formOf ∈ k2_sels lw_privs := List.mem_of_getElem? (i := 9) rfl
theorem ps_325 : Cond.selects R_SS y_SS_beginAnew y_SS_beginAnew ∈ k2_sels lw_privs := List.mem_of_getElem? (i := 10) rfl
theorem ps_326 : Cond.selects R_SS y_SS_keptAt y_SS_keptAt ∈ k2_sels lw_privs := List.mem_of_getElem? (i := 11) rfl
theorem ps_327 : Cond.selects R_SR y_SR_tell y_SR_tell ∈ k2_sels lw_privs := List.mem_of_getElem? (i := 12) rfl
theorem ps_328 : Cond.selects R_SR y_SR_number y_SR_number ∈ k2_sels lw_privs := List.mem_of_getElem? (i := 13) rfl
theorem ps_329 : Cond.selects R_SR y_SR_bounded y_SR_bounded ∈ k2_sels lw_privs := List.mem_of_getElem? (i := 14) rfl
theorem ps_330 : Cond.selects R_SR y_SR_readHead y_SR_readHead ∈ k2_sels lw_privs := List.mem_of_getElem? (i := 15) rfl
