def R_JA : String := "java/util/Arrays"
def R_JX : String := "java/lang/Math"
abbrev b_SS_init : ByteArray := prog_1_method_1_code
def y_SS_init : MethodName := ⟨R_SS, "<init>", "()V"⟩
abbrev b_SS_feed : ByteArray := prog_1_method_2_code
def y_SS_feed : MethodName := ⟨R_SS, "feed", "(JI)I"⟩
abbrev b_SS_take : ByteArray := prog_1_method_3_code
def y_SS_take : MethodName := ⟨R_SS, "take", "()I"⟩
abbrev b_SS_file : ByteArray := prog_1_method_4_code
def y_SS_file : MethodName := ⟨R_SS, "file", "(II)I"⟩
abbrev b_SS_byteAt : ByteArray := prog_1_method_5_code
def y_SS_byteAt : MethodName := ⟨R_SS, "byteAt", "(III)I"⟩
abbrev b_SS_entry : ByteArray := prog_1_method_6_code
def y_SS_entry : MethodName := ⟨R_SS, "entry", "(III)J"⟩
abbrev b_SS_member : ByteArray := prog_1_method_7_code
def y_SS_member : MethodName := ⟨R_SS, "member", "(III)I"⟩
abbrev b_SS_act : ByteArray := prog_1_method_8_code
def y_SS_act : MethodName := ⟨R_SS, "act", "(IIII)I"⟩
abbrev b_SS_kind : ByteArray := prog_1_method_9_code
def y_SS_kind : MethodName := ⟨R_SS, "kind", "(IIII)I"⟩
abbrev b_SS_block : ByteArray := prog_1_method_10_code
def y_SS_block : MethodName := ⟨R_SS, "block", "(IIII)I"⟩
abbrev b_SS_text : ByteArray := prog_1_method_11_code
def y_SS_text : MethodName := ⟨R_SS, "text", "(III)I"⟩
abbrev b_SS_judge : ByteArray := prog_1_method_12_code
def y_SS_judge : MethodName := ⟨R_SS, "judge", "(I)I"⟩
abbrev b_SS_edit : ByteArray := prog_1_method_13_code
def y_SS_edit : MethodName := ⟨R_SS, "edit", "(II)I"⟩
abbrev b_SS_undo : ByteArray := prog_1_method_14_code
def y_SS_undo : MethodName := ⟨R_SS, "undo", "(I)Z"⟩
abbrev b_SS_pair : ByteArray := prog_1_method_15_code
def y_SS_pair : MethodName := ⟨R_SS, "pair", "(III)I"⟩
abbrev b_SS_alike : ByteArray := prog_1_method_16_code
def y_SS_alike : MethodName := ⟨R_SS, "alike", "(III)I"⟩
abbrev b_SS_call : ByteArray := prog_1_method_17_code
def y_SS_call : MethodName := ⟨R_SS, "call", "(IIIJJ)Z"⟩
abbrev b_SS_steps : ByteArray := prog_1_method_18_code
def y_SS_steps : MethodName := ⟨R_SS, "steps", "(II)I"⟩
abbrev b_SS_state : ByteArray := prog_1_method_19_code
def y_SS_state : MethodName := ⟨R_SS, "state", "(II)J"⟩
abbrev b_SS_field : ByteArray := prog_1_method_20_code
def y_SS_field : MethodName := ⟨R_SS, "field", "(III)J"⟩
abbrev b_SS_element : ByteArray := prog_1_method_21_code
def y_SS_element : MethodName := ⟨R_SS, "element", "(III)J"⟩
abbrev b_SS_settle : ByteArray := prog_1_method_22_code
def y_SS_settle : MethodName := ⟨R_SS, "settle", "()V"⟩
abbrev b_SS_count : ByteArray := prog_1_method_23_code
def y_SS_count : MethodName := ⟨R_SS, "count", "(I)I"⟩
abbrev b_SS_formOf : ByteArray := prog_1_method_24_code
def y_SS_formOf : MethodName := ⟨R_SS, "formOf", "(I)LSourceBack$Form;"⟩
abbrev b_SS_beginAnew : ByteArray := prog_1_method_26_code
def y_SS_beginAnew : MethodName := ⟨R_SS, "beginAnew", "()V"⟩
abbrev b_SS_keptAt : ByteArray := prog_1_method_27_code
def y_SS_keptAt : MethodName := ⟨R_SS, "keptAt", "(I)LSourceBack$Form;"⟩
abbrev b_SK_init : ByteArray := prog_2_method_1_code
def y_SK_init : MethodName := ⟨R_SK, "<init>", "()V"⟩
abbrev b_SF_init : ByteArray := prog_3_method_1_code
def y_SF_init : MethodName := ⟨R_SF, "<init>", "()V"⟩
abbrev b_SQ_init : ByteArray := prog_4_method_1_code
def y_SQ_init : MethodName := ⟨R_SQ, "<init>", "()V"⟩
abbrev b_SQ_begin : ByteArray := prog_4_method_2_code
def y_SQ_begin : MethodName := ⟨R_SQ, "begin", "(I)V"⟩
abbrev b_SJ_init : ByteArray := prog_5_method_1_code
def y_SJ_init : MethodName := ⟨R_SJ, "<init>", "(LSourceBack$Maker;)V"⟩
abbrev b_SM_init : ByteArray := prog_6_method_1_code
def y_SM_init : MethodName := ⟨R_SM, "<init>", "()V"⟩
abbrev b_SN_init : ByteArray := prog_7_method_1_code
def y_SN_init : MethodName := ⟨R_SN, "<init>", "()V"⟩
abbrev b_SP_init : ByteArray := prog_8_method_1_code
def y_SP_init : MethodName := ⟨R_SP, "<init>", "(LSourceBack$Nodes;)V"⟩
abbrev b_SR_init : ByteArray := prog_9_method_1_code
def y_SR_init : MethodName := ⟨R_SR, "<init>", "()V"⟩
abbrev b_SR_read : ByteArray := prog_9_method_2_code
def y_SR_read : MethodName := ⟨R_SR, "read", "(LSourceBack$Form;I)I"⟩
abbrev b_SR_tell : ByteArray := prog_9_method_3_code
def y_SR_tell : MethodName := ⟨R_SR, "tell", "(II)V"⟩
abbrev b_SR_number : ByteArray := prog_9_method_4_code
def y_SR_number : MethodName := ⟨R_SR, "number", "(I)I"⟩
abbrev b_SR_bounded : ByteArray := prog_9_method_5_code
def y_SR_bounded : MethodName := ⟨R_SR, "bounded", "(IIII)I"⟩
abbrev b_SR_readHead : ByteArray := prog_9_method_6_code
def y_SR_readHead : MethodName := ⟨R_SR, "readHead", "(I)V"⟩
abbrev b_SD_init : ByteArray := prog_10_method_1_code
def y_SD_init : MethodName := ⟨R_SD, "<init>", "()V"⟩
abbrev b_SD_beginAnew : ByteArray := prog_10_method_2_code
def y_SD_beginAnew : MethodName := ⟨R_SD, "beginAnew", "([LSourceBack$Form;I)V"⟩
abbrev b_SD_told : ByteArray := prog_10_method_6_code
def y_SD_told : MethodName := ⟨R_SD, "told", "(I)J"⟩
abbrev b_SO_init : ByteArray := prog_11_method_1_code
def y_SO_init : MethodName := ⟨R_SO, "<init>", "()V"⟩
abbrev b_ST_init : ByteArray := prog_12_method_1_code
def y_ST_init : MethodName := ⟨R_ST, "<init>", "(LSourceBack$Nodes;)V"⟩
def sk_l : List Cond := [.initialized R_SS,
  .initialized R_SR,
  .initialized R_SF,
  .initialized R_SK,
  .initialized R_SN,
  .initialized R_ST,
  .initialized R_SP,
  .initialized R_SM,
  .initialized R_SJ,
  .initialized R_SO,
  .initialized R_SD,
  .initialized R_JA,
  .initialized R_JX,
  .initialized "java/lang/System",
  .initialized R_SQ,
  .initialized "java/lang/IllegalArgumentException",
  .initialized "java/lang/IndexOutOfBoundsException",
  .initialized "java/lang/IllegalStateException",
  .instantiable R_SS 18,
  .instanceMethod y_SS_init,
  .code y_SS_init b_SS_init 1 none,
  .methodLink R_SS 3 objectInit,
  .instanceMethod objectInit,
  .code objectInit ⟨#[0xb1]⟩ 1 none,
  .classLink R_SS 13 R_SQ,
  .classLink R_SS 26 R_SD,
  .classLink R_SS 32 R_SR,
  .instantiable R_SR 3,
  .instanceMethod y_SR_init,
  .code y_SR_init b_SR_init 1 none,
  .methodLink R_SR 3 objectInit,
  .fieldLink R_SR 9 "SourceBack$Reader" "form" "LSourceBack$Form;",
  .fieldLink R_SR 15 "SourceBack$Reader" "at" "I",
  .fieldLink R_SR 19 "SourceBack$Reader" "fault" "I",
  .arrayClass FieldType.byte,
  .arrayClass FieldType.int,
  .classLink R_SS 39 R_SF,
  .instantiable R_SF 19,
  .instanceMethod y_SF_init,
  .code y_SF_init b_SF_init 1 none,
  .methodLink R_SF 3 objectInit,
  .fieldLink R_SF 9 "SourceBack$Flow" "code" "[B",
  .fieldLink R_SS 214 "SourceBack$Flow" "acts" "I",
  .fieldLink R_SF 15 "SourceBack$Flow" "at" "[I",
  .fieldLink R_SS 237 "SourceBack$Flow" "at" "[I",
  .fieldLink R_SF 19 "SourceBack$Flow" "index" "[I",
  .fieldLink R_SF 22 "SourceBack$Flow" "deep" "[I",
  .fieldLink R_SS 243 "SourceBack$Flow" "deep" "[I",
  .fieldLink R_SF 25 "SourceBack$Flow" "low" "[J",
  .fieldLink R_SF 29 "SourceBack$Flow" "high" "[J",
  .fieldLink R_SF 32 "SourceBack$Flow" "pile" "[J",
  .arrayClass FieldType.long,
  .classLink R_SS 46 R_SK,
  .instantiable R_SK 16,
  .instanceMethod y_SK_init,
  .code y_SK_init b_SK_init 1 none,
  .methodLink R_SK 3 objectInit,
  .fieldLink R_SS 220 "SourceBack$Blocks" "count" "I",
  .fieldLink R_SS 223 "SourceBack$Blocks" "knotted" "Z",
  .fieldLink R_SK 9 "SourceBack$Blocks" "begins" "[I",
  .fieldLink R_SK 15 "SourceBack$Blocks" "holder" "[I",
  .fieldLink R_SK 18 "SourceBack$Blocks" "first" "[I",
  .fieldLink R_SK 21 "SourceBack$Blocks" "last" "[I",
  .fieldLink R_SK 24 "SourceBack$Blocks" "from" "[I",
  .fieldLink R_SK 27 "SourceBack$Blocks" "numberOf" "[I",
  .fieldLink R_SK 30 "SourceBack$Blocks" "nextWay" "[I",
  .fieldLink R_SK 33 "SourceBack$Blocks" "ends" "[I",
  .fieldLink R_SK 36 "SourceBack$Blocks" "standing" "[I",
  .fieldLink R_SK 39 "SourceBack$Blocks" "parents" "[I",
  .fieldLink R_SK 42 "SourceBack$Blocks" "marks" "[I",
  .fieldLink R_SK 45 "SourceBack$Blocks" "stack" "[I",
  .classLink R_SS 53 R_SN,
  .instantiable R_SN 2,
  .instanceMethod y_SN_init,
  .code y_SN_init b_SN_init 1 none,
  .methodLink R_SN 3 objectInit,
  .fieldLink R_SN 11 "SourceBack$Nodes" "row" "[I",
  .classLink R_SS 60 R_ST,
  .instantiable R_ST 18,
  .methodLink R_SS 62 y_ST_init,
  .instanceMethod y_ST_init,
  .code y_ST_init b_ST_init 2 none,
  .methodLink R_ST 3 objectInit,
  .fieldLink R_ST 24 "SourceBack$Tree" "nodes" "LSourceBack$Nodes;",
  .fieldLink R_ST 9 "SourceBack$Tree" "pile" "[I",
  .fieldLink R_ST 15 "SourceBack$Tree" "blockNode" "[I",
  .fieldLink R_ST 18 "SourceBack$Tree" "loopNode" "[I",
  .fieldLink R_ST 21 "SourceBack$Tree" "work" "[I",
  .classLink R_SS 69 R_SP,
  .instantiable R_SP 7,
  .methodLink R_SS 71 y_SP_init,
  .instanceMethod y_SP_init,
  .code y_SP_init b_SP_init 2 none,
  .methodLink R_SP 3 objectInit,
  .fieldLink R_SP 9 "SourceBack$Printer" "out" "[B",
  .fieldLink R_SP 19 "SourceBack$Printer" "nodes" "LSourceBack$Nodes;",
  .fieldLink R_SP 15 "SourceBack$Printer" "stack" "[I",
  .classLink R_SS 76 R_SM,
  .instantiable R_SM 20,
  .instanceMethod y_SM_init,
  .code y_SM_init b_SM_init 1 none,
  .methodLink R_SM 3 objectInit,
  .fieldLink R_SM 11 "SourceBack$Maker" "rows" "[I",
  .fieldLink R_SM 15 "SourceBack$Maker" "offsets" "[I",
  .fieldLink R_SM 18 "SourceBack$Maker" "labels" "[I",
  .fieldLink R_SM 21 "SourceBack$Maker" "keys" "[I",
  .fieldLink R_SM 24 "SourceBack$Maker" "numbers" "[J",
  .fieldLink R_SM 28 "SourceBack$Maker" "code" "[B",
  .fieldLink R_SM 32 "SourceBack$Maker" "pool" "[B",
  .fieldLink R_SM 35 "SourceBack$Maker" "entryAt" "[I",
  .fieldLink R_SS 301 "SourceBack$Maker" "entryCount" "I",
  .fieldLink R_SM 38 "SourceBack$Maker" "bodies" "[B",
  .classLink R_SS 83 R_SJ,
  .instantiable R_SJ 21,
  .methodLink R_SS 85 y_SJ_init,
  .instanceMethod y_SJ_init,
  .code y_SJ_init b_SJ_init 2 none,
  .methodLink R_SJ 3 objectInit,
  .classLink R_SJ 9 R_SO,
  .instantiable R_SO 5,
  .instanceMethod y_SO_init,
  .code y_SO_init b_SO_init 1 none,
  .methodLink R_SO 3 objectInit,
  .fieldLink R_SO 9 "SourceBack$Tokens" "text" "[B",
  .fieldLink R_SJ 12 "SourceBack$Judge" "tokens" "LSourceBack$Tokens;",
  .fieldLink R_SJ 28 "SourceBack$Judge" "maker" "LSourceBack$Maker;",
  .fieldLink R_SJ 18 "SourceBack$Judge" "stack" "[I",
  .fieldLink R_SJ 22 "SourceBack$Judge" "frames" "[I",
  .fieldLink R_SJ 25 "SourceBack$Judge" "told" "[I",
  .fieldLink R_SS 281 "SourceBack$Judge" "firstAt" "I",
  .instantiable R_SD 14,
  .instanceMethod y_SD_init,
  .code y_SD_init b_SD_init 1 none,
  .methodLink R_SD 3 objectInit,
  .classLink R_SD 9 R_SQ,
  .classLink R_SD 17 "[J",
  .fieldLink R_SD 11 "SourceBack$Side" "forms" "[LSourceBack$Form;",
  .fieldLink R_SS 336 "SourceBack$Side" "forms" "[LSourceBack$Form;",
  .fieldLink R_SD 36 "SourceBack$Side" "files" "I",
  .fieldLink R_SD 19 "SourceBack$Side" "fields" "[[J",
  .fieldLink R_SD 51 "SourceBack$Side" "arrays" "I",
  .fieldLink R_SS 362 "SourceBack$Side" "arrays" "I",
  .fieldLink R_SD 23 "SourceBack$Side" "arrayAt" "[I",
  .fieldLink R_SD 27 "SourceBack$Side" "cells" "[J",
  .fieldLink R_SD 30 "SourceBack$Side" "frames" "[I",
  .fieldLink R_SD 54 "SourceBack$Side" "open" "I",
  .fieldLink R_SD 33 "SourceBack$Side" "values" "[J",
  .fieldLink R_SD 57 "SourceBack$Side" "status" "I",
  .fieldLink R_SS 333 "SourceBack$Side" "status" "I",
  .fieldLink R_SD 60 "SourceBack$Side" "failure" "I",
  .fieldLink R_SD 63 "SourceBack$Side" "failNumber" "J",
  .fieldLink R_SD 67 "SourceBack$Side" "result" "J",
  .fieldLink R_SD 70 "SourceBack$Side" "steps" "I",
  .fieldLink R_SS 9 "SourceBack" "tape" "[B",
  .fieldLink R_SS 97 "SourceBack" "tapeLength" "I",
  .fieldLink R_SS 15 "SourceBack" "forms" "[LSourceBack$Form;",
  .fieldLink R_SS 107 "SourceBack" "fileCount" "I",
  .fieldLink R_SS 19 "SourceBack" "kept" "[LSourceBack$Form;",
  .fieldLink R_SS 22 "SourceBack" "undoable" "[I",
  .fieldLink R_SS 337 "SourceBack" "begun" "I",
  .fieldLink R_SS 28 "SourceBack" "sides" "[LSourceBack$Side;",
  .fieldLink R_SS 35 "SourceBack" "reader" "LSourceBack$Reader;",
  .fieldLink R_SS 42 "SourceBack" "flow" "LSourceBack$Flow;",
  .fieldLink R_SS 49 "SourceBack" "blocks" "LSourceBack$Blocks;",
  .fieldLink R_SS 56 "SourceBack" "nodes" "LSourceBack$Nodes;",
  .fieldLink R_SS 65 "SourceBack" "tree" "LSourceBack$Tree;",
  .fieldLink R_SS 72 "SourceBack" "printer" "LSourceBack$Printer;",
  .fieldLink R_SS 79 "SourceBack" "maker" "LSourceBack$Maker;",
  .fieldLink R_SS 88 "SourceBack" "judge" "LSourceBack$Judge;",
  .fieldLink R_SS 92 "SourceBack" "seenMember" "I",
  .instanceMethod y_SS_feed,
  .selects R_SS y_SS_feed y_SS_feed,
  .code y_SS_feed b_SS_feed 5 (some (.int)),
  .constant R_SS 100 (65536 : Int32),
  .static arraycopyName,
  .native arraycopyName,
  .instanceMethod y_SS_take,
  .selects R_SS y_SS_take y_SS_take,
  .code y_SS_take b_SS_take 5 (some (.int)),
  .methodLink R_SS 110 y_SS_keptAt,
  .instanceMethod y_SS_keptAt,
  .code y_SS_keptAt b_SS_keptAt 2 (some (.object "SourceBack$Form")),
  .instantiable R_SQ 16,
  .instanceMethod y_SQ_init,
  .code y_SQ_init b_SQ_init 1 none,
  .methodLink R_SQ 3 objectInit,
  .classLink R_SQ 25 "[B",
  .fieldLink R_SQ 9 "SourceBack$Form" "bytes" "[B",
  .fieldLink R_SS 118 "SourceBack$Form" "bytes" "[B",
  .fieldLink R_SQ 45 "SourceBack$Form" "size" "I",
  .fieldLink R_SR 54 "SourceBack$Form" "size" "I",
  .fieldLink R_SS 167 "SourceBack$Form" "size" "I",
  .fieldLink R_SR 26 "SourceBack$Form" "entryCount" "I",
  .fieldLink R_SQ 49 "SourceBack$Form" "entryCount" "I",
  .fieldLink R_SS 161 "SourceBack$Form" "entryCount" "I",
  .fieldLink R_SQ 15 "SourceBack$Form" "entryAt" "[I",
  .fieldLink R_SQ 52 "SourceBack$Form" "nameAt" "I",
  .fieldLink R_SS 148 "SourceBack$Form" "nameAt" "I",
  .fieldLink R_SD 40 "SourceBack$Form" "fields" "I",
  .fieldLink R_SQ 55 "SourceBack$Form" "fields" "I",
  .fieldLink R_SS 164 "SourceBack$Form" "fields" "I",
  .fieldLink R_SQ 19 "SourceBack$Form" "fieldEntry" "[I",
  .fieldLink R_SD 42 "SourceBack$Form" "fieldEntry" "[I",
  .fieldLink R_SQ 58 "SourceBack$Form" "members" "I",
  .fieldLink R_SS 131 "SourceBack$Form" "members" "I",
  .fieldLink R_SQ 22 "SourceBack$Form" "memberAt" "[I",
  .fieldLink R_SR 47 "SourceBack$Form" "memberAt" "[I",
  .fieldLink R_SQ 26 "SourceBack$Form" "texts" "[[B",
  .fieldLink R_SS 227 "SourceBack$Form" "texts" "[[B",
  .fieldLink R_SQ 30 "SourceBack$Form" "textKnown" "[B",
  .fieldLink R_SQ 33 "SourceBack$Form" "againKnown" "[B",
  .fieldLink R_SQ 36 "SourceBack$Form" "again" "[I",
  .fieldLink R_SS 234 "SourceBack$Form" "again" "[I",
  .fieldLink R_SQ 61 "SourceBack$Form" "madeKnown" "Z",
  .fieldLink R_SS 315 "SourceBack$Form" "madeKnown" "Z",
  .fieldLink R_SQ 65 "SourceBack$Form" "made" "LSourceBack$Form;",
  .fieldLink R_SS 177 "SourceBack$Form" "made" "LSourceBack$Form;",
  .fieldLink R_SS 309 "SourceBack$Form" "edited" "I",
  .methodLink R_SS 114 y_SQ_begin,
  .instanceMethod y_SQ_begin,
  .selects R_SQ y_SQ_begin y_SQ_begin,
  .code y_SQ_begin b_SQ_begin 2 none,
  .methodLink R_SS 121 arraycopyName,
  .methodLink R_SS 127 y_SR_read,
  .instanceMethod y_SR_read,
  .selects R_SR y_SR_read y_SR_read,
  .code y_SR_read b_SR_read 5 (some (.int)),
  .methodLink R_SR 22 y_SR_readHead,
  .instanceMethod y_SR_readHead,
  .code y_SR_readHead b_SR_readHead 3 none,
  .methodLink R_SR 65 y_SR_number,
  .instanceMethod y_SR_number,
  .code y_SR_number b_SR_number 4 (some (.int)),
  .methodLink R_SR 57 y_SR_tell,
  .instanceMethod y_SR_tell,
  .code y_SR_tell b_SR_tell 3 none,
  .constant R_SR 68 (-1341656802 : Int32),
  .methodLink R_SR 40 y_SR_bounded,
  .instanceMethod y_SR_bounded,
  .code y_SR_bounded b_SR_bounded 7 (some (.int)),
  .instantiable "java/lang/IllegalArgumentException" 6,
  .methodLink R_SS 151 y_SS_beginAnew,
  .instanceMethod y_SS_beginAnew,
  .code y_SS_beginAnew b_SS_beginAnew 1 none,
  .methodLink R_SS 374 y_SD_beginAnew,
  .instanceMethod y_SD_beginAnew,
  .selects R_SD y_SD_beginAnew y_SD_beginAnew,
  .code y_SD_beginAnew b_SD_beginAnew 7 none,
  .constantLong R_SD 49 (-1 : Int64),
  .instanceMethod y_SS_file,
  .selects R_SS y_SS_file y_SS_file,
  .code y_SS_file b_SS_file 4 (some (.int)),
  .methodLink R_SS 154 y_SS_formOf,
  .instanceMethod y_SS_formOf,
  .code y_SS_formOf b_SS_formOf 2 (some (.object "SourceBack$Form")),
  .instantiable "java/lang/IllegalStateException" 6,
  .instanceMethod y_SS_byteAt,
  .selects R_SS y_SS_byteAt y_SS_byteAt,
  .code y_SS_byteAt b_SS_byteAt 5 (some (.int)),
  .instanceMethod y_SS_member,
  .selects R_SS y_SS_member y_SS_member,
  .code y_SS_member b_SS_member 5 (some (.int)),
  .instanceMethod y_SS_act,
  .selects R_SS y_SS_act y_SS_act,
  .code y_SS_act b_SS_act 6 (some (.int)),
  .instanceMethod y_SS_kind,
  .selects R_SS y_SS_kind y_SS_kind,
  .code y_SS_kind b_SS_kind 7 (some (.int)),
  .instanceMethod y_SS_block,
  .selects R_SS y_SS_block y_SS_block,
  .code y_SS_block b_SS_block 6 (some (.int)),
  .instanceMethod y_SS_text,
  .selects R_SS y_SS_text y_SS_text,
  .code y_SS_text b_SS_text 6 (some (.int)),
  .instanceMethod y_SS_judge,
  .selects R_SS y_SS_judge y_SS_judge,
  .code y_SS_judge b_SS_judge 4 (some (.int)),
  .instanceMethod y_SS_edit,
  .selects R_SS y_SS_edit y_SS_edit,
  .code y_SS_edit b_SS_edit 7 (some (.int)),
  .instanceMethod y_SS_undo,
  .selects R_SS y_SS_undo y_SS_undo,
  .code y_SS_undo b_SS_undo 4 (some (.boolean)),
  .instanceMethod y_SS_pair,
  .selects R_SS y_SS_pair y_SS_pair,
  .code y_SS_pair b_SS_pair 6 (some (.int)),
  .instanceMethod y_SS_alike,
  .selects R_SS y_SS_alike y_SS_alike,
  .code y_SS_alike b_SS_alike 7 (some (.int)),
  .instanceMethod y_SS_call,
  .selects R_SS y_SS_call y_SS_call,
  .code y_SS_call b_SS_call 11 (some (.boolean)),
  .instanceMethod y_SS_settle,
  .selects R_SS y_SS_settle y_SS_settle,
  .code y_SS_settle b_SS_settle 1 none,
  .instanceMethod y_SS_count,
  .selects R_SS y_SS_count y_SS_count,
  .code y_SS_count b_SS_count 4 (some (.int)),
  .instanceMethod y_SS_entry,
  .selects R_SS y_SS_entry y_SS_entry,
  .code y_SS_entry b_SS_entry 5 (some (.long)),
  .classLink R_SS 188 "java/lang/IndexOutOfBoundsException",
  .instantiable "java/lang/IndexOutOfBoundsException" 6,
  .methodLink R_SS 192 ⟨"java/lang/IndexOutOfBoundsException", "<init>", "(Ljava/lang/String;)V"⟩,
  .instanceMethod y_SS_steps,
  .selects R_SS y_SS_steps y_SS_steps,
  .code y_SS_steps b_SS_steps 3 (some (.int)),
  .classLink R_SS 343 "java/lang/IllegalArgumentException",
  .methodLink R_SS 347 ⟨"java/lang/IllegalArgumentException", "<init>", "(Ljava/lang/String;)V"⟩,
  .classLink R_SS 348 "java/lang/IllegalStateException",
  .methodLink R_SS 352 ⟨"java/lang/IllegalStateException", "<init>", "(Ljava/lang/String;)V"⟩,
  .instanceMethod y_SS_state,
  .selects R_SS y_SS_state y_SS_state,
  .code y_SS_state b_SS_state 3 (some (.long)),
  .methodLink R_SS 356 y_SD_told,
  .instanceMethod y_SD_told,
  .selects R_SD y_SD_told y_SD_told,
  .code y_SD_told b_SD_told 4 (some (.long)),
  .instanceMethod y_SS_field,
  .selects R_SS y_SS_field y_SS_field,
  .code y_SS_field b_SS_field 5 (some (.long)),
  .instanceMethod y_SS_element,
  .selects R_SS y_SS_element y_SS_element,
  .code y_SS_element b_SS_element 4 (some (.long)),
  .selects R_SS y_SS_formOf y_SS_formOf,
  .selects R_SS y_SS_beginAnew y_SS_beginAnew,
  .selects R_SS y_SS_keptAt y_SS_keptAt,
  .selects R_SR y_SR_tell y_SR_tell,
  .selects R_SR y_SR_number y_SR_number,
  .selects R_SR y_SR_bounded y_SR_bounded,
  .selects R_SR y_SR_readHead y_SR_readHead]
def sk : List Cond := sk_l ++ (u_ws R_SS F_SS 18 ++ (u_ws R_SR F_SR 3 ++ (u_ws R_SF F_SF 19 ++ (u_ws R_SK F_SK 16 ++ (u_ws R_SN F_SN 2 ++ (u_ws R_ST F_ST 18 ++ (u_ws R_SP F_SP 7 ++ (u_ws R_SM F_SM 20 ++ (u_ws R_SJ F_SJ 21 ++ (u_ws R_SO F_SO 5 ++ (u_ws R_SD F_SD 14 ++ (u_ws R_SQ F_SQ 16))))))))))))
theorem i_SS : ∀ w ∈ u_ws R_SS F_SS 18, w ∈ sk := fun w h => List.mem_append_right _ (List.mem_append_left _ h)
theorem i_SR : ∀ w ∈ u_ws R_SR F_SR 3, w ∈ sk := fun w h => List.mem_append_right _ (List.mem_append_right _ (List.mem_append_left _ h))
theorem i_SF : ∀ w ∈ u_ws R_SF F_SF 19, w ∈ sk := fun w h => List.mem_append_right _ (List.mem_append_right _ (List.mem_append_right _ (List.mem_append_left _ h)))
theorem i_SK : ∀ w ∈ u_ws R_SK F_SK 16, w ∈ sk := fun w h => List.mem_append_right _ (List.mem_append_right _ (List.mem_append_right _ (List.mem_append_right _ (List.mem_append_left _ h))))
theorem i_SN : ∀ w ∈ u_ws R_SN F_SN 2, w ∈ sk := fun w h => List.mem_append_right _ (List.mem_append_right _ (List.mem_append_right _ (List.mem_append_right _ (List.mem_append_right _ (List.mem_append_left _ h)))))
theorem i_ST : ∀ w ∈ u_ws R_ST F_ST 18, w ∈ sk := fun w h => List.mem_append_right _ (List.mem_append_right _ (List.mem_append_right _ (List.mem_append_right _ (List.mem_append_right _ (List.mem_append_right _ (List.mem_append_left _ h))))))
theorem i_SP : ∀ w ∈ u_ws R_SP F_SP 7, w ∈ sk := fun w h => List.mem_append_right _ (List.mem_append_right _ (List.mem_append_right _ (List.mem_append_right _ (List.mem_append_right _ (List.mem_append_right _ (List.mem_append_right _ (List.mem_append_left _ h)))))))
theorem i_SM : ∀ w ∈ u_ws R_SM F_SM 20, w ∈ sk := fun w h => List.mem_append_right _ (List.mem_append_right _ (List.mem_append_right _ (List.mem_append_right _ (List.mem_append_right _ (List.mem_append_right _ (List.mem_append_right _ (List.mem_append_right _ (List.mem_append_left _ h))))))))
theorem i_SJ : ∀ w ∈ u_ws R_SJ F_SJ 21, w ∈ sk := fun w h => List.mem_append_right _ (List.mem_append_right _ (List.mem_append_right _ (List.mem_append_right _ (List.mem_append_right _ (List.mem_append_right _ (List.mem_append_right _ (List.mem_append_right _ (List.mem_append_right _ (List.mem_append_left _ h)))))))))
theorem i_SO : ∀ w ∈ u_ws R_SO F_SO 5, w ∈ sk := fun w h => List.mem_append_right _ (List.mem_append_right _ (List.mem_append_right _ (List.mem_append_right _ (List.mem_append_right _ (List.mem_append_right _ (List.mem_append_right _ (List.mem_append_right _ (List.mem_append_right _ (List.mem_append_right _ (List.mem_append_left _ h))))))))))
theorem i_SD : ∀ w ∈ u_ws R_SD F_SD 14, w ∈ sk := fun w h => List.mem_append_right _ (List.mem_append_right _ (List.mem_append_right _ (List.mem_append_right _ (List.mem_append_right _ (List.mem_append_right _ (List.mem_append_right _ (List.mem_append_right _ (List.mem_append_right _ (List.mem_append_right _ (List.mem_append_right _ (List.mem_append_left _ h)))))))))))
theorem i_SQ : ∀ w ∈ u_ws R_SQ F_SQ 16, w ∈ sk := fun w h => List.mem_append_right _ (List.mem_append_right _ (List.mem_append_right _ (List.mem_append_right _ (List.mem_append_right _ (List.mem_append_right _ (List.mem_append_right _ (List.mem_append_right _ (List.mem_append_right _ (List.mem_append_right _ (List.mem_append_right _ (List.mem_append_right _ (h))))))))))))
set_option maxRecDepth 100000 in
theorem g_sk : ax_good sk := fun w hw => ⟨hw, good_of_word (List.all_eq_true.mp (by decide +kernel : sk.all goodWord = true) w hw)⟩
theorem xs_0 : Cond.initialized R_SS ∈ sk := List.mem_append_left _ (List.mem_of_getElem? (i := 0) rfl)
theorem xs_1 : Cond.initialized R_SR ∈ sk := List.mem_append_left _ (List.mem_of_getElem? (i := 1) rfl)
theorem xs_2 : Cond.initialized R_SF ∈ sk := List.mem_append_left _ (List.mem_of_getElem? (i := 2) rfl)
theorem xs_3 : Cond.initialized R_SK ∈ sk := List.mem_append_left _ (List.mem_of_getElem? (i := 3) rfl)
theorem xs_4 : Cond.initialized R_SN ∈ sk := List.mem_append_left _ (List.mem_of_getElem? (i := 4) rfl)
theorem xs_5 : Cond.initialized R_ST ∈ sk := List.mem_append_left _ (List.mem_of_getElem? (i := 5) rfl)
theorem xs_6 : Cond.initialized R_SP ∈ sk := List.mem_append_left _ (List.mem_of_getElem? (i := 6) rfl)
theorem xs_7 : Cond.initialized R_SM ∈ sk := List.mem_append_left _ (List.mem_of_getElem? (i := 7) rfl)
theorem xs_8 : Cond.initialized R_SJ ∈ sk := List.mem_append_left _ (List.mem_of_getElem? (i := 8) rfl)
theorem xs_9 : Cond.initialized R_SO ∈ sk := List.mem_append_left _ (List.mem_of_getElem? (i := 9) rfl)
theorem xs_10 : Cond.initialized R_SD ∈ sk := List.mem_append_left _ (List.mem_of_getElem? (i := 10) rfl)
theorem xs_11 : Cond.initialized R_JA ∈ sk := List.mem_append_left _ (List.mem_of_getElem? (i := 11) rfl)
theorem xs_12 : Cond.initialized R_JX ∈ sk := List.mem_append_left _ (List.mem_of_getElem? (i := 12) rfl)
theorem xs_13 : Cond.initialized "java/lang/System" ∈ sk := List.mem_append_left _ (List.mem_of_getElem? (i := 13) rfl)
theorem xs_14 : Cond.initialized R_SQ ∈ sk := List.mem_append_left _ (List.mem_of_getElem? (i := 14) rfl)
theorem xs_15 : Cond.initialized "java/lang/IllegalArgumentException" ∈ sk := List.mem_append_left _ (List.mem_of_getElem? (i := 15) rfl)
theorem xs_16 : Cond.initialized "java/lang/IndexOutOfBoundsException" ∈ sk := List.mem_append_left _ (List.mem_of_getElem? (i := 16) rfl)
theorem xs_17 : Cond.initialized "java/lang/IllegalStateException" ∈ sk := List.mem_append_left _ (List.mem_of_getElem? (i := 17) rfl)
theorem xs_18 : Cond.instantiable R_SS 18 ∈ sk := List.mem_append_left _ (List.mem_of_getElem? (i := 18) rfl)
theorem xs_19 : Cond.instanceMethod y_SS_init ∈ sk := List.mem_append_left _ (List.mem_of_getElem? (i := 19) rfl)
theorem xs_20 : Cond.code y_SS_init b_SS_init 1 none ∈ sk := List.mem_append_left _ (List.mem_of_getElem? (i := 20) rfl)
theorem xs_21 : Cond.methodLink R_SS 3 objectInit ∈ sk := List.mem_append_left _ (List.mem_of_getElem? (i := 21) rfl)
theorem xs_22 : Cond.instanceMethod objectInit ∈ sk := List.mem_append_left _ (List.mem_of_getElem? (i := 22) rfl)
theorem xs_23 : Cond.code objectInit ⟨#[0xb1]⟩ 1 none ∈ sk := List.mem_append_left _ (List.mem_of_getElem? (i := 23) rfl)
theorem xs_24 : Cond.classLink R_SS 13 R_SQ ∈ sk := List.mem_append_left _ (List.mem_of_getElem? (i := 24) rfl)
theorem xs_25 : Cond.classLink R_SS 26 R_SD ∈ sk := List.mem_append_left _ (List.mem_of_getElem? (i := 25) rfl)
theorem xs_26 : Cond.classLink R_SS 32 R_SR ∈ sk := List.mem_append_left _ (List.mem_of_getElem? (i := 26) rfl)
theorem xs_27 : Cond.instantiable R_SR 3 ∈ sk := List.mem_append_left _ (List.mem_of_getElem? (i := 27) rfl)
theorem xs_28 : Cond.instanceMethod y_SR_init ∈ sk := List.mem_append_left _ (List.mem_of_getElem? (i := 28) rfl)
theorem xs_29 : Cond.code y_SR_init b_SR_init 1 none ∈ sk := List.mem_append_left _ (List.mem_of_getElem? (i := 29) rfl)
theorem xs_30 : Cond.methodLink R_SR 3 objectInit ∈ sk := List.mem_append_left _ (List.mem_of_getElem? (i := 30) rfl)
theorem xs_31 : Cond.fieldLink R_SR 9 "SourceBack$Reader" "form" "LSourceBack$Form;" ∈ sk := List.mem_append_left _ (List.mem_of_getElem? (i := 31) rfl)
theorem xs_32 : Cond.fieldLink R_SR 15 "SourceBack$Reader" "at" "I" ∈ sk := List.mem_append_left _ (List.mem_of_getElem? (i := 32) rfl)
theorem xs_33 : Cond.fieldLink R_SR 19 "SourceBack$Reader" "fault" "I" ∈ sk := List.mem_append_left _ (List.mem_of_getElem? (i := 33) rfl)
theorem xs_34 : Cond.arrayClass FieldType.byte ∈ sk := List.mem_append_left _ (List.mem_of_getElem? (i := 34) rfl)
theorem xs_35 : Cond.arrayClass FieldType.int ∈ sk := List.mem_append_left _ (List.mem_of_getElem? (i := 35) rfl)
theorem xs_36 : Cond.classLink R_SS 39 R_SF ∈ sk := List.mem_append_left _ (List.mem_of_getElem? (i := 36) rfl)
theorem xs_37 : Cond.instantiable R_SF 19 ∈ sk := List.mem_append_left _ (List.mem_of_getElem? (i := 37) rfl)
theorem xs_38 : Cond.instanceMethod y_SF_init ∈ sk := List.mem_append_left _ (List.mem_of_getElem? (i := 38) rfl)
theorem xs_39 : Cond.code y_SF_init b_SF_init 1 none ∈ sk := List.mem_append_left _ (List.mem_of_getElem? (i := 39) rfl)
theorem xs_40 : Cond.methodLink R_SF 3 objectInit ∈ sk := List.mem_append_left _ (List.mem_of_getElem? (i := 40) rfl)
theorem xs_41 : Cond.fieldLink R_SF 9 "SourceBack$Flow" "code" "[B" ∈ sk := List.mem_append_left _ (List.mem_of_getElem? (i := 41) rfl)
theorem xs_42 : Cond.fieldLink R_SS 214 "SourceBack$Flow" "acts" "I" ∈ sk := List.mem_append_left _ (List.mem_of_getElem? (i := 42) rfl)
theorem xs_43 : Cond.fieldLink R_SF 15 "SourceBack$Flow" "at" "[I" ∈ sk := List.mem_append_left _ (List.mem_of_getElem? (i := 43) rfl)
theorem xs_44 : Cond.fieldLink R_SS 237 "SourceBack$Flow" "at" "[I" ∈ sk := List.mem_append_left _ (List.mem_of_getElem? (i := 44) rfl)
theorem xs_45 : Cond.fieldLink R_SF 19 "SourceBack$Flow" "index" "[I" ∈ sk := List.mem_append_left _ (List.mem_of_getElem? (i := 45) rfl)
theorem xs_46 : Cond.fieldLink R_SF 22 "SourceBack$Flow" "deep" "[I" ∈ sk := List.mem_append_left _ (List.mem_of_getElem? (i := 46) rfl)
theorem xs_47 : Cond.fieldLink R_SS 243 "SourceBack$Flow" "deep" "[I" ∈ sk := List.mem_append_left _ (List.mem_of_getElem? (i := 47) rfl)
theorem xs_48 : Cond.fieldLink R_SF 25 "SourceBack$Flow" "low" "[J" ∈ sk := List.mem_append_left _ (List.mem_of_getElem? (i := 48) rfl)
theorem xs_49 : Cond.fieldLink R_SF 29 "SourceBack$Flow" "high" "[J" ∈ sk := List.mem_append_left _ (List.mem_of_getElem? (i := 49) rfl)
theorem xs_50 : Cond.fieldLink R_SF 32 "SourceBack$Flow" "pile" "[J" ∈ sk := List.mem_append_left _ (List.mem_of_getElem? (i := 50) rfl)
theorem xs_51 : Cond.arrayClass FieldType.long ∈ sk := List.mem_append_left _ (List.mem_of_getElem? (i := 51) rfl)
theorem xs_52 : Cond.classLink R_SS 46 R_SK ∈ sk := List.mem_append_left _ (List.mem_of_getElem? (i := 52) rfl)
theorem xs_53 : Cond.instantiable R_SK 16 ∈ sk := List.mem_append_left _ (List.mem_of_getElem? (i := 53) rfl)
theorem xs_54 : Cond.instanceMethod y_SK_init ∈ sk := List.mem_append_left _ (List.mem_of_getElem? (i := 54) rfl)
theorem xs_55 : Cond.code y_SK_init b_SK_init 1 none ∈ sk := List.mem_append_left _ (List.mem_of_getElem? (i := 55) rfl)
theorem xs_56 : Cond.methodLink R_SK 3 objectInit ∈ sk := List.mem_append_left _ (List.mem_of_getElem? (i := 56) rfl)
theorem xs_57 : Cond.fieldLink R_SS 220 "SourceBack$Blocks" "count" "I" ∈ sk := List.mem_append_left _ (List.mem_of_getElem? (i := 57) rfl)
theorem xs_58 : Cond.fieldLink R_SS 223 "SourceBack$Blocks" "knotted" "Z" ∈ sk := List.mem_append_left _ (List.mem_of_getElem? (i := 58) rfl)
theorem xs_59 : Cond.fieldLink R_SK 9 "SourceBack$Blocks" "begins" "[I" ∈ sk := List.mem_append_left _ (List.mem_of_getElem? (i := 59) rfl)
theorem xs_60 : Cond.fieldLink R_SK 15 "SourceBack$Blocks" "holder" "[I" ∈ sk := List.mem_append_left _ (List.mem_of_getElem? (i := 60) rfl)
theorem xs_61 : Cond.fieldLink R_SK 18 "SourceBack$Blocks" "first" "[I" ∈ sk := List.mem_append_left _ (List.mem_of_getElem? (i := 61) rfl)
theorem xs_62 : Cond.fieldLink R_SK 21 "SourceBack$Blocks" "last" "[I" ∈ sk := List.mem_append_left _ (List.mem_of_getElem? (i := 62) rfl)
theorem xs_63 : Cond.fieldLink R_SK 24 "SourceBack$Blocks" "from" "[I" ∈ sk := List.mem_append_left _ (List.mem_of_getElem? (i := 63) rfl)
theorem xs_64 : Cond.fieldLink R_SK 27 "SourceBack$Blocks" "numberOf" "[I" ∈ sk := List.mem_append_left _ (List.mem_of_getElem? (i := 64) rfl)
theorem xs_65 : Cond.fieldLink R_SK 30 "SourceBack$Blocks" "nextWay" "[I" ∈ sk := List.mem_append_left _ (List.mem_of_getElem? (i := 65) rfl)
theorem xs_66 : Cond.fieldLink R_SK 33 "SourceBack$Blocks" "ends" "[I" ∈ sk := List.mem_append_left _ (List.mem_of_getElem? (i := 66) rfl)
theorem xs_67 : Cond.fieldLink R_SK 36 "SourceBack$Blocks" "standing" "[I" ∈ sk := List.mem_append_left _ (List.mem_of_getElem? (i := 67) rfl)
theorem xs_68 : Cond.fieldLink R_SK 39 "SourceBack$Blocks" "parents" "[I" ∈ sk := List.mem_append_left _ (List.mem_of_getElem? (i := 68) rfl)
theorem xs_69 : Cond.fieldLink R_SK 42 "SourceBack$Blocks" "marks" "[I" ∈ sk := List.mem_append_left _ (List.mem_of_getElem? (i := 69) rfl)
theorem xs_70 : Cond.fieldLink R_SK 45 "SourceBack$Blocks" "stack" "[I" ∈ sk := List.mem_append_left _ (List.mem_of_getElem? (i := 70) rfl)
theorem xs_71 : Cond.classLink R_SS 53 R_SN ∈ sk := List.mem_append_left _ (List.mem_of_getElem? (i := 71) rfl)
theorem xs_72 : Cond.instantiable R_SN 2 ∈ sk := List.mem_append_left _ (List.mem_of_getElem? (i := 72) rfl)
theorem xs_73 : Cond.instanceMethod y_SN_init ∈ sk := List.mem_append_left _ (List.mem_of_getElem? (i := 73) rfl)
theorem xs_74 : Cond.code y_SN_init b_SN_init 1 none ∈ sk := List.mem_append_left _ (List.mem_of_getElem? (i := 74) rfl)
theorem xs_75 : Cond.methodLink R_SN 3 objectInit ∈ sk := List.mem_append_left _ (List.mem_of_getElem? (i := 75) rfl)
theorem xs_76 : Cond.fieldLink R_SN 11 "SourceBack$Nodes" "row" "[I" ∈ sk := List.mem_append_left _ (List.mem_of_getElem? (i := 76) rfl)
theorem xs_77 : Cond.classLink R_SS 60 R_ST ∈ sk := List.mem_append_left _ (List.mem_of_getElem? (i := 77) rfl)
theorem xs_78 : Cond.instantiable R_ST 18 ∈ sk := List.mem_append_left _ (List.mem_of_getElem? (i := 78) rfl)
theorem xs_79 : Cond.methodLink R_SS 62 y_ST_init ∈ sk := List.mem_append_left _ (List.mem_of_getElem? (i := 79) rfl)
theorem xs_80 : Cond.instanceMethod y_ST_init ∈ sk := List.mem_append_left _ (List.mem_of_getElem? (i := 80) rfl)
theorem xs_81 : Cond.code y_ST_init b_ST_init 2 none ∈ sk := List.mem_append_left _ (List.mem_of_getElem? (i := 81) rfl)
theorem xs_82 : Cond.methodLink R_ST 3 objectInit ∈ sk := List.mem_append_left _ (List.mem_of_getElem? (i := 82) rfl)
theorem xs_83 : Cond.fieldLink R_ST 24 "SourceBack$Tree" "nodes" "LSourceBack$Nodes;" ∈ sk := List.mem_append_left _ (List.mem_of_getElem? (i := 83) rfl)
theorem xs_84 : Cond.fieldLink R_ST 9 "SourceBack$Tree" "pile" "[I" ∈ sk := List.mem_append_left _ (List.mem_of_getElem? (i := 84) rfl)
theorem xs_85 : Cond.fieldLink R_ST 15 "SourceBack$Tree" "blockNode" "[I" ∈ sk := List.mem_append_left _ (List.mem_of_getElem? (i := 85) rfl)
theorem xs_86 : Cond.fieldLink R_ST 18 "SourceBack$Tree" "loopNode" "[I" ∈ sk := List.mem_append_left _ (List.mem_of_getElem? (i := 86) rfl)
theorem xs_87 : Cond.fieldLink R_ST 21 "SourceBack$Tree" "work" "[I" ∈ sk := List.mem_append_left _ (List.mem_of_getElem? (i := 87) rfl)
theorem xs_88 : Cond.classLink R_SS 69 R_SP ∈ sk := List.mem_append_left _ (List.mem_of_getElem? (i := 88) rfl)
theorem xs_89 : Cond.instantiable R_SP 7 ∈ sk := List.mem_append_left _ (List.mem_of_getElem? (i := 89) rfl)
theorem xs_90 : Cond.methodLink R_SS 71 y_SP_init ∈ sk := List.mem_append_left _ (List.mem_of_getElem? (i := 90) rfl)
theorem xs_91 : Cond.instanceMethod y_SP_init ∈ sk := List.mem_append_left _ (List.mem_of_getElem? (i := 91) rfl)
theorem xs_92 : Cond.code y_SP_init b_SP_init 2 none ∈ sk := List.mem_append_left _ (List.mem_of_getElem? (i := 92) rfl)
theorem xs_93 : Cond.methodLink R_SP 3 objectInit ∈ sk := List.mem_append_left _ (List.mem_of_getElem? (i := 93) rfl)
theorem xs_94 : Cond.fieldLink R_SP 9 "SourceBack$Printer" "out" "[B" ∈ sk := List.mem_append_left _ (List.mem_of_getElem? (i := 94) rfl)
theorem xs_95 : Cond.fieldLink R_SP 19 "SourceBack$Printer" "nodes" "LSourceBack$Nodes;" ∈ sk := List.mem_append_left _ (List.mem_of_getElem? (i := 95) rfl)
theorem xs_96 : Cond.fieldLink R_SP 15 "SourceBack$Printer" "stack" "[I" ∈ sk := List.mem_append_left _ (List.mem_of_getElem? (i := 96) rfl)
theorem xs_97 : Cond.classLink R_SS 76 R_SM ∈ sk := List.mem_append_left _ (List.mem_of_getElem? (i := 97) rfl)
theorem xs_98 : Cond.instantiable R_SM 20 ∈ sk := List.mem_append_left _ (List.mem_of_getElem? (i := 98) rfl)
theorem xs_99 : Cond.instanceMethod y_SM_init ∈ sk := List.mem_append_left _ (List.mem_of_getElem? (i := 99) rfl)
theorem xs_100 : Cond.code y_SM_init b_SM_init 1 none ∈ sk := List.mem_append_left _ (List.mem_of_getElem? (i := 100) rfl)
theorem xs_101 : Cond.methodLink R_SM 3 objectInit ∈ sk := List.mem_append_left _ (List.mem_of_getElem? (i := 101) rfl)
theorem xs_102 : Cond.fieldLink R_SM 11 "SourceBack$Maker" "rows" "[I" ∈ sk := List.mem_append_left _ (List.mem_of_getElem? (i := 102) rfl)
theorem xs_103 : Cond.fieldLink R_SM 15 "SourceBack$Maker" "offsets" "[I" ∈ sk := List.mem_append_left _ (List.mem_of_getElem? (i := 103) rfl)
theorem xs_104 : Cond.fieldLink R_SM 18 "SourceBack$Maker" "labels" "[I" ∈ sk := List.mem_append_left _ (List.mem_of_getElem? (i := 104) rfl)
theorem xs_105 : Cond.fieldLink R_SM 21 "SourceBack$Maker" "keys" "[I" ∈ sk := List.mem_append_left _ (List.mem_of_getElem? (i := 105) rfl)
theorem xs_106 : Cond.fieldLink R_SM 24 "SourceBack$Maker" "numbers" "[J" ∈ sk := List.mem_append_left _ (List.mem_of_getElem? (i := 106) rfl)
theorem xs_107 : Cond.fieldLink R_SM 28 "SourceBack$Maker" "code" "[B" ∈ sk := List.mem_append_left _ (List.mem_of_getElem? (i := 107) rfl)
theorem xs_108 : Cond.fieldLink R_SM 32 "SourceBack$Maker" "pool" "[B" ∈ sk := List.mem_append_left _ (List.mem_of_getElem? (i := 108) rfl)
theorem xs_109 : Cond.fieldLink R_SM 35 "SourceBack$Maker" "entryAt" "[I" ∈ sk := List.mem_append_left _ (List.mem_of_getElem? (i := 109) rfl)
theorem xs_110 : Cond.fieldLink R_SS 301 "SourceBack$Maker" "entryCount" "I" ∈ sk := List.mem_append_left _ (List.mem_of_getElem? (i := 110) rfl)
theorem xs_111 : Cond.fieldLink R_SM 38 "SourceBack$Maker" "bodies" "[B" ∈ sk := List.mem_append_left _ (List.mem_of_getElem? (i := 111) rfl)
theorem xs_112 : Cond.classLink R_SS 83 R_SJ ∈ sk := List.mem_append_left _ (List.mem_of_getElem? (i := 112) rfl)
theorem xs_113 : Cond.instantiable R_SJ 21 ∈ sk := List.mem_append_left _ (List.mem_of_getElem? (i := 113) rfl)
theorem xs_114 : Cond.methodLink R_SS 85 y_SJ_init ∈ sk := List.mem_append_left _ (List.mem_of_getElem? (i := 114) rfl)
theorem xs_115 : Cond.instanceMethod y_SJ_init ∈ sk := List.mem_append_left _ (List.mem_of_getElem? (i := 115) rfl)
theorem xs_116 : Cond.code y_SJ_init b_SJ_init 2 none ∈ sk := List.mem_append_left _ (List.mem_of_getElem? (i := 116) rfl)
theorem xs_117 : Cond.methodLink R_SJ 3 objectInit ∈ sk := List.mem_append_left _ (List.mem_of_getElem? (i := 117) rfl)
theorem xs_118 : Cond.classLink R_SJ 9 R_SO ∈ sk := List.mem_append_left _ (List.mem_of_getElem? (i := 118) rfl)
theorem xs_119 : Cond.instantiable R_SO 5 ∈ sk := List.mem_append_left _ (List.mem_of_getElem? (i := 119) rfl)
theorem xs_120 : Cond.instanceMethod y_SO_init ∈ sk := List.mem_append_left _ (List.mem_of_getElem? (i := 120) rfl)
theorem xs_121 : Cond.code y_SO_init b_SO_init 1 none ∈ sk := List.mem_append_left _ (List.mem_of_getElem? (i := 121) rfl)
theorem xs_122 : Cond.methodLink R_SO 3 objectInit ∈ sk := List.mem_append_left _ (List.mem_of_getElem? (i := 122) rfl)
theorem xs_123 : Cond.fieldLink R_SO 9 "SourceBack$Tokens" "text" "[B" ∈ sk := List.mem_append_left _ (List.mem_of_getElem? (i := 123) rfl)
theorem xs_124 : Cond.fieldLink R_SJ 12 "SourceBack$Judge" "tokens" "LSourceBack$Tokens;" ∈ sk := List.mem_append_left _ (List.mem_of_getElem? (i := 124) rfl)
theorem xs_125 : Cond.fieldLink R_SJ 28 "SourceBack$Judge" "maker" "LSourceBack$Maker;" ∈ sk := List.mem_append_left _ (List.mem_of_getElem? (i := 125) rfl)
theorem xs_126 : Cond.fieldLink R_SJ 18 "SourceBack$Judge" "stack" "[I" ∈ sk := List.mem_append_left _ (List.mem_of_getElem? (i := 126) rfl)
theorem xs_127 : Cond.fieldLink R_SJ 22 "SourceBack$Judge" "frames" "[I" ∈ sk := List.mem_append_left _ (List.mem_of_getElem? (i := 127) rfl)
theorem xs_128 : Cond.fieldLink R_SJ 25 "SourceBack$Judge" "told" "[I" ∈ sk := List.mem_append_left _ (List.mem_of_getElem? (i := 128) rfl)
theorem xs_129 : Cond.fieldLink R_SS 281 "SourceBack$Judge" "firstAt" "I" ∈ sk := List.mem_append_left _ (List.mem_of_getElem? (i := 129) rfl)
theorem xs_130 : Cond.instantiable R_SD 14 ∈ sk := List.mem_append_left _ (List.mem_of_getElem? (i := 130) rfl)
theorem xs_131 : Cond.instanceMethod y_SD_init ∈ sk := List.mem_append_left _ (List.mem_of_getElem? (i := 131) rfl)
theorem xs_132 : Cond.code y_SD_init b_SD_init 1 none ∈ sk := List.mem_append_left _ (List.mem_of_getElem? (i := 132) rfl)
theorem xs_133 : Cond.methodLink R_SD 3 objectInit ∈ sk := List.mem_append_left _ (List.mem_of_getElem? (i := 133) rfl)
theorem xs_134 : Cond.classLink R_SD 9 R_SQ ∈ sk := List.mem_append_left _ (List.mem_of_getElem? (i := 134) rfl)
theorem xs_135 : Cond.classLink R_SD 17 "[J" ∈ sk := List.mem_append_left _ (List.mem_of_getElem? (i := 135) rfl)
theorem xs_136 : Cond.fieldLink R_SD 11 "SourceBack$Side" "forms" "[LSourceBack$Form;" ∈ sk := List.mem_append_left _ (List.mem_of_getElem? (i := 136) rfl)
theorem xs_137 : Cond.fieldLink R_SS 336 "SourceBack$Side" "forms" "[LSourceBack$Form;" ∈ sk := List.mem_append_left _ (List.mem_of_getElem? (i := 137) rfl)
theorem xs_138 : Cond.fieldLink R_SD 36 "SourceBack$Side" "files" "I" ∈ sk := List.mem_append_left _ (List.mem_of_getElem? (i := 138) rfl)
theorem xs_139 : Cond.fieldLink R_SD 19 "SourceBack$Side" "fields" "[[J" ∈ sk := List.mem_append_left _ (List.mem_of_getElem? (i := 139) rfl)
theorem xs_140 : Cond.fieldLink R_SD 51 "SourceBack$Side" "arrays" "I" ∈ sk := List.mem_append_left _ (List.mem_of_getElem? (i := 140) rfl)
theorem xs_141 : Cond.fieldLink R_SS 362 "SourceBack$Side" "arrays" "I" ∈ sk := List.mem_append_left _ (List.mem_of_getElem? (i := 141) rfl)
theorem xs_142 : Cond.fieldLink R_SD 23 "SourceBack$Side" "arrayAt" "[I" ∈ sk := List.mem_append_left _ (List.mem_of_getElem? (i := 142) rfl)
theorem xs_143 : Cond.fieldLink R_SD 27 "SourceBack$Side" "cells" "[J" ∈ sk := List.mem_append_left _ (List.mem_of_getElem? (i := 143) rfl)
theorem xs_144 : Cond.fieldLink R_SD 30 "SourceBack$Side" "frames" "[I" ∈ sk := List.mem_append_left _ (List.mem_of_getElem? (i := 144) rfl)
theorem xs_145 : Cond.fieldLink R_SD 54 "SourceBack$Side" "open" "I" ∈ sk := List.mem_append_left _ (List.mem_of_getElem? (i := 145) rfl)
theorem xs_146 : Cond.fieldLink R_SD 33 "SourceBack$Side" "values" "[J" ∈ sk := List.mem_append_left _ (List.mem_of_getElem? (i := 146) rfl)
theorem xs_147 : Cond.fieldLink R_SD 57 "SourceBack$Side" "status" "I" ∈ sk := List.mem_append_left _ (List.mem_of_getElem? (i := 147) rfl)
theorem xs_148 : Cond.fieldLink R_SS 333 "SourceBack$Side" "status" "I" ∈ sk := List.mem_append_left _ (List.mem_of_getElem? (i := 148) rfl)
theorem xs_149 : Cond.fieldLink R_SD 60 "SourceBack$Side" "failure" "I" ∈ sk := List.mem_append_left _ (List.mem_of_getElem? (i := 149) rfl)
theorem xs_150 : Cond.fieldLink R_SD 63 "SourceBack$Side" "failNumber" "J" ∈ sk := List.mem_append_left _ (List.mem_of_getElem? (i := 150) rfl)
theorem xs_151 : Cond.fieldLink R_SD 67 "SourceBack$Side" "result" "J" ∈ sk := List.mem_append_left _ (List.mem_of_getElem? (i := 151) rfl)
theorem xs_152 : Cond.fieldLink R_SD 70 "SourceBack$Side" "steps" "I" ∈ sk := List.mem_append_left _ (List.mem_of_getElem? (i := 152) rfl)
theorem xs_153 : Cond.fieldLink R_SS 9 "SourceBack" "tape" "[B" ∈ sk := List.mem_append_left _ (List.mem_of_getElem? (i := 153) rfl)
theorem xs_154 : Cond.fieldLink R_SS 97 "SourceBack" "tapeLength" "I" ∈ sk := List.mem_append_left _ (List.mem_of_getElem? (i := 154) rfl)
theorem xs_155 : Cond.fieldLink R_SS 15 "SourceBack" "forms" "[LSourceBack$Form;" ∈ sk := List.mem_append_left _ (List.mem_of_getElem? (i := 155) rfl)
theorem xs_156 : Cond.fieldLink R_SS 107 "SourceBack" "fileCount" "I" ∈ sk := List.mem_append_left _ (List.mem_of_getElem? (i := 156) rfl)
theorem xs_157 : Cond.fieldLink R_SS 19 "SourceBack" "kept" "[LSourceBack$Form;" ∈ sk := List.mem_append_left _ (List.mem_of_getElem? (i := 157) rfl)
theorem xs_158 : Cond.fieldLink R_SS 22 "SourceBack" "undoable" "[I" ∈ sk := List.mem_append_left _ (List.mem_of_getElem? (i := 158) rfl)
theorem xs_159 : Cond.fieldLink R_SS 337 "SourceBack" "begun" "I" ∈ sk := List.mem_append_left _ (List.mem_of_getElem? (i := 159) rfl)
theorem xs_160 : Cond.fieldLink R_SS 28 "SourceBack" "sides" "[LSourceBack$Side;" ∈ sk := List.mem_append_left _ (List.mem_of_getElem? (i := 160) rfl)
theorem xs_161 : Cond.fieldLink R_SS 35 "SourceBack" "reader" "LSourceBack$Reader;" ∈ sk := List.mem_append_left _ (List.mem_of_getElem? (i := 161) rfl)
theorem xs_162 : Cond.fieldLink R_SS 42 "SourceBack" "flow" "LSourceBack$Flow;" ∈ sk := List.mem_append_left _ (List.mem_of_getElem? (i := 162) rfl)
theorem xs_163 : Cond.fieldLink R_SS 49 "SourceBack" "blocks" "LSourceBack$Blocks;" ∈ sk := List.mem_append_left _ (List.mem_of_getElem? (i := 163) rfl)
theorem xs_164 : Cond.fieldLink R_SS 56 "SourceBack" "nodes" "LSourceBack$Nodes;" ∈ sk := List.mem_append_left _ (List.mem_of_getElem? (i := 164) rfl)
theorem xs_165 : Cond.fieldLink R_SS 65 "SourceBack" "tree" "LSourceBack$Tree;" ∈ sk := List.mem_append_left _ (List.mem_of_getElem? (i := 165) rfl)
theorem xs_166 : Cond.fieldLink R_SS 72 "SourceBack" "printer" "LSourceBack$Printer;" ∈ sk := List.mem_append_left _ (List.mem_of_getElem? (i := 166) rfl)
theorem xs_167 : Cond.fieldLink R_SS 79 "SourceBack" "maker" "LSourceBack$Maker;" ∈ sk := List.mem_append_left _ (List.mem_of_getElem? (i := 167) rfl)
theorem xs_168 : Cond.fieldLink R_SS 88 "SourceBack" "judge" "LSourceBack$Judge;" ∈ sk := List.mem_append_left _ (List.mem_of_getElem? (i := 168) rfl)
theorem xs_169 : Cond.fieldLink R_SS 92 "SourceBack" "seenMember" "I" ∈ sk := List.mem_append_left _ (List.mem_of_getElem? (i := 169) rfl)
theorem xs_170 : Cond.instanceMethod y_SS_feed ∈ sk := List.mem_append_left _ (List.mem_of_getElem? (i := 170) rfl)
theorem xs_171 : Cond.selects R_SS y_SS_feed y_SS_feed ∈ sk := List.mem_append_left _ (List.mem_of_getElem? (i := 171) rfl)
theorem xs_172 : Cond.code y_SS_feed b_SS_feed 5 (some (.int)) ∈ sk := List.mem_append_left _ (List.mem_of_getElem? (i := 172) rfl)
theorem xs_173 : Cond.constant R_SS 100 (65536 : Int32) ∈ sk := List.mem_append_left _ (List.mem_of_getElem? (i := 173) rfl)
theorem xs_174 : Cond.static arraycopyName ∈ sk := List.mem_append_left _ (List.mem_of_getElem? (i := 174) rfl)
theorem xs_175 : Cond.native arraycopyName ∈ sk := List.mem_append_left _ (List.mem_of_getElem? (i := 175) rfl)
theorem xs_176 : Cond.instanceMethod y_SS_take ∈ sk := List.mem_append_left _ (List.mem_of_getElem? (i := 176) rfl)
theorem xs_177 : Cond.selects R_SS y_SS_take y_SS_take ∈ sk := List.mem_append_left _ (List.mem_of_getElem? (i := 177) rfl)
theorem xs_178 : Cond.code y_SS_take b_SS_take 5 (some (.int)) ∈ sk := List.mem_append_left _ (List.mem_of_getElem? (i := 178) rfl)
theorem xs_179 : Cond.methodLink R_SS 110 y_SS_keptAt ∈ sk := List.mem_append_left _ (List.mem_of_getElem? (i := 179) rfl)
theorem xs_180 : Cond.instanceMethod y_SS_keptAt ∈ sk := List.mem_append_left _ (List.mem_of_getElem? (i := 180) rfl)
theorem xs_181 : Cond.code y_SS_keptAt b_SS_keptAt 2 (some (.object "SourceBack$Form")) ∈ sk := List.mem_append_left _ (List.mem_of_getElem? (i := 181) rfl)
theorem xs_182 : Cond.instantiable R_SQ 16 ∈ sk := List.mem_append_left _ (List.mem_of_getElem? (i := 182) rfl)
theorem xs_183 : Cond.instanceMethod y_SQ_init ∈ sk := List.mem_append_left _ (List.mem_of_getElem? (i := 183) rfl)
theorem xs_184 : Cond.code y_SQ_init b_SQ_init 1 none ∈ sk := List.mem_append_left _ (List.mem_of_getElem? (i := 184) rfl)
theorem xs_185 : Cond.methodLink R_SQ 3 objectInit ∈ sk := List.mem_append_left _ (List.mem_of_getElem? (i := 185) rfl)
theorem xs_186 : Cond.classLink R_SQ 25 "[B" ∈ sk := List.mem_append_left _ (List.mem_of_getElem? (i := 186) rfl)
theorem xs_187 : Cond.fieldLink R_SQ 9 "SourceBack$Form" "bytes" "[B" ∈ sk := List.mem_append_left _ (List.mem_of_getElem? (i := 187) rfl)
theorem xs_188 : Cond.fieldLink R_SS 118 "SourceBack$Form" "bytes" "[B" ∈ sk := List.mem_append_left _ (List.mem_of_getElem? (i := 188) rfl)
theorem xs_189 : Cond.fieldLink R_SQ 45 "SourceBack$Form" "size" "I" ∈ sk := List.mem_append_left _ (List.mem_of_getElem? (i := 189) rfl)
theorem xs_190 : Cond.fieldLink R_SR 54 "SourceBack$Form" "size" "I" ∈ sk := List.mem_append_left _ (List.mem_of_getElem? (i := 190) rfl)
theorem xs_191 : Cond.fieldLink R_SS 167 "SourceBack$Form" "size" "I" ∈ sk := List.mem_append_left _ (List.mem_of_getElem? (i := 191) rfl)
theorem xs_192 : Cond.fieldLink R_SR 26 "SourceBack$Form" "entryCount" "I" ∈ sk := List.mem_append_left _ (List.mem_of_getElem? (i := 192) rfl)
theorem xs_193 : Cond.fieldLink R_SQ 49 "SourceBack$Form" "entryCount" "I" ∈ sk := List.mem_append_left _ (List.mem_of_getElem? (i := 193) rfl)
theorem xs_194 : Cond.fieldLink R_SS 161 "SourceBack$Form" "entryCount" "I" ∈ sk := List.mem_append_left _ (List.mem_of_getElem? (i := 194) rfl)
theorem xs_195 : Cond.fieldLink R_SQ 15 "SourceBack$Form" "entryAt" "[I" ∈ sk := List.mem_append_left _ (List.mem_of_getElem? (i := 195) rfl)
theorem xs_196 : Cond.fieldLink R_SQ 52 "SourceBack$Form" "nameAt" "I" ∈ sk := List.mem_append_left _ (List.mem_of_getElem? (i := 196) rfl)
theorem xs_197 : Cond.fieldLink R_SS 148 "SourceBack$Form" "nameAt" "I" ∈ sk := List.mem_append_left _ (List.mem_of_getElem? (i := 197) rfl)
theorem xs_198 : Cond.fieldLink R_SD 40 "SourceBack$Form" "fields" "I" ∈ sk := List.mem_append_left _ (List.mem_of_getElem? (i := 198) rfl)
theorem xs_199 : Cond.fieldLink R_SQ 55 "SourceBack$Form" "fields" "I" ∈ sk := List.mem_append_left _ (List.mem_of_getElem? (i := 199) rfl)
theorem xs_200 : Cond.fieldLink R_SS 164 "SourceBack$Form" "fields" "I" ∈ sk := List.mem_append_left _ (List.mem_of_getElem? (i := 200) rfl)
theorem xs_201 : Cond.fieldLink R_SQ 19 "SourceBack$Form" "fieldEntry" "[I" ∈ sk := List.mem_append_left _ (List.mem_of_getElem? (i := 201) rfl)
theorem xs_202 : Cond.fieldLink R_SD 42 "SourceBack$Form" "fieldEntry" "[I" ∈ sk := List.mem_append_left _ (List.mem_of_getElem? (i := 202) rfl)
theorem xs_203 : Cond.fieldLink R_SQ 58 "SourceBack$Form" "members" "I" ∈ sk := List.mem_append_left _ (List.mem_of_getElem? (i := 203) rfl)
theorem xs_204 : Cond.fieldLink R_SS 131 "SourceBack$Form" "members" "I" ∈ sk := List.mem_append_left _ (List.mem_of_getElem? (i := 204) rfl)
theorem xs_205 : Cond.fieldLink R_SQ 22 "SourceBack$Form" "memberAt" "[I" ∈ sk := List.mem_append_left _ (List.mem_of_getElem? (i := 205) rfl)
theorem xs_206 : Cond.fieldLink R_SR 47 "SourceBack$Form" "memberAt" "[I" ∈ sk := List.mem_append_left _ (List.mem_of_getElem? (i := 206) rfl)
theorem xs_207 : Cond.fieldLink R_SQ 26 "SourceBack$Form" "texts" "[[B" ∈ sk := List.mem_append_left _ (List.mem_of_getElem? (i := 207) rfl)
theorem xs_208 : Cond.fieldLink R_SS 227 "SourceBack$Form" "texts" "[[B" ∈ sk := List.mem_append_left _ (List.mem_of_getElem? (i := 208) rfl)
theorem xs_209 : Cond.fieldLink R_SQ 30 "SourceBack$Form" "textKnown" "[B" ∈ sk := List.mem_append_left _ (List.mem_of_getElem? (i := 209) rfl)
theorem xs_210 : Cond.fieldLink R_SQ 33 "SourceBack$Form" "againKnown" "[B" ∈ sk := List.mem_append_left _ (List.mem_of_getElem? (i := 210) rfl)
theorem xs_211 : Cond.fieldLink R_SQ 36 "SourceBack$Form" "again" "[I" ∈ sk := List.mem_append_left _ (List.mem_of_getElem? (i := 211) rfl)
theorem xs_212 : Cond.fieldLink R_SS 234 "SourceBack$Form" "again" "[I" ∈ sk := List.mem_append_left _ (List.mem_of_getElem? (i := 212) rfl)
theorem xs_213 : Cond.fieldLink R_SQ 61 "SourceBack$Form" "madeKnown" "Z" ∈ sk := List.mem_append_left _ (List.mem_of_getElem? (i := 213) rfl)
theorem xs_214 : Cond.fieldLink R_SS 315 "SourceBack$Form" "madeKnown" "Z" ∈ sk := List.mem_append_left _ (List.mem_of_getElem? (i := 214) rfl)
theorem xs_215 : Cond.fieldLink R_SQ 65 "SourceBack$Form" "made" "LSourceBack$Form;" ∈ sk := List.mem_append_left _ (List.mem_of_getElem? (i := 215) rfl)
theorem xs_216 : Cond.fieldLink R_SS 177 "SourceBack$Form" "made" "LSourceBack$Form;" ∈ sk := List.mem_append_left _ (List.mem_of_getElem? (i := 216) rfl)
theorem xs_217 : Cond.fieldLink R_SS 309 "SourceBack$Form" "edited" "I" ∈ sk := List.mem_append_left _ (List.mem_of_getElem? (i := 217) rfl)
theorem xs_218 : Cond.methodLink R_SS 114 y_SQ_begin ∈ sk := List.mem_append_left _ (List.mem_of_getElem? (i := 218) rfl)
theorem xs_219 : Cond.instanceMethod y_SQ_begin ∈ sk := List.mem_append_left _ (List.mem_of_getElem? (i := 219) rfl)
theorem xs_220 : Cond.selects R_SQ y_SQ_begin y_SQ_begin ∈ sk := List.mem_append_left _ (List.mem_of_getElem? (i := 220) rfl)
theorem xs_221 : Cond.code y_SQ_begin b_SQ_begin 2 none ∈ sk := List.mem_append_left _ (List.mem_of_getElem? (i := 221) rfl)
theorem xs_222 : Cond.methodLink R_SS 121 arraycopyName ∈ sk := List.mem_append_left _ (List.mem_of_getElem? (i := 222) rfl)
theorem xs_223 : Cond.methodLink R_SS 127 y_SR_read ∈ sk := List.mem_append_left _ (List.mem_of_getElem? (i := 223) rfl)
theorem xs_224 : Cond.instanceMethod y_SR_read ∈ sk := List.mem_append_left _ (List.mem_of_getElem? (i := 224) rfl)
theorem xs_225 : Cond.selects R_SR y_SR_read y_SR_read ∈ sk := List.mem_append_left _ (List.mem_of_getElem? (i := 225) rfl)
theorem xs_226 : Cond.code y_SR_read b_SR_read 5 (some (.int)) ∈ sk := List.mem_append_left _ (List.mem_of_getElem? (i := 226) rfl)
theorem xs_227 : Cond.methodLink R_SR 22 y_SR_readHead ∈ sk := List.mem_append_left _ (List.mem_of_getElem? (i := 227) rfl)
theorem xs_228 : Cond.instanceMethod y_SR_readHead ∈ sk := List.mem_append_left _ (List.mem_of_getElem? (i := 228) rfl)
theorem xs_229 : Cond.code y_SR_readHead b_SR_readHead 3 none ∈ sk := List.mem_append_left _ (List.mem_of_getElem? (i := 229) rfl)
theorem xs_230 : Cond.methodLink R_SR 65 y_SR_number ∈ sk := List.mem_append_left _ (List.mem_of_getElem? (i := 230) rfl)
theorem xs_231 : Cond.instanceMethod y_SR_number ∈ sk := List.mem_append_left _ (List.mem_of_getElem? (i := 231) rfl)
theorem xs_232 : Cond.code y_SR_number b_SR_number 4 (some (.int)) ∈ sk := List.mem_append_left _ (List.mem_of_getElem? (i := 232) rfl)
theorem xs_233 : Cond.methodLink R_SR 57 y_SR_tell ∈ sk := List.mem_append_left _ (List.mem_of_getElem? (i := 233) rfl)
theorem xs_234 : Cond.instanceMethod y_SR_tell ∈ sk := List.mem_append_left _ (List.mem_of_getElem? (i := 234) rfl)
theorem xs_235 : Cond.code y_SR_tell b_SR_tell 3 none ∈ sk := List.mem_append_left _ (List.mem_of_getElem? (i := 235) rfl)
theorem xs_236 : Cond.constant R_SR 68 (-1341656802 : Int32) ∈ sk := List.mem_append_left _ (List.mem_of_getElem? (i := 236) rfl)
theorem xs_237 : Cond.methodLink R_SR 40 y_SR_bounded ∈ sk := List.mem_append_left _ (List.mem_of_getElem? (i := 237) rfl)
theorem xs_238 : Cond.instanceMethod y_SR_bounded ∈ sk := List.mem_append_left _ (List.mem_of_getElem? (i := 238) rfl)
theorem xs_239 : Cond.code y_SR_bounded b_SR_bounded 7 (some (.int)) ∈ sk := List.mem_append_left _ (List.mem_of_getElem? (i := 239) rfl)
theorem xs_240 : Cond.instantiable "java/lang/IllegalArgumentException" 6 ∈ sk := List.mem_append_left _ (List.mem_of_getElem? (i := 240) rfl)
theorem xs_241 : Cond.methodLink R_SS 151 y_SS_beginAnew ∈ sk := List.mem_append_left _ (List.mem_of_getElem? (i := 241) rfl)
theorem xs_242 : Cond.instanceMethod y_SS_beginAnew ∈ sk := List.mem_append_left _ (List.mem_of_getElem? (i := 242) rfl)
theorem xs_243 : Cond.code y_SS_beginAnew b_SS_beginAnew 1 none ∈ sk := List.mem_append_left _ (List.mem_of_getElem? (i := 243) rfl)
theorem xs_244 : Cond.methodLink R_SS 374 y_SD_beginAnew ∈ sk := List.mem_append_left _ (List.mem_of_getElem? (i := 244) rfl)
theorem xs_245 : Cond.instanceMethod y_SD_beginAnew ∈ sk := List.mem_append_left _ (List.mem_of_getElem? (i := 245) rfl)
theorem xs_246 : Cond.selects R_SD y_SD_beginAnew y_SD_beginAnew ∈ sk := List.mem_append_left _ (List.mem_of_getElem? (i := 246) rfl)
theorem xs_247 : Cond.code y_SD_beginAnew b_SD_beginAnew 7 none ∈ sk := List.mem_append_left _ (List.mem_of_getElem? (i := 247) rfl)
theorem xs_248 : Cond.constantLong R_SD 49 (-1 : Int64) ∈ sk := List.mem_append_left _ (List.mem_of_getElem? (i := 248) rfl)
theorem xs_249 : Cond.instanceMethod y_SS_file ∈ sk := List.mem_append_left _ (List.mem_of_getElem? (i := 249) rfl)
theorem xs_250 : Cond.selects R_SS y_SS_file y_SS_file ∈ sk := List.mem_append_left _ (List.mem_of_getElem? (i := 250) rfl)
theorem xs_251 : Cond.code y_SS_file b_SS_file 4 (some (.int)) ∈ sk := List.mem_append_left _ (List.mem_of_getElem? (i := 251) rfl)
theorem xs_252 : Cond.methodLink R_SS 154 y_SS_formOf ∈ sk := List.mem_append_left _ (List.mem_of_getElem? (i := 252) rfl)
theorem xs_253 : Cond.instanceMethod y_SS_formOf ∈ sk := List.mem_append_left _ (List.mem_of_getElem? (i := 253) rfl)
theorem xs_254 : Cond.code y_SS_formOf b_SS_formOf 2 (some (.object "SourceBack$Form")) ∈ sk := List.mem_append_left _ (List.mem_of_getElem? (i := 254) rfl)
theorem xs_255 : Cond.instantiable "java/lang/IllegalStateException" 6 ∈ sk := List.mem_append_left _ (List.mem_of_getElem? (i := 255) rfl)
theorem xs_256 : Cond.instanceMethod y_SS_byteAt ∈ sk := List.mem_append_left _ (List.mem_of_getElem? (i := 256) rfl)
theorem xs_257 : Cond.selects R_SS y_SS_byteAt y_SS_byteAt ∈ sk := List.mem_append_left _ (List.mem_of_getElem? (i := 257) rfl)
theorem xs_258 : Cond.code y_SS_byteAt b_SS_byteAt 5 (some (.int)) ∈ sk := List.mem_append_left _ (List.mem_of_getElem? (i := 258) rfl)
theorem xs_259 : Cond.instanceMethod y_SS_member ∈ sk := List.mem_append_left _ (List.mem_of_getElem? (i := 259) rfl)
theorem xs_260 : Cond.selects R_SS y_SS_member y_SS_member ∈ sk := List.mem_append_left _ (List.mem_of_getElem? (i := 260) rfl)
theorem xs_261 : Cond.code y_SS_member b_SS_member 5 (some (.int)) ∈ sk := List.mem_append_left _ (List.mem_of_getElem? (i := 261) rfl)
theorem xs_262 : Cond.instanceMethod y_SS_act ∈ sk := List.mem_append_left _ (List.mem_of_getElem? (i := 262) rfl)
theorem xs_263 : Cond.selects R_SS y_SS_act y_SS_act ∈ sk := List.mem_append_left _ (List.mem_of_getElem? (i := 263) rfl)
theorem xs_264 : Cond.code y_SS_act b_SS_act 6 (some (.int)) ∈ sk := List.mem_append_left _ (List.mem_of_getElem? (i := 264) rfl)
theorem xs_265 : Cond.instanceMethod y_SS_kind ∈ sk := List.mem_append_left _ (List.mem_of_getElem? (i := 265) rfl)
theorem xs_266 : Cond.selects R_SS y_SS_kind y_SS_kind ∈ sk := List.mem_append_left _ (List.mem_of_getElem? (i := 266) rfl)
theorem xs_267 : Cond.code y_SS_kind b_SS_kind 7 (some (.int)) ∈ sk := List.mem_append_left _ (List.mem_of_getElem? (i := 267) rfl)
theorem xs_268 : Cond.instanceMethod y_SS_block ∈ sk := List.mem_append_left _ (List.mem_of_getElem? (i := 268) rfl)
theorem xs_269 : Cond.selects R_SS y_SS_block y_SS_block ∈ sk := List.mem_append_left _ (List.mem_of_getElem? (i := 269) rfl)
theorem xs_270 : Cond.code y_SS_block b_SS_block 6 (some (.int)) ∈ sk := List.mem_append_left _ (List.mem_of_getElem? (i := 270) rfl)
theorem xs_271 : Cond.instanceMethod y_SS_text ∈ sk := List.mem_append_left _ (List.mem_of_getElem? (i := 271) rfl)
theorem xs_272 : Cond.selects R_SS y_SS_text y_SS_text ∈ sk := List.mem_append_left _ (List.mem_of_getElem? (i := 272) rfl)
theorem xs_273 : Cond.code y_SS_text b_SS_text 6 (some (.int)) ∈ sk := List.mem_append_left _ (List.mem_of_getElem? (i := 273) rfl)
theorem xs_274 : Cond.instanceMethod y_SS_judge ∈ sk := List.mem_append_left _ (List.mem_of_getElem? (i := 274) rfl)
theorem xs_275 : Cond.selects R_SS y_SS_judge y_SS_judge ∈ sk := List.mem_append_left _ (List.mem_of_getElem? (i := 275) rfl)
theorem xs_276 : Cond.code y_SS_judge b_SS_judge 4 (some (.int)) ∈ sk := List.mem_append_left _ (List.mem_of_getElem? (i := 276) rfl)
theorem xs_277 : Cond.instanceMethod y_SS_edit ∈ sk := List.mem_append_left _ (List.mem_of_getElem? (i := 277) rfl)
theorem xs_278 : Cond.selects R_SS y_SS_edit y_SS_edit ∈ sk := List.mem_append_left _ (List.mem_of_getElem? (i := 278) rfl)
theorem xs_279 : Cond.code y_SS_edit b_SS_edit 7 (some (.int)) ∈ sk := List.mem_append_left _ (List.mem_of_getElem? (i := 279) rfl)
theorem xs_280 : Cond.instanceMethod y_SS_undo ∈ sk := List.mem_append_left _ (List.mem_of_getElem? (i := 280) rfl)
theorem xs_281 : Cond.selects R_SS y_SS_undo y_SS_undo ∈ sk := List.mem_append_left _ (List.mem_of_getElem? (i := 281) rfl)
theorem xs_282 : Cond.code y_SS_undo b_SS_undo 4 (some (.boolean)) ∈ sk := List.mem_append_left _ (List.mem_of_getElem? (i := 282) rfl)
theorem xs_283 : Cond.instanceMethod y_SS_pair ∈ sk := List.mem_append_left _ (List.mem_of_getElem? (i := 283) rfl)
theorem xs_284 : Cond.selects R_SS y_SS_pair y_SS_pair ∈ sk := List.mem_append_left _ (List.mem_of_getElem? (i := 284) rfl)
theorem xs_285 : Cond.code y_SS_pair b_SS_pair 6 (some (.int)) ∈ sk := List.mem_append_left _ (List.mem_of_getElem? (i := 285) rfl)
theorem xs_286 : Cond.instanceMethod y_SS_alike ∈ sk := List.mem_append_left _ (List.mem_of_getElem? (i := 286) rfl)
theorem xs_287 : Cond.selects R_SS y_SS_alike y_SS_alike ∈ sk := List.mem_append_left _ (List.mem_of_getElem? (i := 287) rfl)
theorem xs_288 : Cond.code y_SS_alike b_SS_alike 7 (some (.int)) ∈ sk := List.mem_append_left _ (List.mem_of_getElem? (i := 288) rfl)
theorem xs_289 : Cond.instanceMethod y_SS_call ∈ sk := List.mem_append_left _ (List.mem_of_getElem? (i := 289) rfl)
theorem xs_290 : Cond.selects R_SS y_SS_call y_SS_call ∈ sk := List.mem_append_left _ (List.mem_of_getElem? (i := 290) rfl)
theorem xs_291 : Cond.code y_SS_call b_SS_call 11 (some (.boolean)) ∈ sk := List.mem_append_left _ (List.mem_of_getElem? (i := 291) rfl)
theorem xs_292 : Cond.instanceMethod y_SS_settle ∈ sk := List.mem_append_left _ (List.mem_of_getElem? (i := 292) rfl)
theorem xs_293 : Cond.selects R_SS y_SS_settle y_SS_settle ∈ sk := List.mem_append_left _ (List.mem_of_getElem? (i := 293) rfl)
theorem xs_294 : Cond.code y_SS_settle b_SS_settle 1 none ∈ sk := List.mem_append_left _ (List.mem_of_getElem? (i := 294) rfl)
theorem xs_295 : Cond.instanceMethod y_SS_count ∈ sk := List.mem_append_left _ (List.mem_of_getElem? (i := 295) rfl)
theorem xs_296 : Cond.selects R_SS y_SS_count y_SS_count ∈ sk := List.mem_append_left _ (List.mem_of_getElem? (i := 296) rfl)
theorem xs_297 : Cond.code y_SS_count b_SS_count 4 (some (.int)) ∈ sk := List.mem_append_left _ (List.mem_of_getElem? (i := 297) rfl)
theorem xs_298 : Cond.instanceMethod y_SS_entry ∈ sk := List.mem_append_left _ (List.mem_of_getElem? (i := 298) rfl)
theorem xs_299 : Cond.selects R_SS y_SS_entry y_SS_entry ∈ sk := List.mem_append_left _ (List.mem_of_getElem? (i := 299) rfl)
theorem xs_300 : Cond.code y_SS_entry b_SS_entry 5 (some (.long)) ∈ sk := List.mem_append_left _ (List.mem_of_getElem? (i := 300) rfl)
theorem xs_301 : Cond.classLink R_SS 188 "java/lang/IndexOutOfBoundsException" ∈ sk := List.mem_append_left _ (List.mem_of_getElem? (i := 301) rfl)
theorem xs_302 : Cond.instantiable "java/lang/IndexOutOfBoundsException" 6 ∈ sk := List.mem_append_left _ (List.mem_of_getElem? (i := 302) rfl)
theorem xs_303 : Cond.methodLink R_SS 192 ⟨"java/lang/IndexOutOfBoundsException", "<init>", "(Ljava/lang/String;)V"⟩ ∈ sk := List.mem_append_left _ (List.mem_of_getElem? (i := 303) rfl)
theorem xs_304 : Cond.instanceMethod y_SS_steps ∈ sk := List.mem_append_left _ (List.mem_of_getElem? (i := 304) rfl)
theorem xs_305 : Cond.selects R_SS y_SS_steps y_SS_steps ∈ sk := List.mem_append_left _ (List.mem_of_getElem? (i := 305) rfl)
theorem xs_306 : Cond.code y_SS_steps b_SS_steps 3 (some (.int)) ∈ sk := List.mem_append_left _ (List.mem_of_getElem? (i := 306) rfl)
theorem xs_307 : Cond.classLink R_SS 343 "java/lang/IllegalArgumentException" ∈ sk := List.mem_append_left _ (List.mem_of_getElem? (i := 307) rfl)
theorem xs_308 : Cond.methodLink R_SS 347 ⟨"java/lang/IllegalArgumentException", "<init>", "(Ljava/lang/String;)V"⟩ ∈ sk := List.mem_append_left _ (List.mem_of_getElem? (i := 308) rfl)
theorem xs_309 : Cond.classLink R_SS 348 "java/lang/IllegalStateException" ∈ sk := List.mem_append_left _ (List.mem_of_getElem? (i := 309) rfl)
theorem xs_310 : Cond.methodLink R_SS 352 ⟨"java/lang/IllegalStateException", "<init>", "(Ljava/lang/String;)V"⟩ ∈ sk := List.mem_append_left _ (List.mem_of_getElem? (i := 310) rfl)
theorem xs_311 : Cond.instanceMethod y_SS_state ∈ sk := List.mem_append_left _ (List.mem_of_getElem? (i := 311) rfl)
theorem xs_312 : Cond.selects R_SS y_SS_state y_SS_state ∈ sk := List.mem_append_left _ (List.mem_of_getElem? (i := 312) rfl)
theorem xs_313 : Cond.code y_SS_state b_SS_state 3 (some (.long)) ∈ sk := List.mem_append_left _ (List.mem_of_getElem? (i := 313) rfl)
theorem xs_314 : Cond.methodLink R_SS 356 y_SD_told ∈ sk := List.mem_append_left _ (List.mem_of_getElem? (i := 314) rfl)
theorem xs_315 : Cond.instanceMethod y_SD_told ∈ sk := List.mem_append_left _ (List.mem_of_getElem? (i := 315) rfl)
theorem xs_316 : Cond.selects R_SD y_SD_told y_SD_told ∈ sk := List.mem_append_left _ (List.mem_of_getElem? (i := 316) rfl)
theorem xs_317 : Cond.code y_SD_told b_SD_told 4 (some (.long)) ∈ sk := List.mem_append_left _ (List.mem_of_getElem? (i := 317) rfl)
theorem xs_318 : Cond.instanceMethod y_SS_field ∈ sk := List.mem_append_left _ (List.mem_of_getElem? (i := 318) rfl)
theorem xs_319 : Cond.selects R_SS y_SS_field y_SS_field ∈ sk := List.mem_append_left _ (List.mem_of_getElem? (i := 319) rfl)
theorem xs_320 : Cond.code y_SS_field b_SS_field 5 (some (.long)) ∈ sk := List.mem_append_left _ (List.mem_of_getElem? (i := 320) rfl)
theorem xs_321 : Cond.instanceMethod y_SS_element ∈ sk := List.mem_append_left _ (List.mem_of_getElem? (i := 321) rfl)
theorem xs_322 : Cond.selects R_SS y_SS_element y_SS_element ∈ sk := List.mem_append_left _ (List.mem_of_getElem? (i := 322) rfl)
theorem xs_323 : Cond.code y_SS_element b_SS_element 4 (some (.long)) ∈ sk := List.mem_append_left _ (List.mem_of_getElem? (i := 323) rfl)
theorem xs_324 : Cond.selects R_SS y_SS_formOf y_SS_formOf ∈ sk := List.mem_append_left _ (List.mem_of_getElem? (i := 324) rfl)
theorem xs_325 : Cond.selects R_SS y_SS_beginAnew y_SS_beginAnew ∈ sk := List.mem_append_left _ (List.mem_of_getElem? (i := 325) rfl)
theorem xs_326 : Cond.selects R_SS y_SS_keptAt y_SS_keptAt ∈ sk := List.mem_append_left _ (List.mem_of_getElem? (i := 326) rfl)
theorem xs_327 : Cond.selects R_SR y_SR_tell y_SR_tell ∈ sk := List.mem_append_left _ (List.mem_of_getElem? (i := 327) rfl)
theorem xs_328 : Cond.selects R_SR y_SR_number y_SR_number ∈ sk := List.mem_append_left _ (List.mem_of_getElem? (i := 328) rfl)
theorem xs_329 : Cond.selects R_SR y_SR_bounded y_SR_bounded ∈ sk := List.mem_append_left _ (List.mem_of_getElem? (i := 329) rfl)
theorem xs_330 : Cond.selects R_SR y_SR_readHead y_SR_readHead ∈ sk := List.mem_append_left _ (List.mem_of_getElem? (i := 330) rfl)
/-- links to private members of nest mates -/
def sk_n : List Cond := [.methodLinkNest R_SS 34 y_SR_init "SourceBack",
  .methodLinkNest R_SS 41 y_SF_init "SourceBack",
  .methodLinkNest R_SS 48 y_SK_init "SourceBack",
  .methodLinkNest R_SS 55 y_SN_init "SourceBack",
  .methodLinkNest R_SS 78 y_SM_init "SourceBack",
  .methodLinkNest R_SJ 11 y_SO_init "SourceBack",
  .methodLinkNest R_SS 96 y_SD_init "SourceBack",
  .methodLinkNest R_SS 377 y_SQ_init "SourceBack"]
theorem zs_0 : Cond.methodLinkNest R_SS 34 y_SR_init "SourceBack" ∈ sk_n := List.mem_of_getElem? (i := 0) rfl
theorem zs_1 : Cond.methodLinkNest R_SS 41 y_SF_init "SourceBack" ∈ sk_n := List.mem_of_getElem? (i := 1) rfl
theorem zs_2 : Cond.methodLinkNest R_SS 48 y_SK_init "SourceBack" ∈ sk_n := List.mem_of_getElem? (i := 2) rfl
theorem zs_3 : Cond.methodLinkNest R_SS 55 y_SN_init "SourceBack" ∈ sk_n := List.mem_of_getElem? (i := 3) rfl
theorem zs_4 : Cond.methodLinkNest R_SS 78 y_SM_init "SourceBack" ∈ sk_n := List.mem_of_getElem? (i := 4) rfl
theorem zs_5 : Cond.methodLinkNest R_SJ 11 y_SO_init "SourceBack" ∈ sk_n := List.mem_of_getElem? (i := 5) rfl
theorem zs_6 : Cond.methodLinkNest R_SS 96 y_SD_init "SourceBack" ∈ sk_n := List.mem_of_getElem? (i := 6) rfl
theorem zs_7 : Cond.methodLinkNest R_SS 377 y_SQ_init "SourceBack" ∈ sk_n := List.mem_of_getElem? (i := 7) rfl
def sk_ao : List String := ["SourceBack$Form", "SourceBack$Side"]
/-- the array kind over an array kind -/
def sAO (t : FieldType) (U : State) : Prop := ∃ (comp cA : ClassId) (kA : Class), U.vm.findClass (FieldType.array t).toString = some comp ∧ (U.vm.classes.findIdx? fun (x : Class) => match x.kind with | .array component _ => component == comp | _ => false) = some cA ∧ U.vm.classes[cA]? = some kA ∧ kA.kind = .array comp (.array t)
theorem ax_AOA {t : FieldType} {u U : State} (hvm : u.vm.Alike U.vm) (h : sAO t u) : sAO t U := by
  obtain ⟨comp, cA, kA, h1, h2, h3, h4⟩ := h
  obtain ⟨k', hk', he⟩ := hvm.2.2 _ _ h3
  have hi : (U.vm.classes.findIdx? fun (x : Class) => match x.kind with | .array component _ => component == comp | _ => false) = some cA := by
    rw [hvm.findIdx?_eqK _ (fun _ => rfl)]
    exact h2
  exact ⟨comp, cA, k', by rw [hvm.findClass]; exact h1, hi, hk', by rw [he]; exact h4⟩
def sK (dC : Nat → ClassId) (dI : Nat → Nat → Nat) (ca : Nat → ClassId) (U : State) : Prop := va_K (dC, dI) classes (ax_tys ca) U ∧ (∀ w ∈ sk_n, va_Nw w U) ∧ (∀ C ∈ sk_ao, va_AO C U) ∧ sAO .byte U ∧ sAO .long U
theorem sk_n_ok : ∀ w ∈ sk_n, ax_isN w = true := fun w h => List.all_eq_true.mp (by decide +kernel : sk_n.all ax_isN = true) w h
theorem sK_bl (dC : Nat → ClassId) (dI : Nat → Nat → Nat) (ca : Nat → ClassId) : ax_bl (sK dC dI ca) :=
  fun U g mk a h => ⟨va_K.moved (u := U) (U := U.calling g mk a) (Vm.Alike.refl U.vm) h.1, fun w hw => va_Nw.same (u := U) (U := U.calling g mk a) (ax_onN (sk_n_ok w hw)) rfl (h.2.1 w hw), fun C hC => va_AO.moved (u := U) (U := U.calling g mk a) (Vm.Alike.refl U.vm) (h.2.2.1 C hC), ax_AOA (u := U) (U := U.calling g mk a) (Vm.Alike.refl U.vm) h.2.2.2.1, ax_AOA (u := U) (U := U.calling g mk a) (Vm.Alike.refl U.vm) h.2.2.2.2⟩
theorem sK_up {dC : Nat → ClassId} {dI : Nat → Nat → Nat} {ca : Nat → ClassId} {s : State} {H : Heap} (h : sK dC dI ca s) : ∀ U : State, U.heap = H → s.WarmedH U.vm → sK dC dI ca U :=
  fun U _ hW => ⟨va_K.moved hW.alike h.1, fun w hw => ax_warmN (sk_n_ok w hw) hW (h.2.1 w hw), fun C hC => va_AO.moved hW.alike (h.2.2.1 C hC), ax_AOA hW.alike h.2.2.2.1, ax_AOA hW.alike h.2.2.2.2⟩

