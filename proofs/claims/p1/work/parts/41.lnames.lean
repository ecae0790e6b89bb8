/-! THE TABLES' WORDS -/
def R_LW : String := "SourceBackLaw"
def lw_okq (q : MethodName × Nat) : Prop := (q.1.cls ≠ "java/lang/invoke/MethodHandle" ∧ q.1.cls ≠ "java/lang/invoke/VarHandle") ∧ Cond.instantiable q.1.cls q.2 ∈ tables_1 ∧ Cond.privateMethod q.1 ∈ tables_1 ∧ Cond.instanceMethod q.1 ∈ tables_1
theorem lw_p0 : lw_okq (⟨"SourceBackModel", "must", "(ZII)V"⟩, 132) := ⟨⟨by decide +kernel, by decide +kernel⟩, List.mem_of_getElem? (i := 2649) (by decide +kernel), List.mem_of_getElem? (i := 3374) (by decide +kernel), List.mem_of_getElem? (i := 3375) (by decide +kernel)⟩
theorem lw_p1 : lw_okq (⟨"SourceBackModel", "reads", "(I)J"⟩, 132) := ⟨⟨by decide +kernel, by decide +kernel⟩, List.mem_of_getElem? (i := 2649) (by decide +kernel), List.mem_of_getElem? (i := 3386) (by decide +kernel), List.mem_of_getElem? (i := 3387) (by decide +kernel)⟩
theorem lw_p2 : lw_okq (⟨"SourceBackModel", "newBox", "()LSourceBackModel$Box;"⟩, 132) := ⟨⟨by decide +kernel, by decide +kernel⟩, List.mem_of_getElem? (i := 2649) (by decide +kernel), List.mem_of_getElem? (i := 3282) (by decide +kernel), List.mem_of_getElem? (i := 3283) (by decide +kernel)⟩
theorem lw_p3 : lw_okq (⟨"SourceBackModel", "gives", "(LSourceBackModel$Box;)V"⟩, 132) := ⟨⟨by decide +kernel, by decide +kernel⟩, List.mem_of_getElem? (i := 2649) (by decide +kernel), List.mem_of_getElem? (i := 4326) (by decide +kernel), List.mem_of_getElem? (i := 4327) (by decide +kernel)⟩
theorem lw_p4 : lw_okq (⟨"SourceBackModel", "readsFile", "()V"⟩, 132) := ⟨⟨by decide +kernel, by decide +kernel⟩, List.mem_of_getElem? (i := 2649) (by decide +kernel), List.mem_of_getElem? (i := 3382) (by decide +kernel), List.mem_of_getElem? (i := 3383) (by decide +kernel)⟩
theorem lw_p5 : lw_okq (⟨"SourceBackModel", "act", "(LSourceBackModel$Member;I)V"⟩, 132) := ⟨⟨by decide +kernel, by decide +kernel⟩, List.mem_of_getElem? (i := 2649) (by decide +kernel), List.mem_of_getElem? (i := 3710) (by decide +kernel), List.mem_of_getElem? (i := 3711) (by decide +kernel)⟩
theorem lw_p6 : lw_okq (⟨"SourceBackModel", "member", "(II)I"⟩, 132) := ⟨⟨by decide +kernel, by decide +kernel⟩, List.mem_of_getElem? (i := 2649) (by decide +kernel), List.mem_of_getElem? (i := 4118) (by decide +kernel), List.mem_of_getElem? (i := 4119) (by decide +kernel)⟩
theorem lw_p7 : lw_okq (⟨"SourceBackModel", "isMember", "(II)Z"⟩, 132) := ⟨⟨by decide +kernel, by decide +kernel⟩, List.mem_of_getElem? (i := 2649) (by decide +kernel), List.mem_of_getElem? (i := 4356) (by decide +kernel), List.mem_of_getElem? (i := 4357) (by decide +kernel)⟩
theorem lw_p8 : lw_okq (⟨"SourceBackModel", "settles", "()V"⟩, 132) := ⟨⟨by decide +kernel, by decide +kernel⟩, List.mem_of_getElem? (i := 2649) (by decide +kernel), List.mem_of_getElem? (i := 4321) (by decide +kernel), List.mem_of_getElem? (i := 4322) (by decide +kernel)⟩
theorem lw_p9 : lw_okq (⟨"SourceBack", "formOf", "(I)LSourceBack$Form;"⟩, 18) := ⟨⟨by decide +kernel, by decide +kernel⟩, List.mem_of_getElem? (i := 40) (by decide +kernel), List.mem_of_getElem? (i := 1324) (by decide +kernel), List.mem_of_getElem? (i := 1325) (by decide +kernel)⟩
theorem lw_p10 : lw_okq (⟨"SourceBack", "beginAnew", "()V"⟩, 18) := ⟨⟨by decide +kernel, by decide +kernel⟩, List.mem_of_getElem? (i := 40) (by decide +kernel), List.mem_of_getElem? (i := 1310) (by decide +kernel), List.mem_of_getElem? (i := 1311) (by decide +kernel)⟩
theorem lw_p11 : lw_okq (⟨"SourceBack", "keptAt", "(I)LSourceBack$Form;"⟩, 18) := ⟨⟨by decide +kernel, by decide +kernel⟩, List.mem_of_getElem? (i := 40) (by decide +kernel), List.mem_of_getElem? (i := 624) (by decide +kernel), List.mem_of_getElem? (i := 625) (by decide +kernel)⟩
theorem lw_p12 : lw_okq (⟨"SourceBack$Reader", "tell", "(II)V"⟩, 3) := ⟨⟨by decide +kernel, by decide +kernel⟩, List.mem_of_getElem? (i := 52) (by decide +kernel), List.mem_of_getElem? (i := 735) (by decide +kernel), List.mem_of_getElem? (i := 736) (by decide +kernel)⟩
theorem lw_p13 : lw_okq (⟨"SourceBack$Reader", "number", "(I)I"⟩, 3) := ⟨⟨by decide +kernel, by decide +kernel⟩, List.mem_of_getElem? (i := 52) (by decide +kernel), List.mem_of_getElem? (i := 731) (by decide +kernel), List.mem_of_getElem? (i := 732) (by decide +kernel)⟩
theorem lw_p14 : lw_okq (⟨"SourceBack$Reader", "bounded", "(IIII)I"⟩, 3) := ⟨⟨by decide +kernel, by decide +kernel⟩, List.mem_of_getElem? (i := 52) (by decide +kernel), List.mem_of_getElem? (i := 744) (by decide +kernel), List.mem_of_getElem? (i := 745) (by decide +kernel)⟩
theorem lw_p15 : lw_okq (⟨"SourceBack$Reader", "readHead", "(I)V"⟩, 3) := ⟨⟨by decide +kernel, by decide +kernel⟩, List.mem_of_getElem? (i := 52) (by decide +kernel), List.mem_of_getElem? (i := 727) (by decide +kernel), List.mem_of_getElem? (i := 728) (by decide +kernel)⟩
def lw_privs : List (MethodName × Nat) := [(⟨"SourceBackModel", "must", "(ZII)V"⟩, 132), (⟨"SourceBackModel", "reads", "(I)J"⟩, 132), (⟨"SourceBackModel", "newBox", "()LSourceBackModel$Box;"⟩, 132), (⟨"SourceBackModel", "gives", "(LSourceBackModel$Box;)V"⟩, 132), (⟨"SourceBackModel", "readsFile", "()V"⟩, 132), (⟨"SourceBackModel", "act", "(LSourceBackModel$Member;I)V"⟩, 132), (⟨"SourceBackModel", "member", "(II)I"⟩, 132), (⟨"SourceBackModel", "isMember", "(II)Z"⟩, 132), (⟨"SourceBackModel", "settles", "()V"⟩, 132), (⟨"SourceBack", "formOf", "(I)LSourceBack$Form;"⟩, 18), (⟨"SourceBack", "beginAnew", "()V"⟩, 18), (⟨"SourceBack", "keptAt", "(I)LSourceBack$Form;"⟩, 18), (⟨"SourceBack$Reader", "tell", "(II)V"⟩, 3), (⟨"SourceBack$Reader", "number", "(I)I"⟩, 3), (⟨"SourceBack$Reader", "bounded", "(IIII)I"⟩, 3), (⟨"SourceBack$Reader", "readHead", "(I)V"⟩, 3)]
def lw_tbl : List Cond := k2_sels lw_privs ++ tables_1
theorem lw_privs_ok : ∀ q ∈ lw_privs, lw_okq q := (List.forall_mem_cons.mpr ⟨lw_p0, (List.forall_mem_cons.mpr ⟨lw_p1, (List.forall_mem_cons.mpr ⟨lw_p2, (List.forall_mem_cons.mpr ⟨lw_p3, (List.forall_mem_cons.mpr ⟨lw_p4, (List.forall_mem_cons.mpr ⟨lw_p5, (List.forall_mem_cons.mpr ⟨lw_p6, (List.forall_mem_cons.mpr ⟨lw_p7, (List.forall_mem_cons.mpr ⟨lw_p8, (List.forall_mem_cons.mpr ⟨lw_p9, (List.forall_mem_cons.mpr ⟨lw_p10, (List.forall_mem_cons.mpr ⟨lw_p11, (List.forall_mem_cons.mpr ⟨lw_p12, (List.forall_mem_cons.mpr ⟨lw_p13, (List.forall_mem_cons.mpr ⟨lw_p14, (List.forall_mem_cons.mpr ⟨lw_p15, (fun q h => absurd h List.not_mem_nil)⟩)⟩)⟩)⟩)⟩)⟩)⟩)⟩)⟩)⟩)⟩)⟩)⟩)⟩)⟩)⟩)
abbrev b_LW_entry : ByteArray := method_3_code
def y_LW_entry : MethodName := ⟨R_LW, "entry", "(LSourceBack;III[J)I"⟩
abbrev b_LW_steps : ByteArray := method_4_code
def y_LW_steps : MethodName := ⟨R_LW, "steps", "(LSourceBack;II[J)I"⟩
abbrev b_LW_state : ByteArray := method_5_code
def y_LW_state : MethodName := ⟨R_LW, "state", "(LSourceBack;II[J)I"⟩
abbrev b_LW_field : ByteArray := method_6_code
def y_LW_field : MethodName := ⟨R_LW, "field", "(LSourceBack;III[J)I"⟩
abbrev b_LW_element : ByteArray := method_7_code
def y_LW_element : MethodName := ⟨R_LW, "element", "(LSourceBack;III[J)I"⟩
def lk_l : List Cond := [.initialized R_LW,
  .classLink R_LW 8 R_SS,
  .methodLink R_LW 33 y_SS_init,
  .methodLink R_LW 39 y_SS_feed,
  .methodLink R_LW 44 y_SS_take,
  .methodLink R_LW 49 y_SS_file,
  .methodLink R_LW 53 y_SS_byteAt,
  .methodLink R_LW 67 y_SS_member,
  .methodLink R_LW 71 y_SS_act,
  .methodLink R_LW 76 y_SS_kind,
  .methodLink R_LW 80 y_SS_block,
  .methodLink R_LW 84 y_SS_text,
  .methodLink R_LW 88 y_SS_judge,
  .methodLink R_LW 93 y_SS_edit,
  .methodLink R_LW 97 y_SS_undo,
  .methodLink R_LW 102 y_SS_pair,
  .methodLink R_LW 106 y_SS_alike,
  .methodLink R_LW 110 y_SS_call,
  .methodLink R_LW 128 y_SS_settle,
  .methodLink R_LW 132 y_SS_count,
  .methodLink R_LW 58 y_LW_entry,
  .static y_LW_entry,
  .codeWith y_LW_entry b_LW_entry 6 (some (.int)) [(0, 11, 14, 13)],
  .classLink R_LW 13 "java/lang/IndexOutOfBoundsException",
  .methodLink R_LW 7 y_SS_entry,
  .methodLink R_LW 115 y_LW_steps,
  .static y_LW_steps,
  .codeWith y_LW_steps b_LW_steps 5 (some (.int)) [(0, 10, 13, 19), (0, 10, 17, 21)],
  .classLink R_LW 19 "java/lang/IllegalArgumentException",
  .classLink R_LW 21 "java/lang/IllegalStateException",
  .methodLink R_LW 15 y_SS_steps,
  .methodLink R_LW 119 y_LW_state,
  .static y_LW_state,
  .codeWith y_LW_state b_LW_state 5 (some (.int)) [(0, 9, 12, 13)],
  .methodLink R_LW 23 y_SS_state,
  .methodLink R_LW 122 y_LW_field,
  .static y_LW_field,
  .codeWith y_LW_field b_LW_field 6 (some (.int)) [(0, 11, 14, 13)],
  .methodLink R_LW 27 y_SS_field,
  .methodLink R_LW 125 y_LW_element,
  .static y_LW_element,
  .codeWith y_LW_element b_LW_element 6 (some (.int)) [(0, 11, 14, 13)],
  .methodLink R_LW 30 y_SS_element,
  .classLink R_LW 34 R_MM,
  .methodLink R_LW 36 y_MM_init,
  .methodLink R_LW 64 y_MM_thrown,
  .methodLink R_LW 43 y_MM_feed,
  .methodLink R_LW 48 y_MM_take,
  .methodLink R_LW 92 y_MM_judge,
  .methodLink R_LW 96 y_MM_edit,
  .methodLink R_LW 101 y_MM_undo,
  .methodLink R_LW 105 y_MM_pair,
  .methodLink R_LW 109 y_MM_alike,
  .methodLink R_LW 131 y_MM_settle,
  .methodLink R_LW 114 y_MM_call,
  .methodLink R_LW 118 y_MM_steps,
  .methodLink R_LW 52 y_MM_file,
  .methodLink R_LW 57 y_MM_byteAt,
  .methodLink R_LW 63 y_MM_entry,
  .methodLink R_LW 70 y_MM_member_1,
  .methodLink R_LW 75 y_MM_act_0,
  .methodLink R_LW 79 y_MM_kind,
  .methodLink R_LW 83 y_MM_block,
  .methodLink R_LW 87 y_MM_text,
  .methodLink R_LW 121 y_MM_state,
  .methodLink R_LW 124 y_MM_field,
  .methodLink R_LW 127 y_MM_element,
  .methodLink R_LW 135 y_MM_count,
  .constantLong R_LW 37 (4294967295 : Int64)]
def lk : List Cond := lk_l ++ (wm ++ sk)
theorem xl_0 : Cond.initialized R_LW ∈ lk := List.mem_append_left _ (List.mem_of_getElem? (i := 0) rfl)
theorem xl_1 : Cond.classLink R_LW 8 R_SS ∈ lk := List.mem_append_left _ (List.mem_of_getElem? (i := 1) rfl)
theorem xl_2 : Cond.methodLink R_LW 33 y_SS_init ∈ lk := List.mem_append_left _ (List.mem_of_getElem? (i := 2) rfl)
theorem xl_3 : Cond.methodLink R_LW 39 y_SS_feed ∈ lk := List.mem_append_left _ (List.mem_of_getElem? (i := 3) rfl)
theorem xl_4 : Cond.methodLink R_LW 44 y_SS_take ∈ lk := List.mem_append_left _ (List.mem_of_getElem? (i := 4) rfl)
theorem xl_5 : Cond.methodLink R_LW 49 y_SS_file ∈ lk := List.mem_append_left _ (List.mem_of_getElem? (i := 5) rfl)
theorem xl_6 : Cond.methodLink R_LW 53 y_SS_byteAt ∈ lk := List.mem_append_left _ (List.mem_of_getElem? (i := 6) rfl)
theorem xl_7 : Cond.methodLink R_LW 67 y_SS_member ∈ lk := List.mem_append_left _ (List.mem_of_getElem? (i := 7) rfl)
theorem xl_8 : Cond.methodLink R_LW 71 y_SS_act ∈ lk := List.mem_append_left _ (List.mem_of_getElem? (i := 8) rfl)
theorem xl_9 : Cond.methodLink R_LW 76 y_SS_kind ∈ lk := List.mem_append_left _ (List.mem_of_getElem? (i := 9) rfl)
theorem xl_10 : Cond.methodLink R_LW 80 y_SS_block ∈ lk := List.mem_append_left _ (List.mem_of_getElem? (i := 10) rfl)
theorem xl_11 : Cond.methodLink R_LW 84 y_SS_text ∈ lk := List.mem_append_left _ (List.mem_of_getElem? (i := 11) rfl)
theorem xl_12 : Cond.methodLink R_LW 88 y_SS_judge ∈ lk := List.mem_append_left _ (List.mem_of_getElem? (i := 12) rfl)
theorem xl_13 : Cond.methodLink R_LW 93 y_SS_edit ∈ lk := List.mem_append_left _ (List.mem_of_getElem? (i := 13) rfl)
theorem xl_14 : Cond.methodLink R_LW 97 y_SS_undo ∈ lk := List.mem_append_left _ (List.mem_of_getElem? (i := 14) rfl)
theorem xl_15 : Cond.methodLink R_LW 102 y_SS_pair ∈ lk := List.mem_append_left _ (List.mem_of_getElem? (i := 15) rfl)
theorem xl_16 : Cond.methodLink R_LW 106 y_SS_alike ∈ lk := List.mem_append_left _ (List.mem_of_getElem? (i := 16) rfl)
theorem xl_17 : Cond.methodLink R_LW 110 y_SS_call ∈ lk := List.mem_append_left _ (List.mem_of_getElem? (i := 17) rfl)
theorem xl_18 : Cond.methodLink R_LW 128 y_SS_settle ∈ lk := List.mem_append_left _ (List.mem_of_getElem? (i := 18) rfl)
theorem xl_19 : Cond.methodLink R_LW 132 y_SS_count ∈ lk := List.mem_append_left _ (List.mem_of_getElem? (i := 19) rfl)
theorem xl_20 : Cond.methodLink R_LW 58 y_LW_entry ∈ lk := List.mem_append_left _ (List.mem_of_getElem? (i := 20) rfl)
theorem xl_21 : Cond.static y_LW_entry ∈ lk := List.mem_append_left _ (List.mem_of_getElem? (i := 21) rfl)
theorem xl_22 : Cond.codeWith y_LW_entry b_LW_entry 6 (some (.int)) [(0, 11, 14, 13)] ∈ lk := List.mem_append_left _ (List.mem_of_getElem? (i := 22) rfl)
theorem xl_23 : Cond.classLink R_LW 13 "java/lang/IndexOutOfBoundsException" ∈ lk := List.mem_append_left _ (List.mem_of_getElem? (i := 23) rfl)
theorem xl_24 : Cond.methodLink R_LW 7 y_SS_entry ∈ lk := List.mem_append_left _ (List.mem_of_getElem? (i := 24) rfl)
theorem xl_25 : Cond.methodLink R_LW 115 y_LW_steps ∈ lk := List.mem_append_left _ (List.mem_of_getElem? (i := 25) rfl)
theorem xl_26 : Cond.static y_LW_steps ∈ lk := List.mem_append_left _ (List.mem_of_getElem? (i := 26) rfl)
theorem xl_27 : Cond.codeWith y_LW_steps b_LW_steps 5 (some (.int)) [(0, 10, 13, 19), (0, 10, 17, 21)] ∈ lk := List.mem_append_left _ (List.mem_of_getElem? (i := 27) rfl)
theorem xl_28 : Cond.classLink R_LW 19 "java/lang/IllegalArgumentException" ∈ lk := List.mem_append_left _ (List.mem_of_getElem? (i := 28) rfl)
theorem xl_29 : Cond.classLink R_LW 21 "java/lang/IllegalStateException" ∈ lk := List.mem_append_left _ (List.mem_of_getElem? (i := 29) rfl)
theorem xl_30 : Cond.methodLink R_LW 15 y_SS_steps ∈ lk := List.mem_append_left _ (List.mem_of_getElem? (i := 30) rfl)
theorem xl_31 : Cond.methodLink R_LW 119 y_LW_state ∈ lk := List.mem_append_left _ (List.mem_of_getElem? (i := 31) rfl)
theorem xl_32 : Cond.static y_LW_state ∈ lk := List.mem_append_left _ (List.mem_of_getElem? (i := 32) rfl)
theorem xl_33 : Cond.codeWith y_LW_state b_LW_state 5 (some (.int)) [(0, 9, 12, 13)] ∈ lk := List.mem_append_left _ (List.mem_of_getElem? (i := 33) rfl)
theorem xl_34 : Cond.methodLink R_LW 23 y_SS_state ∈ lk := List.mem_append_left _ (List.mem_of_getElem? (i := 34) rfl)
theorem xl_35 : Cond.methodLink R_LW 122 y_LW_field ∈ lk := List.mem_append_left _ (List.mem_of_getElem? (i := 35) rfl)
theorem xl_36 : Cond.static y_LW_field ∈ lk := List.mem_append_left _ (List.mem_of_getElem? (i := 36) rfl)
theorem xl_37 : Cond.codeWith y_LW_field b_LW_field 6 (some (.int)) [(0, 11, 14, 13)] ∈ lk := List.mem_append_left _ (List.mem_of_getElem? (i := 37) rfl)
theorem xl_38 : Cond.methodLink R_LW 27 y_SS_field ∈ lk := List.mem_append_left _ (List.mem_of_getElem? (i := 38) rfl)
theorem xl_39 : Cond.methodLink R_LW 125 y_LW_element ∈ lk := List.mem_append_left _ (List.mem_of_getElem? (i := 39) rfl)
theorem xl_40 : Cond.static y_LW_element ∈ lk := List.mem_append_left _ (List.mem_of_getElem? (i := 40) rfl)
theorem xl_41 : Cond.codeWith y_LW_element b_LW_element 6 (some (.int)) [(0, 11, 14, 13)] ∈ lk := List.mem_append_left _ (List.mem_of_getElem? (i := 41) rfl)
theorem xl_42 : Cond.methodLink R_LW 30 y_SS_element ∈ lk := List.mem_append_left _ (List.mem_of_getElem? (i := 42) rfl)
theorem xl_43 : Cond.classLink R_LW 34 R_MM ∈ lk := List.mem_append_left _ (List.mem_of_getElem? (i := 43) rfl)
theorem xl_44 : Cond.methodLink R_LW 36 y_MM_init ∈ lk := List.mem_append_left _ (List.mem_of_getElem? (i := 44) rfl)
theorem xl_45 : Cond.methodLink R_LW 64 y_MM_thrown ∈ lk := List.mem_append_left _ (List.mem_of_getElem? (i := 45) rfl)
theorem xl_46 : Cond.methodLink R_LW 43 y_MM_feed ∈ lk := List.mem_append_left _ (List.mem_of_getElem? (i := 46) rfl)
theorem xl_47 : Cond.methodLink R_LW 48 y_MM_take ∈ lk := List.mem_append_left _ (List.mem_of_getElem? (i := 47) rfl)
theorem xl_48 : Cond.methodLink R_LW 92 y_MM_judge ∈ lk := List.mem_append_left _ (List.mem_of_getElem? (i := 48) rfl)
theorem xl_49 : Cond.methodLink R_LW 96 y_MM_edit ∈ lk := List.mem_append_left _ (List.mem_of_getElem? (i := 49) rfl)
theorem xl_50 : Cond.methodLink R_LW 101 y_MM_undo ∈ lk := List.mem_append_left _ (List.mem_of_getElem? (i := 50) rfl)
theorem xl_51 : Cond.methodLink R_LW 105 y_MM_pair ∈ lk := List.mem_append_left _ (List.mem_of_getElem? (i := 51) rfl)
theorem xl_52 : Cond.methodLink R_LW 109 y_MM_alike ∈ lk := List.mem_append_left _ (List.mem_of_getElem? (i := 52) rfl)
theorem xl_53 : Cond.methodLink R_LW 131 y_MM_settle ∈ lk := List.mem_append_left _ (List.mem_of_getElem? (i := 53) rfl)
theorem xl_54 : Cond.methodLink R_LW 114 y_MM_call ∈ lk := List.mem_append_left _ (List.mem_of_getElem? (i := 54) rfl)
theorem xl_55 : Cond.methodLink R_LW 118 y_MM_steps ∈ lk := List.mem_append_left _ (List.mem_of_getElem? (i := 55) rfl)
theorem xl_56 : Cond.methodLink R_LW 52 y_MM_file ∈ lk := List.mem_append_left _ (List.mem_of_getElem? (i := 56) rfl)
theorem xl_57 : Cond.methodLink R_LW 57 y_MM_byteAt ∈ lk := List.mem_append_left _ (List.mem_of_getElem? (i := 57) rfl)
theorem xl_58 : Cond.methodLink R_LW 63 y_MM_entry ∈ lk := List.mem_append_left _ (List.mem_of_getElem? (i := 58) rfl)
theorem xl_59 : Cond.methodLink R_LW 70 y_MM_member_1 ∈ lk := List.mem_append_left _ (List.mem_of_getElem? (i := 59) rfl)
theorem xl_60 : Cond.methodLink R_LW 75 y_MM_act_0 ∈ lk := List.mem_append_left _ (List.mem_of_getElem? (i := 60) rfl)
theorem xl_61 : Cond.methodLink R_LW 79 y_MM_kind ∈ lk := List.mem_append_left _ (List.mem_of_getElem? (i := 61) rfl)
theorem xl_62 : Cond.methodLink R_LW 83 y_MM_block ∈ lk := List.mem_append_left _ (List.mem_of_getElem? (i := 62) rfl)
theorem xl_63 : Cond.methodLink R_LW 87 y_MM_text ∈ lk := List.mem_append_left _ (List.mem_of_getElem? (i := 63) rfl)
theorem xl_64 : Cond.methodLink R_LW 121 y_MM_state ∈ lk := List.mem_append_left _ (List.mem_of_getElem? (i := 64) rfl)
theorem xl_65 : Cond.methodLink R_LW 124 y_MM_field ∈ lk := List.mem_append_left _ (List.mem_of_getElem? (i := 65) rfl)
theorem xl_66 : Cond.methodLink R_LW 127 y_MM_element ∈ lk := List.mem_append_left _ (List.mem_of_getElem? (i := 66) rfl)
theorem xl_67 : Cond.methodLink R_LW 135 y_MM_count ∈ lk := List.mem_append_left _ (List.mem_of_getElem? (i := 67) rfl)
theorem xl_68 : Cond.constantLong R_LW 37 (4294967295 : Int64) ∈ lk := List.mem_append_left _ (List.mem_of_getElem? (i := 68) rfl)
theorem wm_lk : ∀ w ∈ wm, w ∈ lk := fun w h => List.mem_append_right _ (List.mem_append_left _ h)
theorem sk_lk : ∀ w ∈ sk, w ∈ lk := fun w h => List.mem_append_right _ (List.mem_append_right _ h)
theorem g_lk : ax_good lk := fun w hw => ⟨hw, by
  rcases List.mem_append.mp hw with h | h
  · exact good_of_word (List.all_eq_true.mp (by decide +kernel : lk_l.all goodWord = true) w h)
  · rcases List.mem_append.mp h with h | h
    · exact (g_wm w h).2
    · exact (g_sk w h).2⟩
theorem ax_places {T ws : List Cond} (is : List Nat) (h : is.map (fun i => T[i]?) = ws.map some) : ∀ w ∈ ws, w ∈ T := by
  intro w hw
  have h1 : some w ∈ ws.map some := List.mem_map.mpr ⟨w, hw, rfl⟩
  rw [← h] at h1
  obtain ⟨i, -, hi⟩ := List.mem_map.mp h1
  exact List.mem_of_getElem? hi
