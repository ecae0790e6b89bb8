theorem d_SS_entry_0 : decode b_SS_entry 0 = .ok (.aload_n 0, 1) := by decide +kernel
theorem d_SS_entry_1 : decode b_SS_entry 1 = .ok (.iload_n 1, 1) := by decide +kernel
theorem d_SS_entry_2 : decode b_SS_entry 2 = .ok (.invokevirtual 154, 3) := by decide +kernel
theorem d_SS_entry_5 : decode b_SS_entry 5 = .ok (.astore 4, 2) := by decide +kernel
theorem d_SS_entry_7 : decode b_SS_entry 7 = .ok (.aload 4, 2) := by decide +kernel
theorem d_SS_entry_9 : decode b_SS_entry 9 = .ok (.ifnull 13, 3) := by decide +kernel
theorem d_SS_entry_22 : decode b_SS_entry 22 = .ok (.new 188, 3) := by decide +kernel
theorem d_SS_entry_25 : decode b_SS_entry 25 = .ok (.dup, 1) := by decide +kernel
theorem d_SS_entry_26 : decode b_SS_entry 26 = .ok (.ldc 190, 2) := by decide +kernel
theorem d_SS_entry_28 : decode b_SS_entry 28 = .ok (.invokespecial 192, 3) := by decide +kernel
theorem d_SS_entry_31 : decode b_SS_entry 31 = .ok (.athrow, 1) := by decide +kernel
set_option maxHeartbeats 4000000 in
set_option maxRecDepth 100000 in
theorem c_SS_entry (l : Launch) (hl9 : l.stackTraces = false) (dC : Nat → ClassId) (dI : Nat → Nat → Nat) (ca : Nat → ClassId) (h0 : Nat) (q : Nat → Nat) (f g i : Int32) : CTE l classes (dC, dI) (sE dC dI ca) sk y_SS_entry b_SS_entry 5 (some (.long)) 6 84 1 6 [.ref h0, .int f, .int g, .int i] [(h0, .inr (7, sF q 0))] "java/lang/IndexOutOfBoundsException" := by
  refine ax_ofE (by decide) (Nat.le_of_ble_eq_true rfl) ?_
  intro p e s m below meth c A ls hAt hne hK hP hD hS hA hAi hl
  obtain ⟨hx, hb, hr, hml, hown, hts, hlocks, hin⟩ := hAt
  have hl : lv_has ls 5 [(0, .ref h0), (1, .int f), (2, .int g), (3, .int i)] := hl
  obtain ⟨hK, hKa, hKs⟩ := hK
  have hP0 := hP
  refine lv_aload_n hx hb d_SS_entry_0 rfl (lv_at hl 0 rfl) ?_
  refine lv_iload_n hx hb d_SS_entry_1 rfl (lv_at hl 1 rfl) ?_
  refine ax_V (ci := 7) (q0 := 0) (k := 1) (As := [.int f]) (rest := []) (wr := []) rfl hx hb hml hown hts g_sk (sK_bl dC dI ca) (c_SS_formOf l dC dI ca h0 q 0 f) xs_252 xs_253 xs_0 xs_254 xs_324 (by decide +kernel) rfl (Nat.le_of_ble_eq_true rfl) (Nat.le_of_ble_eq_true rfl) hl.1 (Nat.le_of_ble_eq_true rfl) (sK_up hK) hK.1 hP hD hS hA rfl rfl [0] [] rfl (by decide) rfl rfl (by decide) (by decide) (Nat.le_of_ble_eq_true rfl) (Nat.le_of_ble_eq_true rfl) d_SS_entry_2 (fun v _ H locs hp hP hD hS => ?_)
  obtain rfl : v = some .null := hp
  have hP : va_P (dC, dI) classes [(h0, .inr (7, sF q 0))] H := hP
  have hD : va_D A [(h0, .inr (7, sF q 0))] := hD
  refine W.eq (g2 := F0 m 5 ls [.null]) rfl ?_
  refine lv_astoreN (lv' := [(4, .null), (0, .ref h0), (1, .int f), (2, .int g), (3, .int i)]) hx hb d_SS_entry_5 hl (by decide) rfl (fun ls hl => ?_)
  refine lv_aloadN hx hb d_SS_entry_7 (lv_at hl 0 rfl) ?_
  refine lv_ifnullN (tgt := 22) hx hb d_SS_entry_9 (by decide) ?_
  refine ax_newX (C := "java/lang/IndexOutOfBoundsException") (N := 6) hx hb hown (hts _ xs_301) (hts _ xs_302) (hts _ xs_16) hP hD hS hA (Nat.le_of_ble_eq_true rfl) (Nat.le_of_ble_eq_true rfl) d_SS_entry_22 (fun q_1 H hfr hP hD hS => ?_)
  refine lv_dup hx hb d_SS_entry_25 rfl ?_
  obtain ⟨sa, hsa⟩ := hKs.1
  refine va_ldcS hx hb hown hsa d_SS_entry_26 ?_
  exact ax_throwCtor (C := "java/lang/IndexOutOfBoundsException") (names := xNames) hx hb hml hown hlocks hne hl9 (kA_args eA_stay hKa _ (eA_in0)) (by decide +kernel) (by decide +kernel) hl.1 hS (ax_noSt hS hAi hP0) hfr (Nat.le_of_ble_eq_true rfl) (Nat.le_of_ble_eq_true rfl) (Nat.le_of_ble_eq_true rfl) (Nat.le_of_ble_eq_true rfl) d_SS_entry_28 d_SS_entry_31
theorem d_SS_field_0 : decode b_SS_field 0 = .ok (.aload_n 0, 1) := by decide +kernel
theorem d_SS_field_1 : decode b_SS_field 1 = .ok (.iload_n 2, 1) := by decide +kernel
theorem d_SS_field_2 : decode b_SS_field 2 = .ok (.invokevirtual 154, 3) := by decide +kernel
theorem d_SS_field_5 : decode b_SS_field 5 = .ok (.astore 4, 2) := by decide +kernel
theorem d_SS_field_7 : decode b_SS_field 7 = .ok (.iload_n 1, 1) := by decide +kernel
theorem d_SS_field_8 : decode b_SS_field 8 = .ok (.ifCond .lt 26, 3) := by decide +kernel
theorem d_SS_field_11 : decode b_SS_field 11 = .ok (.iload_n 1, 1) := by decide +kernel
theorem d_SS_field_12 : decode b_SS_field 12 = .ok (.iconst 1, 1) := by decide +kernel
theorem d_SS_field_13 : decode b_SS_field 13 = .ok (.if_icmp .gt 21, 3) := by decide +kernel
theorem d_SS_field_16 : decode b_SS_field 16 = .ok (.aload 4, 2) := by decide +kernel
theorem d_SS_field_18 : decode b_SS_field 18 = .ok (.ifnull 16, 3) := by decide +kernel
theorem d_SS_field_34 : decode b_SS_field 34 = .ok (.new 188, 3) := by decide +kernel
theorem d_SS_field_37 : decode b_SS_field 37 = .ok (.dup, 1) := by decide +kernel
theorem d_SS_field_38 : decode b_SS_field 38 = .ok (.ldc 190, 2) := by decide +kernel
theorem d_SS_field_40 : decode b_SS_field 40 = .ok (.invokespecial 192, 3) := by decide +kernel
theorem d_SS_field_43 : decode b_SS_field 43 = .ok (.athrow, 1) := by decide +kernel
set_option maxHeartbeats 4000000 in
set_option maxRecDepth 100000 in
theorem c_SS_field (l : Launch) (hl9 : l.stackTraces = false) (dC : Nat → ClassId) (dI : Nat → Nat → Nat) (ca : Nat → ClassId) (h0 : Nat) (q : Nat → Nat) (s0 f i : Int32) : CTE l classes (dC, dI) (sE dC dI ca) sk y_SS_field b_SS_field 5 (some (.long)) 6 84 1 6 [.ref h0, .int s0, .int f, .int i] [(h0, .inr (7, sF q 0))] "java/lang/IndexOutOfBoundsException" := by
  refine ax_ofE (by decide) (Nat.le_of_ble_eq_true rfl) ?_
  intro p e s m below meth c A ls hAt hne hK hP hD hS hA hAi hl
  obtain ⟨hx, hb, hr, hml, hown, hts, hlocks, hin⟩ := hAt
  have hl : lv_has ls 5 [(0, .ref h0), (1, .int s0), (2, .int f), (3, .int i)] := hl
  obtain ⟨hK, hKa, hKs⟩ := hK
  have hP0 := hP
  refine lv_aload_n hx hb d_SS_field_0 rfl (lv_at hl 0 rfl) ?_
  refine lv_iload_n hx hb d_SS_field_1 rfl (lv_at hl 2 rfl) ?_
  refine ax_V (ci := 7) (q0 := 0) (k := 1) (As := [.int f]) (rest := []) (wr := []) rfl hx hb hml hown hts g_sk (sK_bl dC dI ca) (c_SS_formOf l dC dI ca h0 q 0 f) xs_252 xs_253 xs_0 xs_254 xs_324 (by decide +kernel) rfl (Nat.le_of_ble_eq_true rfl) (Nat.le_of_ble_eq_true rfl) hl.1 (Nat.le_of_ble_eq_true rfl) (sK_up hK) hK.1 hP hD hS hA rfl rfl [0] [] rfl (by decide) rfl rfl (by decide) (by decide) (Nat.le_of_ble_eq_true rfl) (Nat.le_of_ble_eq_true rfl) d_SS_field_2 (fun v _ H locs hp hP hD hS => ?_)
  obtain rfl : v = some .null := hp
  have hP : va_P (dC, dI) classes [(h0, .inr (7, sF q 0))] H := hP
  have hD : va_D A [(h0, .inr (7, sF q 0))] := hD
  refine W.eq (g2 := F0 m 5 ls [.null]) rfl ?_
  refine lv_astoreN (lv' := [(4, .null), (0, .ref h0), (1, .int s0), (2, .int f), (3, .int i)]) hx hb d_SS_field_5 hl (by decide) rfl (fun ls hl => ?_)
  refine lv_iload_n hx hb d_SS_field_7 rfl (lv_at hl 2 rfl) ?_
  refine lv_if_lt (tgt := 34) hx hb d_SS_field_8 (by decide) (fun c_1 => ?_) (fun c_1 => ?_)
  · have h9 := True.intro
    refine ax_newX (C := "java/lang/IndexOutOfBoundsException") (N := 6) hx hb hown (hts _ xs_301) (hts _ xs_302) (hts _ xs_16) hP hD hS hA (Nat.le_of_ble_eq_true rfl) (Nat.le_of_ble_eq_true rfl) d_SS_field_34 (fun q_2 H hfr hP hD hS => ?_)
    refine lv_dup hx hb d_SS_field_37 rfl ?_
    obtain ⟨sa, hsa⟩ := hKs.1
    refine va_ldcS hx hb hown hsa d_SS_field_38 ?_
    exact ax_throwCtor (C := "java/lang/IndexOutOfBoundsException") (names := xNames) hx hb hml hown hlocks hne hl9 (kA_args eA_stay hKa _ (eA_in0)) (by decide +kernel) (by decide +kernel) hl.1 hS (ax_noSt hS hAi hP0) hfr (Nat.le_of_ble_eq_true rfl) (Nat.le_of_ble_eq_true rfl) (Nat.le_of_ble_eq_true rfl) (Nat.le_of_ble_eq_true rfl) d_SS_field_40 d_SS_field_43
  · have h9 := True.intro
    refine lv_iload_n hx hb d_SS_field_11 rfl (lv_at hl 2 rfl) ?_
    refine lv_iconst (v := 1) hx hb d_SS_field_12 (by decide) ?_
    refine lv_icmp_gt (tgt := 34) hx hb d_SS_field_13 (by decide) (fun c_3 => ?_) (fun c_3 => ?_)
    · have h9 := True.intro
      refine ax_newX (C := "java/lang/IndexOutOfBoundsException") (N := 6) hx hb hown (hts _ xs_301) (hts _ xs_302) (hts _ xs_16) hP hD hS hA (Nat.le_of_ble_eq_true rfl) (Nat.le_of_ble_eq_true rfl) d_SS_field_34 (fun q_4 H hfr hP hD hS => ?_)
      refine lv_dup hx hb d_SS_field_37 rfl ?_
      obtain ⟨sa, hsa⟩ := hKs.1
      refine va_ldcS hx hb hown hsa d_SS_field_38 ?_
      exact ax_throwCtor (C := "java/lang/IndexOutOfBoundsException") (names := xNames) hx hb hml hown hlocks hne hl9 (kA_args eA_stay hKa _ (eA_in0)) (by decide +kernel) (by decide +kernel) hl.1 hS (ax_noSt hS hAi hP0) hfr (Nat.le_of_ble_eq_true rfl) (Nat.le_of_ble_eq_true rfl) (Nat.le_of_ble_eq_true rfl) (Nat.le_of_ble_eq_true rfl) d_SS_field_40 d_SS_field_43
    · have h9 := True.intro
      refine lv_aloadN hx hb d_SS_field_16 (lv_at hl 0 rfl) ?_
      refine lv_ifnullN (tgt := 34) hx hb d_SS_field_18 (by decide) ?_
      refine ax_newX (C := "java/lang/IndexOutOfBoundsException") (N := 6) hx hb hown (hts _ xs_301) (hts _ xs_302) (hts _ xs_16) hP hD hS hA (Nat.le_of_ble_eq_true rfl) (Nat.le_of_ble_eq_true rfl) d_SS_field_34 (fun q_5 H hfr hP hD hS => ?_)
      refine lv_dup hx hb d_SS_field_37 rfl ?_
      obtain ⟨sa, hsa⟩ := hKs.1
      refine va_ldcS hx hb hown hsa d_SS_field_38 ?_
      exact ax_throwCtor (C := "java/lang/IndexOutOfBoundsException") (names := xNames) hx hb hml hown hlocks hne hl9 (kA_args eA_stay hKa _ (eA_in0)) (by decide +kernel) (by decide +kernel) hl.1 hS (ax_noSt hS hAi hP0) hfr (Nat.le_of_ble_eq_true rfl) (Nat.le_of_ble_eq_true rfl) (Nat.le_of_ble_eq_true rfl) (Nat.le_of_ble_eq_true rfl) d_SS_field_40 d_SS_field_43
theorem d_SS_element_0 : decode b_SS_element 0 = .ok (.iload_n 1, 1) := by decide +kernel
theorem d_SS_element_1 : decode b_SS_element 1 = .ok (.ifCond .lt 44, 3) := by decide +kernel
theorem d_SS_element_4 : decode b_SS_element 4 = .ok (.iload_n 1, 1) := by decide +kernel
theorem d_SS_element_5 : decode b_SS_element 5 = .ok (.iconst 1, 1) := by decide +kernel
theorem d_SS_element_6 : decode b_SS_element 6 = .ok (.if_icmp .gt 39, 3) := by decide +kernel
theorem d_SS_element_9 : decode b_SS_element 9 = .ok (.iload_n 2, 1) := by decide +kernel
theorem d_SS_element_10 : decode b_SS_element 10 = .ok (.ifCond .lt 35, 3) := by decide +kernel
theorem d_SS_element_13 : decode b_SS_element 13 = .ok (.iload_n 2, 1) := by decide +kernel
theorem d_SS_element_14 : decode b_SS_element 14 = .ok (.aload_n 0, 1) := by decide +kernel
theorem d_SS_element_15 : decode b_SS_element 15 = .ok (.getfield 28, 3) := by decide +kernel
theorem d_SS_element_18 : decode b_SS_element 18 = .ok (.iload_n 1, 1) := by decide +kernel
theorem d_SS_element_19 : decode b_SS_element 19 = .ok (.aaload, 1) := by decide +kernel
theorem d_SS_element_20 : decode b_SS_element 20 = .ok (.getfield 362, 3) := by decide +kernel
theorem d_SS_element_23 : decode b_SS_element 23 = .ok (.if_icmp .ge 22, 3) := by decide +kernel
theorem d_SS_element_45 : decode b_SS_element 45 = .ok (.new 188, 3) := by decide +kernel
theorem d_SS_element_48 : decode b_SS_element 48 = .ok (.dup, 1) := by decide +kernel
theorem d_SS_element_49 : decode b_SS_element 49 = .ok (.ldc 190, 2) := by decide +kernel
theorem d_SS_element_51 : decode b_SS_element 51 = .ok (.invokespecial 192, 3) := by decide +kernel
theorem d_SS_element_54 : decode b_SS_element 54 = .ok (.athrow, 1) := by decide +kernel
set_option maxHeartbeats 4000000 in
set_option maxRecDepth 100000 in
theorem c_SS_element (l : Launch) (hl9 : l.stackTraces = false) (dC : Nat → ClassId) (dI : Nat → Nat → Nat) (ca : Nat → ClassId) (h0 : Nat) (q : Nat → Nat) (a b : Nat) (r0 r1 : Nat → Nat) (s0 f i : Int32) : CTE l classes (dC, dI) (sE dC dI ca) sk y_SS_element b_SS_element 4 (some (.long)) 6 84 1 6 [.ref h0, .int s0, .int f, .int i] [(h0, .inr (7, sF q 0)), ((q 7), .inl (ca 5, 2, .inr (.inr (.inr (.inr (va_up (va_up (fun _ => none) 0 (some a)) 1 (some b))))))), (a, .inr (17, sD r0)), (b, .inr (17, sD r1))] "java/lang/IndexOutOfBoundsException" := by
  refine ax_ofE (by decide) (Nat.le_of_ble_eq_true rfl) ?_
  intro p e s m below meth c A ls hAt hne hK hP hD hS hA hAi hl
  obtain ⟨hx, hb, hr, hml, hown, hts, hlocks, hin⟩ := hAt
  have hl : lv_has ls 4 [(0, .ref h0), (1, .int s0), (2, .int f), (3, .int i)] := hl
  obtain ⟨hK, hKa, hKs⟩ := hK
  have hP0 := hP
  refine lv_iload_n hx hb d_SS_element_0 rfl (lv_at hl 1 rfl) ?_
  refine lv_if_lt (tgt := 45) hx hb d_SS_element_1 (by decide) (fun c_1 => ?_) (fun c_1 => ?_)
  · have h9 := True.intro
    refine ax_newX (C := "java/lang/IndexOutOfBoundsException") (N := 6) hx hb hown (hts _ xs_301) (hts _ xs_302) (hts _ xs_16) hP hD hS hA (Nat.le_of_ble_eq_true rfl) (Nat.le_of_ble_eq_true rfl) d_SS_element_45 (fun q_2 H hfr hP hD hS => ?_)
    refine lv_dup hx hb d_SS_element_48 rfl ?_
    obtain ⟨sa, hsa⟩ := hKs.1
    refine va_ldcS hx hb hown hsa d_SS_element_49 ?_
    exact ax_throwCtor (C := "java/lang/IndexOutOfBoundsException") (names := xNames) hx hb hml hown hlocks hne hl9 (kA_args eA_stay hKa _ (eA_in0)) (by decide +kernel) (by decide +kernel) hl.1 hS (ax_noSt hS hAi hP0) hfr (Nat.le_of_ble_eq_true rfl) (Nat.le_of_ble_eq_true rfl) (Nat.le_of_ble_eq_true rfl) (Nat.le_of_ble_eq_true rfl) d_SS_element_51 d_SS_element_54
  · have h9 := True.intro
    refine lv_iload_n hx hb d_SS_element_4 rfl (lv_at hl 1 rfl) ?_
    refine lv_iconst (v := 1) hx hb d_SS_element_5 (by decide) ?_
    refine lv_icmp_gt (tgt := 45) hx hb d_SS_element_6 (by decide) (fun c_3 => ?_) (fun c_3 => ?_)
    · have h9 := True.intro
      refine ax_newX (C := "java/lang/IndexOutOfBoundsException") (N := 6) hx hb hown (hts _ xs_301) (hts _ xs_302) (hts _ xs_16) hP hD hS hA (Nat.le_of_ble_eq_true rfl) (Nat.le_of_ble_eq_true rfl) d_SS_element_45 (fun q_4 H hfr hP hD hS => ?_)
      refine lv_dup hx hb d_SS_element_48 rfl ?_
      obtain ⟨sa, hsa⟩ := hKs.1
      refine va_ldcS hx hb hown hsa d_SS_element_49 ?_
      exact ax_throwCtor (C := "java/lang/IndexOutOfBoundsException") (names := xNames) hx hb hml hown hlocks hne hl9 (kA_args eA_stay hKa _ (eA_in0)) (by decide +kernel) (by decide +kernel) hl.1 hS (ax_noSt hS hAi hP0) hfr (Nat.le_of_ble_eq_true rfl) (Nat.le_of_ble_eq_true rfl) (Nat.le_of_ble_eq_true rfl) (Nat.le_of_ble_eq_true rfl) d_SS_element_51 d_SS_element_54
    · have h9 := True.intro
      refine lv_iload_n hx hb d_SS_element_9 rfl (lv_at hl 2 rfl) ?_
      refine lv_if_lt (tgt := 45) hx hb d_SS_element_10 (by decide) (fun c_5 => ?_) (fun c_5 => ?_)
      · have h9 := True.intro
        refine ax_newX (C := "java/lang/IndexOutOfBoundsException") (N := 6) hx hb hown (hts _ xs_301) (hts _ xs_302) (hts _ xs_16) hP hD hS hA (Nat.le_of_ble_eq_true rfl) (Nat.le_of_ble_eq_true rfl) d_SS_element_45 (fun q_6 H hfr hP hD hS => ?_)
        refine lv_dup hx hb d_SS_element_48 rfl ?_
        obtain ⟨sa, hsa⟩ := hKs.1
        refine va_ldcS hx hb hown hsa d_SS_element_49 ?_
        exact ax_throwCtor (C := "java/lang/IndexOutOfBoundsException") (names := xNames) hx hb hml hown hlocks hne hl9 (kA_args eA_stay hKa _ (eA_in0)) (by decide +kernel) (by decide +kernel) hl.1 hS (ax_noSt hS hAi hP0) hfr (Nat.le_of_ble_eq_true rfl) (Nat.le_of_ble_eq_true rfl) (Nat.le_of_ble_eq_true rfl) (Nat.le_of_ble_eq_true rfl) d_SS_element_51 d_SS_element_54
      · have h9 := True.intro
        refine lv_iload_n hx hb d_SS_element_13 rfl (lv_at hl 2 rfl) ?_
        refine lv_aload_n hx hb d_SS_element_14 rfl (lv_at hl 0 rfl) ?_
        refine va_get (D := (dC, dI)) (ci := 7) (v := .ref (q 7)) (C := R_SS) (T := F_SS) (N := 18) hx hb hts i_SS hown hK.1 hP 0 rfl rfl 7 (by decide) (hts _ xs_160) (fun _ h9 => h9) rfl d_SS_element_15 ?_
        refine lv_iload_n hx hb d_SS_element_18 rfl (lv_at hl 1 rfl) ?_
        rcases s01 c_1 c_3 with rfl | rfl
        · have h9 := True.intro
          refine va_aldq hx hb hK.1 hP 1 5 rfl rfl (by unfold vp_in; decide) d_SS_element_19 ?_
          refine W.eq (g2 := F0 m 20 ls [.ref a, .int f]) rfl ?_
          refine va_get (D := (dC, dI)) (ci := 17) (v := .int 0) (C := R_SD) (T := F_SD) (N := 14) hx hb hts i_SD hown hK.1 hP 2 rfl rfl 3 (by decide) (hts _ xs_141) (fun _ h9 => h9) rfl d_SS_element_20 ?_
          refine lv_icmp_ge (tgt := 45) hx hb d_SS_element_23 (by decide) (fun _ => ?_) (fun h9 => absurd (Int32.not_lt.mp c_5) h9)
          refine ax_newX (C := "java/lang/IndexOutOfBoundsException") (N := 6) hx hb hown (hts _ xs_301) (hts _ xs_302) (hts _ xs_16) hP hD hS hA (Nat.le_of_ble_eq_true rfl) (Nat.le_of_ble_eq_true rfl) d_SS_element_45 (fun q_7 H hfr hP hD hS => ?_)
          refine lv_dup hx hb d_SS_element_48 rfl ?_
          obtain ⟨sa, hsa⟩ := hKs.1
          refine va_ldcS hx hb hown hsa d_SS_element_49 ?_
          exact ax_throwCtor (C := "java/lang/IndexOutOfBoundsException") (names := xNames) hx hb hml hown hlocks hne hl9 (kA_args eA_stay hKa _ (eA_in0)) (by decide +kernel) (by decide +kernel) hl.1 hS (ax_noSt hS hAi hP0) hfr (Nat.le_of_ble_eq_true rfl) (Nat.le_of_ble_eq_true rfl) (Nat.le_of_ble_eq_true rfl) (Nat.le_of_ble_eq_true rfl) d_SS_element_51 d_SS_element_54
        · have h9 := True.intro
          refine va_aldq hx hb hK.1 hP 1 5 rfl rfl (by unfold vp_in; decide) d_SS_element_19 ?_
          refine W.eq (g2 := F0 m 20 ls [.ref b, .int f]) rfl ?_
          refine va_get (D := (dC, dI)) (ci := 17) (v := .int 0) (C := R_SD) (T := F_SD) (N := 14) hx hb hts i_SD hown hK.1 hP 3 rfl rfl 3 (by decide) (hts _ xs_141) (fun _ h9 => h9) rfl d_SS_element_20 ?_
          refine lv_icmp_ge (tgt := 45) hx hb d_SS_element_23 (by decide) (fun _ => ?_) (fun h9 => absurd (Int32.not_lt.mp c_5) h9)
          refine ax_newX (C := "java/lang/IndexOutOfBoundsException") (N := 6) hx hb hown (hts _ xs_301) (hts _ xs_302) (hts _ xs_16) hP hD hS hA (Nat.le_of_ble_eq_true rfl) (Nat.le_of_ble_eq_true rfl) d_SS_element_45 (fun q_8 H hfr hP hD hS => ?_)
          refine lv_dup hx hb d_SS_element_48 rfl ?_
          obtain ⟨sa, hsa⟩ := hKs.1
          refine va_ldcS hx hb hown hsa d_SS_element_49 ?_
          exact ax_throwCtor (C := "java/lang/IndexOutOfBoundsException") (names := xNames) hx hb hml hown hlocks hne hl9 (kA_args eA_stay hKa _ (eA_in0)) (by decide +kernel) (by decide +kernel) hl.1 hS (ax_noSt hS hAi hP0) hfr (Nat.le_of_ble_eq_true rfl) (Nat.le_of_ble_eq_true rfl) (Nat.le_of_ble_eq_true rfl) (Nat.le_of_ble_eq_true rfl) d_SS_element_51 d_SS_element_54
theorem d_SS_state_19 : decode b_SS_state 19 = .ok (.new 188, 3) := by decide +kernel
theorem d_SS_state_22 : decode b_SS_state 22 = .ok (.dup, 1) := by decide +kernel
theorem d_SS_state_23 : decode b_SS_state 23 = .ok (.ldc 190, 2) := by decide +kernel
theorem d_SS_state_25 : decode b_SS_state 25 = .ok (.invokespecial 192, 3) := by decide +kernel
theorem d_SS_state_28 : decode b_SS_state 28 = .ok (.athrow, 1) := by decide +kernel
set_option maxHeartbeats 4000000 in
set_option maxRecDepth 100000 in
theorem c_SS_stateT (l : Launch) (hl9 : l.stackTraces = false) (dC : Nat → ClassId) (dI : Nat → Nat → Nat) (ca : Nat → ClassId) (h0 : Nat) (q : Nat → Nat) (s0 i : Int32) (hc : ¬ ((¬ s0 < 0 ∧ ¬ 1 < s0) ∧ (¬ i < 0 ∧ i ≤ 8))) : CTE l classes (dC, dI) (sE dC dI ca) sk y_SS_state b_SS_state 3 (some (.long)) 6 84 1 6 [.ref h0, .int s0, .int i] [(h0, .inr (7, sF q 0))] "java/lang/IndexOutOfBoundsException" := by
  refine ax_ofE (by decide) (Nat.le_of_ble_eq_true rfl) ?_
  intro p e s m below meth c A ls hAt hne hK hP hD hS hA hAi hl
  obtain ⟨hx, hb, hr, hml, hown, hts, hlocks, hin⟩ := hAt
  have hl : lv_has ls 3 [(0, .ref h0), (1, .int s0), (2, .int i)] := hl
  obtain ⟨hK, hKa, hKs⟩ := hK
  have hP0 := hP
  refine lv_iload_n hx hb d_SS_state_0 rfl (lv_at hl 1 rfl) ?_
  refine lv_if_lt (tgt := 19) hx hb d_SS_state_1 (by decide) (fun c_1 => ?_) (fun c_1 => ?_)
  · have h9 := True.intro
    refine ax_newX (C := "java/lang/IndexOutOfBoundsException") (N := 6) hx hb hown (hts _ xs_301) (hts _ xs_302) (hts _ xs_16) hP hD hS hA (Nat.le_of_ble_eq_true rfl) (Nat.le_of_ble_eq_true rfl) d_SS_state_19 (fun q_2 H hfr hP hD hS => ?_)
    refine lv_dup hx hb d_SS_state_22 rfl ?_
    obtain ⟨sa, hsa⟩ := hKs.1
    refine va_ldcS hx hb hown hsa d_SS_state_23 ?_
    exact ax_throwCtor (C := "java/lang/IndexOutOfBoundsException") (names := xNames) hx hb hml hown hlocks hne hl9 (kA_args eA_stay hKa _ (eA_in0)) (by decide +kernel) (by decide +kernel) hl.1 hS (ax_noSt hS hAi hP0) hfr (Nat.le_of_ble_eq_true rfl) (Nat.le_of_ble_eq_true rfl) (Nat.le_of_ble_eq_true rfl) (Nat.le_of_ble_eq_true rfl) d_SS_state_25 d_SS_state_28
  · have h9 := True.intro
    refine lv_iload_n hx hb d_SS_state_4 rfl (lv_at hl 1 rfl) ?_
    refine lv_iconst (v := 1) hx hb d_SS_state_5 (by decide) ?_
    refine lv_icmp_gt (tgt := 19) hx hb d_SS_state_6 (by decide) (fun c_3 => ?_) (fun c_3 => ?_)
    · have h9 := True.intro
      refine ax_newX (C := "java/lang/IndexOutOfBoundsException") (N := 6) hx hb hown (hts _ xs_301) (hts _ xs_302) (hts _ xs_16) hP hD hS hA (Nat.le_of_ble_eq_true rfl) (Nat.le_of_ble_eq_true rfl) d_SS_state_19 (fun q_4 H hfr hP hD hS => ?_)
      refine lv_dup hx hb d_SS_state_22 rfl ?_
      obtain ⟨sa, hsa⟩ := hKs.1
      refine va_ldcS hx hb hown hsa d_SS_state_23 ?_
      exact ax_throwCtor (C := "java/lang/IndexOutOfBoundsException") (names := xNames) hx hb hml hown hlocks hne hl9 (kA_args eA_stay hKa _ (eA_in0)) (by decide +kernel) (by decide +kernel) hl.1 hS (ax_noSt hS hAi hP0) hfr (Nat.le_of_ble_eq_true rfl) (Nat.le_of_ble_eq_true rfl) (Nat.le_of_ble_eq_true rfl) (Nat.le_of_ble_eq_true rfl) d_SS_state_25 d_SS_state_28
    · have h9 := True.intro
      refine lv_iload_n hx hb d_SS_state_9 rfl (lv_at hl 2 rfl) ?_
      refine lv_if_lt (tgt := 19) hx hb d_SS_state_10 (by decide) (fun c_5 => ?_) (fun c_5 => ?_)
      · have h9 := True.intro
        refine ax_newX (C := "java/lang/IndexOutOfBoundsException") (N := 6) hx hb hown (hts _ xs_301) (hts _ xs_302) (hts _ xs_16) hP hD hS hA (Nat.le_of_ble_eq_true rfl) (Nat.le_of_ble_eq_true rfl) d_SS_state_19 (fun q_6 H hfr hP hD hS => ?_)
        refine lv_dup hx hb d_SS_state_22 rfl ?_
        obtain ⟨sa, hsa⟩ := hKs.1
        refine va_ldcS hx hb hown hsa d_SS_state_23 ?_
        exact ax_throwCtor (C := "java/lang/IndexOutOfBoundsException") (names := xNames) hx hb hml hown hlocks hne hl9 (kA_args eA_stay hKa _ (eA_in0)) (by decide +kernel) (by decide +kernel) hl.1 hS (ax_noSt hS hAi hP0) hfr (Nat.le_of_ble_eq_true rfl) (Nat.le_of_ble_eq_true rfl) (Nat.le_of_ble_eq_true rfl) (Nat.le_of_ble_eq_true rfl) d_SS_state_25 d_SS_state_28
      · have h9 := True.intro
        refine lv_iload_n hx hb d_SS_state_13 rfl (lv_at hl 2 rfl) ?_
        refine lv_bipush (v := 8) hx hb d_SS_state_14 (by decide +kernel) ?_
        refine lv_icmp_le (tgt := 29) hx hb d_SS_state_16 (by decide) (fun c_7 => ?_) (fun c_7 => ?_)
        · have h9 := True.intro
          exact (hc ⟨⟨c_1, c_3⟩, c_5, c_7⟩).elim
        · have h9 := True.intro
          refine ax_newX (C := "java/lang/IndexOutOfBoundsException") (N := 6) hx hb hown (hts _ xs_301) (hts _ xs_302) (hts _ xs_16) hP hD hS hA (Nat.le_of_ble_eq_true rfl) (Nat.le_of_ble_eq_true rfl) d_SS_state_19 (fun q_8 H hfr hP hD hS => ?_)
          refine lv_dup hx hb d_SS_state_22 rfl ?_
          obtain ⟨sa, hsa⟩ := hKs.1
          refine va_ldcS hx hb hown hsa d_SS_state_23 ?_
          exact ax_throwCtor (C := "java/lang/IndexOutOfBoundsException") (names := xNames) hx hb hml hown hlocks hne hl9 (kA_args eA_stay hKa _ (eA_in0)) (by decide +kernel) (by decide +kernel) hl.1 hS (ax_noSt hS hAi hP0) hfr (Nat.le_of_ble_eq_true rfl) (Nat.le_of_ble_eq_true rfl) (Nat.le_of_ble_eq_true rfl) (Nat.le_of_ble_eq_true rfl) d_SS_state_25 d_SS_state_28
theorem d_SS_steps_0 : decode b_SS_steps 0 = .ok (.iload_n 1, 1) := by decide +kernel
theorem d_SS_steps_1 : decode b_SS_steps 1 = .ok (.ifCond .lt 20, 3) := by decide +kernel
theorem d_SS_steps_4 : decode b_SS_steps 4 = .ok (.iload_n 1, 1) := by decide +kernel
theorem d_SS_steps_5 : decode b_SS_steps 5 = .ok (.iconst 1, 1) := by decide +kernel
theorem d_SS_steps_6 : decode b_SS_steps 6 = .ok (.if_icmp .gt 15, 3) := by decide +kernel
theorem d_SS_steps_9 : decode b_SS_steps 9 = .ok (.iload_n 2, 1) := by decide +kernel
theorem d_SS_steps_10 : decode b_SS_steps 10 = .ok (.iconst 1, 1) := by decide +kernel
theorem d_SS_steps_11 : decode b_SS_steps 11 = .ok (.if_icmp .lt 10, 3) := by decide +kernel
theorem d_SS_steps_14 : decode b_SS_steps 14 = .ok (.iload_n 2, 1) := by decide +kernel
theorem d_SS_steps_15 : decode b_SS_steps 15 = .ok (.sipush 4000, 3) := by decide +kernel
theorem d_SS_steps_18 : decode b_SS_steps 18 = .ok (.if_icmp .le 14, 3) := by decide +kernel
theorem d_SS_steps_21 : decode b_SS_steps 21 = .ok (.new 343, 3) := by decide +kernel
theorem d_SS_steps_24 : decode b_SS_steps 24 = .ok (.dup, 1) := by decide +kernel
theorem d_SS_steps_25 : decode b_SS_steps 25 = .ok (.ldc_w 345, 3) := by decide +kernel
theorem d_SS_steps_28 : decode b_SS_steps 28 = .ok (.invokespecial 347, 3) := by decide +kernel
theorem d_SS_steps_31 : decode b_SS_steps 31 = .ok (.athrow, 1) := by decide +kernel
set_option maxHeartbeats 4000000 in
set_option maxRecDepth 100000 in
theorem c_SS_steps1 (l : Launch) (hl9 : l.stackTraces = false) (dC : Nat → ClassId) (dI : Nat → Nat → Nat) (ca : Nat → ClassId) (h0 : Nat) (q : Nat → Nat) (s0 i : Int32) (hc : ¬ ((¬ s0 < 0 ∧ ¬ 1 < s0) ∧ (¬ i < 1 ∧ i ≤ 4000))) : CTE l classes (dC, dI) (sE dC dI ca) sk y_SS_steps b_SS_steps 3 (some (.int)) 6 84 1 6 [.ref h0, .int s0, .int i] [(h0, .inr (7, sF q 0))] "java/lang/IllegalArgumentException" := by
  refine ax_ofE (by decide) (Nat.le_of_ble_eq_true rfl) ?_
  intro p e s m below meth c A ls hAt hne hK hP hD hS hA hAi hl
  obtain ⟨hx, hb, hr, hml, hown, hts, hlocks, hin⟩ := hAt
  have hl : lv_has ls 3 [(0, .ref h0), (1, .int s0), (2, .int i)] := hl
  obtain ⟨hK, hKa, hKs⟩ := hK
  have hP0 := hP
  refine lv_iload_n hx hb d_SS_steps_0 rfl (lv_at hl 1 rfl) ?_
  refine lv_if_lt (tgt := 21) hx hb d_SS_steps_1 (by decide) (fun c_1 => ?_) (fun c_1 => ?_)
  · have h9 := True.intro
    refine ax_newX (C := "java/lang/IllegalArgumentException") (N := 6) hx hb hown (hts _ xs_307) (hts _ xs_240) (hts _ xs_15) hP hD hS hA (Nat.le_of_ble_eq_true rfl) (Nat.le_of_ble_eq_true rfl) d_SS_steps_21 (fun q_2 H hfr hP hD hS => ?_)
    refine lv_dup hx hb d_SS_steps_24 rfl ?_
    obtain ⟨sa, hsa⟩ := hKs.2.1
    refine ax_ldcSw hx hb hown hsa d_SS_steps_25 ?_
    exact ax_throwCtor (C := "java/lang/IllegalArgumentException") (names := xNames) hx hb hml hown hlocks hne hl9 (kA_args eA_stay hKa _ (eA_in1)) (by decide +kernel) (by decide +kernel) hl.1 hS (ax_noSt hS hAi hP0) hfr (Nat.le_of_ble_eq_true rfl) (Nat.le_of_ble_eq_true rfl) (Nat.le_of_ble_eq_true rfl) (Nat.le_of_ble_eq_true rfl) d_SS_steps_28 d_SS_steps_31
  · have h9 := True.intro
    refine lv_iload_n hx hb d_SS_steps_4 rfl (lv_at hl 1 rfl) ?_
    refine lv_iconst (v := 1) hx hb d_SS_steps_5 (by decide) ?_
    refine lv_icmp_gt (tgt := 21) hx hb d_SS_steps_6 (by decide) (fun c_3 => ?_) (fun c_3 => ?_)
    · have h9 := True.intro
      refine ax_newX (C := "java/lang/IllegalArgumentException") (N := 6) hx hb hown (hts _ xs_307) (hts _ xs_240) (hts _ xs_15) hP hD hS hA (Nat.le_of_ble_eq_true rfl) (Nat.le_of_ble_eq_true rfl) d_SS_steps_21 (fun q_4 H hfr hP hD hS => ?_)
      refine lv_dup hx hb d_SS_steps_24 rfl ?_
      obtain ⟨sa, hsa⟩ := hKs.2.1
      refine ax_ldcSw hx hb hown hsa d_SS_steps_25 ?_
      exact ax_throwCtor (C := "java/lang/IllegalArgumentException") (names := xNames) hx hb hml hown hlocks hne hl9 (kA_args eA_stay hKa _ (eA_in1)) (by decide +kernel) (by decide +kernel) hl.1 hS (ax_noSt hS hAi hP0) hfr (Nat.le_of_ble_eq_true rfl) (Nat.le_of_ble_eq_true rfl) (Nat.le_of_ble_eq_true rfl) (Nat.le_of_ble_eq_true rfl) d_SS_steps_28 d_SS_steps_31
    · have h9 := True.intro
      refine lv_iload_n hx hb d_SS_steps_9 rfl (lv_at hl 2 rfl) ?_
      refine lv_iconst (v := 1) hx hb d_SS_steps_10 (by decide) ?_
      refine lv_icmp_lt (tgt := 21) hx hb d_SS_steps_11 (by decide) (fun c_5 => ?_) (fun c_5 => ?_)
      · have h9 := True.intro
        refine ax_newX (C := "java/lang/IllegalArgumentException") (N := 6) hx hb hown (hts _ xs_307) (hts _ xs_240) (hts _ xs_15) hP hD hS hA (Nat.le_of_ble_eq_true rfl) (Nat.le_of_ble_eq_true rfl) d_SS_steps_21 (fun q_6 H hfr hP hD hS => ?_)
        refine lv_dup hx hb d_SS_steps_24 rfl ?_
        obtain ⟨sa, hsa⟩ := hKs.2.1
        refine ax_ldcSw hx hb hown hsa d_SS_steps_25 ?_
        exact ax_throwCtor (C := "java/lang/IllegalArgumentException") (names := xNames) hx hb hml hown hlocks hne hl9 (kA_args eA_stay hKa _ (eA_in1)) (by decide +kernel) (by decide +kernel) hl.1 hS (ax_noSt hS hAi hP0) hfr (Nat.le_of_ble_eq_true rfl) (Nat.le_of_ble_eq_true rfl) (Nat.le_of_ble_eq_true rfl) (Nat.le_of_ble_eq_true rfl) d_SS_steps_28 d_SS_steps_31
      · have h9 := True.intro
        refine lv_iload_n hx hb d_SS_steps_14 rfl (lv_at hl 2 rfl) ?_
        refine lv_sipush (v := 4000) hx hb d_SS_steps_15 (by decide +kernel) ?_
        refine lv_icmp_le (tgt := 32) hx hb d_SS_steps_18 (by decide) (fun c_7 => ?_) (fun c_7 => ?_)
        · have h9 := True.intro
          exact (hc ⟨⟨c_1, c_3⟩, c_5, c_7⟩).elim
        · have h9 := True.intro
          refine ax_newX (C := "java/lang/IllegalArgumentException") (N := 6) hx hb hown (hts _ xs_307) (hts _ xs_240) (hts _ xs_15) hP hD hS hA (Nat.le_of_ble_eq_true rfl) (Nat.le_of_ble_eq_true rfl) d_SS_steps_21 (fun q_8 H hfr hP hD hS => ?_)
          refine lv_dup hx hb d_SS_steps_24 rfl ?_
          obtain ⟨sa, hsa⟩ := hKs.2.1
          refine ax_ldcSw hx hb hown hsa d_SS_steps_25 ?_
          exact ax_throwCtor (C := "java/lang/IllegalArgumentException") (names := xNames) hx hb hml hown hlocks hne hl9 (kA_args eA_stay hKa _ (eA_in1)) (by decide +kernel) (by decide +kernel) hl.1 hS (ax_noSt hS hAi hP0) hfr (Nat.le_of_ble_eq_true rfl) (Nat.le_of_ble_eq_true rfl) (Nat.le_of_ble_eq_true rfl) (Nat.le_of_ble_eq_true rfl) d_SS_steps_28 d_SS_steps_31
theorem d_SS_steps_32 : decode b_SS_steps 32 = .ok (.aload_n 0, 1) := by decide +kernel
theorem d_SS_steps_33 : decode b_SS_steps 33 = .ok (.getfield 28, 3) := by decide +kernel
theorem d_SS_steps_36 : decode b_SS_steps 36 = .ok (.iload_n 1, 1) := by decide +kernel
theorem d_SS_steps_37 : decode b_SS_steps 37 = .ok (.aaload, 1) := by decide +kernel
theorem d_SS_steps_38 : decode b_SS_steps 38 = .ok (.getfield 333, 3) := by decide +kernel
theorem d_SS_steps_41 : decode b_SS_steps 41 = .ok (.iconst 1, 1) := by decide +kernel
theorem d_SS_steps_42 : decode b_SS_steps 42 = .ok (.if_icmp .eq 14, 3) := by decide +kernel
theorem d_SS_steps_45 : decode b_SS_steps 45 = .ok (.new 348, 3) := by decide +kernel
theorem d_SS_steps_48 : decode b_SS_steps 48 = .ok (.dup, 1) := by decide +kernel
theorem d_SS_steps_49 : decode b_SS_steps 49 = .ok (.ldc_w 350, 3) := by decide +kernel
theorem d_SS_steps_52 : decode b_SS_steps 52 = .ok (.invokespecial 352, 3) := by decide +kernel
theorem d_SS_steps_55 : decode b_SS_steps 55 = .ok (.athrow, 1) := by decide +kernel
set_option maxHeartbeats 4000000 in
set_option maxRecDepth 100000 in
theorem c_SS_steps2 (l : Launch) (hl9 : l.stackTraces = false) (dC : Nat → ClassId) (dI : Nat → Nat → Nat) (ca : Nat → ClassId) (h0 : Nat) (q : Nat → Nat) (a b : Nat) (r0 r1 : Nat → Nat) (s0 i : Int32) (hc : (¬ s0 < 0 ∧ ¬ 1 < s0) ∧ (¬ i < 1 ∧ i ≤ 4000)) : CTE l classes (dC, dI) (sE dC dI ca) sk y_SS_steps b_SS_steps 3 (some (.int)) 6 84 1 6 [.ref h0, .int s0, .int i] [(h0, .inr (7, sF q 0)), ((q 7), .inl (ca 5, 2, .inr (.inr (.inr (.inr (va_up (va_up (fun _ => none) 0 (some a)) 1 (some b))))))), (a, .inr (17, sD r0)), (b, .inr (17, sD r1))] "java/lang/IllegalStateException" := by
  refine ax_ofE (by decide) (Nat.le_of_ble_eq_true rfl) ?_
  intro p e s m below meth c A ls hAt hne hK hP hD hS hA hAi hl
  obtain ⟨hx, hb, hr, hml, hown, hts, hlocks, hin⟩ := hAt
  have hl : lv_has ls 3 [(0, .ref h0), (1, .int s0), (2, .int i)] := hl
  obtain ⟨hK, hKa, hKs⟩ := hK
  have hP0 := hP
  refine lv_iload_n hx hb d_SS_steps_0 rfl (lv_at hl 1 rfl) ?_
  refine lv_if_lt (tgt := 21) hx hb d_SS_steps_1 (by decide) (fun c_1 => ?_) (fun c_1 => ?_)
  · have h9 := True.intro
    exact absurd c_1 hc.1.1
  · have h9 := True.intro
    refine lv_iload_n hx hb d_SS_steps_4 rfl (lv_at hl 1 rfl) ?_
    refine lv_iconst (v := 1) hx hb d_SS_steps_5 (by decide) ?_
    refine lv_icmp_gt (tgt := 21) hx hb d_SS_steps_6 (by decide) (fun c_2 => ?_) (fun c_2 => ?_)
    · have h9 := True.intro
      exact absurd c_2 hc.1.2
    · have h9 := True.intro
      refine lv_iload_n hx hb d_SS_steps_9 rfl (lv_at hl 2 rfl) ?_
      refine lv_iconst (v := 1) hx hb d_SS_steps_10 (by decide) ?_
      refine lv_icmp_lt (tgt := 21) hx hb d_SS_steps_11 (by decide) (fun c_3 => ?_) (fun c_3 => ?_)
      · have h9 := True.intro
        exact absurd c_3 hc.2.1
      · have h9 := True.intro
        refine lv_iload_n hx hb d_SS_steps_14 rfl (lv_at hl 2 rfl) ?_
        refine lv_sipush (v := 4000) hx hb d_SS_steps_15 (by decide +kernel) ?_
        refine lv_icmp_le (tgt := 32) hx hb d_SS_steps_18 (by decide) (fun c_4 => ?_) (fun c_4 => ?_)
        · have h9 := True.intro
          refine lv_aload_n hx hb d_SS_steps_32 rfl (lv_at hl 0 rfl) ?_
          refine va_get (D := (dC, dI)) (ci := 7) (v := .ref (q 7)) (C := R_SS) (T := F_SS) (N := 18) hx hb hts i_SS hown hK.1 hP 0 rfl rfl 7 (by decide) (hts _ xs_160) (fun _ h9 => h9) rfl d_SS_steps_33 ?_
          refine lv_iload_n hx hb d_SS_steps_36 rfl (lv_at hl 1 rfl) ?_
          rcases s01 c_1 c_2 with rfl | rfl
          · have h9 := True.intro
            refine va_aldq hx hb hK.1 hP 1 5 rfl rfl (by unfold vp_in; decide) d_SS_steps_37 ?_
            refine W.eq (g2 := F0 m 38 ls [.ref a]) rfl ?_
            refine va_get (D := (dC, dI)) (ci := 17) (v := .int 0) (C := R_SD) (T := F_SD) (N := 14) hx hb hts i_SD hown hK.1 hP 2 rfl rfl 9 (by decide) (hts _ xs_148) (fun _ h9 => h9) rfl d_SS_steps_38 ?_
            refine lv_iconst (v := 1) hx hb d_SS_steps_41 (by decide) ?_
            refine lv_icmp_eq (tgt := 56) hx hb d_SS_steps_42 (by decide) (fun h => absurd h (by decide)) (fun _ => ?_)
            refine ax_newX (C := "java/lang/IllegalStateException") (N := 6) hx hb hown (hts _ xs_309) (hts _ xs_255) (hts _ xs_17) hP hD hS hA (Nat.le_of_ble_eq_true rfl) (Nat.le_of_ble_eq_true rfl) d_SS_steps_45 (fun q_5 H hfr hP hD hS => ?_)
            refine lv_dup hx hb d_SS_steps_48 rfl ?_
            obtain ⟨sa, hsa⟩ := hKs.2.2
            refine ax_ldcSw hx hb hown hsa d_SS_steps_49 ?_
            exact ax_throwCtor (C := "java/lang/IllegalStateException") (names := xNames) hx hb hml hown hlocks hne hl9 (kA_args eA_stay hKa _ (eA_in2)) (by decide +kernel) (by decide +kernel) hl.1 hS (ax_noSt hS hAi hP0) hfr (Nat.le_of_ble_eq_true rfl) (Nat.le_of_ble_eq_true rfl) (Nat.le_of_ble_eq_true rfl) (Nat.le_of_ble_eq_true rfl) d_SS_steps_52 d_SS_steps_55
          · have h9 := True.intro
            refine va_aldq hx hb hK.1 hP 1 5 rfl rfl (by unfold vp_in; decide) d_SS_steps_37 ?_
            refine W.eq (g2 := F0 m 38 ls [.ref b]) rfl ?_
            refine va_get (D := (dC, dI)) (ci := 17) (v := .int 0) (C := R_SD) (T := F_SD) (N := 14) hx hb hts i_SD hown hK.1 hP 3 rfl rfl 9 (by decide) (hts _ xs_148) (fun _ h9 => h9) rfl d_SS_steps_38 ?_
            refine lv_iconst (v := 1) hx hb d_SS_steps_41 (by decide) ?_
            refine lv_icmp_eq (tgt := 56) hx hb d_SS_steps_42 (by decide) (fun h => absurd h (by decide)) (fun _ => ?_)
            refine ax_newX (C := "java/lang/IllegalStateException") (N := 6) hx hb hown (hts _ xs_309) (hts _ xs_255) (hts _ xs_17) hP hD hS hA (Nat.le_of_ble_eq_true rfl) (Nat.le_of_ble_eq_true rfl) d_SS_steps_45 (fun q_6 H hfr hP hD hS => ?_)
            refine lv_dup hx hb d_SS_steps_48 rfl ?_
            obtain ⟨sa, hsa⟩ := hKs.2.2
            refine ax_ldcSw hx hb hown hsa d_SS_steps_49 ?_
            exact ax_throwCtor (C := "java/lang/IllegalStateException") (names := xNames) hx hb hml hown hlocks hne hl9 (kA_args eA_stay hKa _ (eA_in2)) (by decide +kernel) (by decide +kernel) hl.1 hS (ax_noSt hS hAi hP0) hfr (Nat.le_of_ble_eq_true rfl) (Nat.le_of_ble_eq_true rfl) (Nat.le_of_ble_eq_true rfl) (Nat.le_of_ble_eq_true rfl) d_SS_steps_52 d_SS_steps_55
        · have h9 := True.intro
          exact absurd hc.2.2 c_4
