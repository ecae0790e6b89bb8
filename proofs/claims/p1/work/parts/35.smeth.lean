theorem s01 {s : Int32} (h1 : ¬ s < 0) (h2 : ¬ 1 < s) : s = 0 ∨ s = 1 := by
  rw [Int32.lt_iff_toInt_lt] at h1 h2
  have e0 : (0 : Int32).toInt = 0 := by decide
  have e1 : (1 : Int32).toInt = 1 := by decide
  by_cases h : s.toInt = 0
  · exact Or.inl (Int32.toInt_inj.mp (by omega))
  · exact Or.inr (Int32.toInt_inj.mp (by omega))
theorem d_SS_formOf_0 : decode b_SS_formOf 0 = .ok (.iload_n 1, 1) := by decide +kernel
theorem d_SS_formOf_1 : decode b_SS_formOf 1 = .ok (.ifCond .lt 20, 3) := by decide +kernel
theorem d_SS_formOf_4 : decode b_SS_formOf 4 = .ok (.iload_n 1, 1) := by decide +kernel
theorem d_SS_formOf_5 : decode b_SS_formOf 5 = .ok (.aload_n 0, 1) := by decide +kernel
theorem d_SS_formOf_6 : decode b_SS_formOf 6 = .ok (.getfield 107, 3) := by decide +kernel
theorem d_SS_formOf_9 : decode b_SS_formOf 9 = .ok (.if_icmp .ge 12, 3) := by decide +kernel
theorem d_SS_formOf_21 : decode b_SS_formOf 21 = .ok (.aconst_null, 1) := by decide +kernel
theorem d_SS_formOf_22 : decode b_SS_formOf 22 = .ok (.areturn, 1) := by decide +kernel
set_option maxHeartbeats 4000000 in
set_option maxRecDepth 100000 in
theorem c_SS_formOf (l : Launch) (dC : Nat → ClassId) (dI : Nat → Nat → Nat) (ca : Nat → ClassId) (h0 : Nat) (q : Nat → Nat) (tl : Int32) (f : Int32) : CT l classes (dC, dI) (sK dC dI ca) sk y_SS_formOf b_SS_formOf 2 (some (.object "SourceBack$Form")) 0 0 0 0 [.ref h0, .int f] [(h0, .inr (7, sF q tl))] (fun (v : Option Value) (_ : Unit) => v = some .null) (fun (_ : Unit) => [(h0, .inr (7, sF q tl))]) := by
  refine ax_of (by decide) (Nat.le_of_ble_eq_true rfl) ?_
  intro p e s m below meth c A ls hAt hK hP hD hS hA hl
  obtain ⟨hx, hb, hr, hml, hown, hts, hlocks, hin⟩ := hAt
  have hl : lv_has ls 2 [(0, .ref h0), (1, .int f)] := hl
  refine lv_iload_n hx hb d_SS_formOf_0 rfl (lv_at hl 1 rfl) ?_
  refine lv_if_lt (tgt := 21) hx hb d_SS_formOf_1 (by decide) (fun c_1 => ?_) (fun c_1 => ?_)
  · have h9 := True.intro
    refine lv_null hx hb d_SS_formOf_21 ?_
    exact ax_aret hx hb hr (Or.inl ⟨_, rfl⟩) (Or.inl rfl) hlocks hP hD hS () rfl [0] rfl (by decide) rfl (Nat.le_of_ble_eq_true rfl) (Nat.le_of_ble_eq_true rfl) d_SS_formOf_22
  · have h9 := True.intro
    refine lv_iload_n hx hb d_SS_formOf_4 rfl (lv_at hl 1 rfl) ?_
    refine lv_aload_n hx hb d_SS_formOf_5 rfl (lv_at hl 0 rfl) ?_
    refine va_get (D := (dC, dI)) (ci := 7) (v := .int 0) (C := R_SS) (T := F_SS) (N := 18) hx hb hts i_SS hown hK.1 hP 0 rfl rfl 3 (by decide) (hts _ xs_156) (fun _ h9 => h9) rfl d_SS_formOf_6 ?_
    refine lv_icmp_ge (tgt := 21) hx hb d_SS_formOf_9 (by decide) (fun _ => ?_) (fun h9 => absurd (Int32.not_lt.mp c_1) h9)
    refine lv_null hx hb d_SS_formOf_21 ?_
    exact ax_aret hx hb hr (Or.inl ⟨_, rfl⟩) (Or.inl rfl) hlocks hP hD hS () rfl [0] rfl (by decide) rfl (Nat.le_of_ble_eq_true rfl) (Nat.le_of_ble_eq_true rfl) d_SS_formOf_22
theorem d_SS_file_0 : decode b_SS_file 0 = .ok (.aload_n 0, 1) := by decide +kernel
theorem d_SS_file_1 : decode b_SS_file 1 = .ok (.iload_n 1, 1) := by decide +kernel
theorem d_SS_file_2 : decode b_SS_file 2 = .ok (.invokevirtual 154, 3) := by decide +kernel
theorem d_SS_file_5 : decode b_SS_file 5 = .ok (.astore_n 3, 1) := by decide +kernel
theorem d_SS_file_6 : decode b_SS_file 6 = .ok (.aload_n 3, 1) := by decide +kernel
theorem d_SS_file_7 : decode b_SS_file 7 = .ok (.ifnonnull 5, 3) := by decide +kernel
theorem d_SS_file_10 : decode b_SS_file 10 = .ok (.iconst (-1), 1) := by decide +kernel
theorem d_SS_file_11 : decode b_SS_file 11 = .ok (.ireturn, 1) := by decide +kernel
set_option maxHeartbeats 4000000 in
set_option maxRecDepth 100000 in
theorem c_SS_file (l : Launch) (dC : Nat → ClassId) (dI : Nat → Nat → Nat) (ca : Nat → ClassId) (h0 : Nat) (q : Nat → Nat) (tl : Int32) (f : Int32) (g : Int32) : CT l classes (dC, dI) (sK dC dI ca) sk y_SS_file b_SS_file 4 (some (.int)) 1 21 0 0 [.ref h0, .int f, .int g] [(h0, .inr (7, sF q tl))] (fun (v : Option Value) (_ : Unit) => v = some (.int (-1))) (fun (_ : Unit) => [(h0, .inr (7, sF q tl))]) := by
  refine ax_of (by decide) (Nat.le_of_ble_eq_true rfl) ?_
  intro p e s m below meth c A ls hAt hK hP hD hS hA hl
  obtain ⟨hx, hb, hr, hml, hown, hts, hlocks, hin⟩ := hAt
  have hl : lv_has ls 4 [(0, .ref h0), (1, .int f), (2, .int g)] := hl
  refine lv_aload_n hx hb d_SS_file_0 rfl (lv_at hl 0 rfl) ?_
  refine lv_iload_n hx hb d_SS_file_1 rfl (lv_at hl 1 rfl) ?_
  refine ax_V (ci := 7) (q0 := 0) (k := 1) (As := [.int f]) (rest := []) (wr := []) rfl hx hb hml hown hts g_sk (sK_bl dC dI ca) (c_SS_formOf l dC dI ca h0 q tl f) xs_252 xs_253 xs_0 xs_254 xs_324 (by decide +kernel) rfl (Nat.le_of_ble_eq_true rfl) (Nat.le_of_ble_eq_true rfl) hl.1 (Nat.le_of_ble_eq_true rfl) (sK_up hK) hK.1 hP hD hS hA rfl rfl [0] [] rfl (by decide) rfl rfl (by decide) (by decide) (Nat.le_of_ble_eq_true rfl) (Nat.le_of_ble_eq_true rfl) d_SS_file_2 (fun v _ H locs hp hP hD hS => ?_)
  obtain rfl : v = some .null := hp
  have hP : va_P (dC, dI) classes [(h0, .inr (7, sF q tl))] H := hP
  have hD : va_D A [(h0, .inr (7, sF q tl))] := hD
  refine W.eq (g2 := F0 m 5 ls [.null]) rfl ?_
  refine lv_astore_nN (lv' := [(3, .null), (0, .ref h0), (1, .int f), (2, .int g)]) hx hb d_SS_file_5 rfl hl (by decide) rfl (fun ls hl => ?_)
  refine lv_aload_nN hx hb d_SS_file_6 rfl (lv_at hl 0 rfl) ?_
  refine lv_ifnonnullN hx hb d_SS_file_7 ?_
  refine lv_iconst (v := (-1)) hx hb d_SS_file_10 (by decide) ?_
  exact ax_iret hx hb hr hlocks hP hD hS () rfl [0] rfl (by decide) rfl (Nat.le_of_ble_eq_true rfl) (Nat.le_of_ble_eq_true rfl) d_SS_file_11
theorem d_SS_byteAt_0 : decode b_SS_byteAt 0 = .ok (.aload_n 0, 1) := by decide +kernel
theorem d_SS_byteAt_1 : decode b_SS_byteAt 1 = .ok (.iload_n 1, 1) := by decide +kernel
theorem d_SS_byteAt_2 : decode b_SS_byteAt 2 = .ok (.invokevirtual 154, 3) := by decide +kernel
theorem d_SS_byteAt_5 : decode b_SS_byteAt 5 = .ok (.astore 4, 2) := by decide +kernel
theorem d_SS_byteAt_7 : decode b_SS_byteAt 7 = .ok (.aload 4, 2) := by decide +kernel
theorem d_SS_byteAt_9 : decode b_SS_byteAt 9 = .ok (.ifnull 12, 3) := by decide +kernel
theorem d_SS_byteAt_21 : decode b_SS_byteAt 21 = .ok (.iconst (-1), 1) := by decide +kernel
theorem d_SS_byteAt_22 : decode b_SS_byteAt 22 = .ok (.ireturn, 1) := by decide +kernel
set_option maxHeartbeats 4000000 in
set_option maxRecDepth 100000 in
theorem c_SS_byteAt (l : Launch) (dC : Nat → ClassId) (dI : Nat → Nat → Nat) (ca : Nat → ClassId) (h0 : Nat) (q : Nat → Nat) (tl : Int32) (f : Int32) (g : Int32) (i : Int32) : CT l classes (dC, dI) (sK dC dI ca) sk y_SS_byteAt b_SS_byteAt 5 (some (.int)) 1 21 0 0 [.ref h0, .int f, .int g, .int i] [(h0, .inr (7, sF q tl))] (fun (v : Option Value) (_ : Unit) => v = some (.int (-1))) (fun (_ : Unit) => [(h0, .inr (7, sF q tl))]) := by
  refine ax_of (by decide) (Nat.le_of_ble_eq_true rfl) ?_
  intro p e s m below meth c A ls hAt hK hP hD hS hA hl
  obtain ⟨hx, hb, hr, hml, hown, hts, hlocks, hin⟩ := hAt
  have hl : lv_has ls 5 [(0, .ref h0), (1, .int f), (2, .int g), (3, .int i)] := hl
  refine lv_aload_n hx hb d_SS_byteAt_0 rfl (lv_at hl 0 rfl) ?_
  refine lv_iload_n hx hb d_SS_byteAt_1 rfl (lv_at hl 1 rfl) ?_
  refine ax_V (ci := 7) (q0 := 0) (k := 1) (As := [.int f]) (rest := []) (wr := []) rfl hx hb hml hown hts g_sk (sK_bl dC dI ca) (c_SS_formOf l dC dI ca h0 q tl f) xs_252 xs_253 xs_0 xs_254 xs_324 (by decide +kernel) rfl (Nat.le_of_ble_eq_true rfl) (Nat.le_of_ble_eq_true rfl) hl.1 (Nat.le_of_ble_eq_true rfl) (sK_up hK) hK.1 hP hD hS hA rfl rfl [0] [] rfl (by decide) rfl rfl (by decide) (by decide) (Nat.le_of_ble_eq_true rfl) (Nat.le_of_ble_eq_true rfl) d_SS_byteAt_2 (fun v _ H locs hp hP hD hS => ?_)
  obtain rfl : v = some .null := hp
  have hP : va_P (dC, dI) classes [(h0, .inr (7, sF q tl))] H := hP
  have hD : va_D A [(h0, .inr (7, sF q tl))] := hD
  refine W.eq (g2 := F0 m 5 ls [.null]) rfl ?_
  refine lv_astoreN (lv' := [(4, .null), (0, .ref h0), (1, .int f), (2, .int g), (3, .int i)]) hx hb d_SS_byteAt_5 hl (by decide) rfl (fun ls hl => ?_)
  refine lv_aloadN hx hb d_SS_byteAt_7 (lv_at hl 0 rfl) ?_
  refine lv_ifnullN (tgt := 21) hx hb d_SS_byteAt_9 (by decide) ?_
  refine lv_iconst (v := (-1)) hx hb d_SS_byteAt_21 (by decide) ?_
  exact ax_iret hx hb hr hlocks hP hD hS () rfl [0] rfl (by decide) rfl (Nat.le_of_ble_eq_true rfl) (Nat.le_of_ble_eq_true rfl) d_SS_byteAt_22
theorem d_SS_member_0 : decode b_SS_member 0 = .ok (.aload_n 0, 1) := by decide +kernel
theorem d_SS_member_1 : decode b_SS_member 1 = .ok (.iload_n 1, 1) := by decide +kernel
theorem d_SS_member_2 : decode b_SS_member 2 = .ok (.invokevirtual 154, 3) := by decide +kernel
theorem d_SS_member_5 : decode b_SS_member 5 = .ok (.astore 4, 2) := by decide +kernel
theorem d_SS_member_7 : decode b_SS_member 7 = .ok (.aload 4, 2) := by decide +kernel
theorem d_SS_member_9 : decode b_SS_member 9 = .ok (.ifnull 16, 3) := by decide +kernel
theorem d_SS_member_25 : decode b_SS_member 25 = .ok (.iconst (-1), 1) := by decide +kernel
theorem d_SS_member_26 : decode b_SS_member 26 = .ok (.ireturn, 1) := by decide +kernel
set_option maxHeartbeats 4000000 in
set_option maxRecDepth 100000 in
theorem c_SS_member (l : Launch) (dC : Nat → ClassId) (dI : Nat → Nat → Nat) (ca : Nat → ClassId) (h0 : Nat) (q : Nat → Nat) (tl : Int32) (f : Int32) (g : Int32) (i : Int32) : CT l classes (dC, dI) (sK dC dI ca) sk y_SS_member b_SS_member 5 (some (.int)) 1 21 0 0 [.ref h0, .int f, .int g, .int i] [(h0, .inr (7, sF q tl))] (fun (v : Option Value) (_ : Unit) => v = some (.int (-1))) (fun (_ : Unit) => [(h0, .inr (7, sF q tl))]) := by
  refine ax_of (by decide) (Nat.le_of_ble_eq_true rfl) ?_
  intro p e s m below meth c A ls hAt hK hP hD hS hA hl
  obtain ⟨hx, hb, hr, hml, hown, hts, hlocks, hin⟩ := hAt
  have hl : lv_has ls 5 [(0, .ref h0), (1, .int f), (2, .int g), (3, .int i)] := hl
  refine lv_aload_n hx hb d_SS_member_0 rfl (lv_at hl 0 rfl) ?_
  refine lv_iload_n hx hb d_SS_member_1 rfl (lv_at hl 1 rfl) ?_
  refine ax_V (ci := 7) (q0 := 0) (k := 1) (As := [.int f]) (rest := []) (wr := []) rfl hx hb hml hown hts g_sk (sK_bl dC dI ca) (c_SS_formOf l dC dI ca h0 q tl f) xs_252 xs_253 xs_0 xs_254 xs_324 (by decide +kernel) rfl (Nat.le_of_ble_eq_true rfl) (Nat.le_of_ble_eq_true rfl) hl.1 (Nat.le_of_ble_eq_true rfl) (sK_up hK) hK.1 hP hD hS hA rfl rfl [0] [] rfl (by decide) rfl rfl (by decide) (by decide) (Nat.le_of_ble_eq_true rfl) (Nat.le_of_ble_eq_true rfl) d_SS_member_2 (fun v _ H locs hp hP hD hS => ?_)
  obtain rfl : v = some .null := hp
  have hP : va_P (dC, dI) classes [(h0, .inr (7, sF q tl))] H := hP
  have hD : va_D A [(h0, .inr (7, sF q tl))] := hD
  refine W.eq (g2 := F0 m 5 ls [.null]) rfl ?_
  refine lv_astoreN (lv' := [(4, .null), (0, .ref h0), (1, .int f), (2, .int g), (3, .int i)]) hx hb d_SS_member_5 hl (by decide) rfl (fun ls hl => ?_)
  refine lv_aloadN hx hb d_SS_member_7 (lv_at hl 0 rfl) ?_
  refine lv_ifnullN (tgt := 25) hx hb d_SS_member_9 (by decide) ?_
  refine lv_iconst (v := (-1)) hx hb d_SS_member_25 (by decide) ?_
  exact ax_iret hx hb hr hlocks hP hD hS () rfl [0] rfl (by decide) rfl (Nat.le_of_ble_eq_true rfl) (Nat.le_of_ble_eq_true rfl) d_SS_member_26
theorem d_SS_act_0 : decode b_SS_act 0 = .ok (.aload_n 0, 1) := by decide +kernel
theorem d_SS_act_1 : decode b_SS_act 1 = .ok (.iload_n 1, 1) := by decide +kernel
theorem d_SS_act_2 : decode b_SS_act 2 = .ok (.invokevirtual 154, 3) := by decide +kernel
theorem d_SS_act_5 : decode b_SS_act 5 = .ok (.astore 5, 2) := by decide +kernel
theorem d_SS_act_7 : decode b_SS_act 7 = .ok (.aload 5, 2) := by decide +kernel
theorem d_SS_act_9 : decode b_SS_act 9 = .ok (.ifnull 16, 3) := by decide +kernel
theorem d_SS_act_25 : decode b_SS_act 25 = .ok (.iconst (-1), 1) := by decide +kernel
theorem d_SS_act_26 : decode b_SS_act 26 = .ok (.ireturn, 1) := by decide +kernel
set_option maxHeartbeats 4000000 in
set_option maxRecDepth 100000 in
theorem c_SS_act (l : Launch) (dC : Nat → ClassId) (dI : Nat → Nat → Nat) (ca : Nat → ClassId) (h0 : Nat) (q : Nat → Nat) (tl : Int32) (f : Int32) (g : Int32) (i : Int32) (j : Int32) : CT l classes (dC, dI) (sK dC dI ca) sk y_SS_act b_SS_act 6 (some (.int)) 1 21 0 0 [.ref h0, .int f, .int g, .int i, .int j] [(h0, .inr (7, sF q tl))] (fun (v : Option Value) (_ : Unit) => v = some (.int (-1))) (fun (_ : Unit) => [(h0, .inr (7, sF q tl))]) := by
  refine ax_of (by decide) (Nat.le_of_ble_eq_true rfl) ?_
  intro p e s m below meth c A ls hAt hK hP hD hS hA hl
  obtain ⟨hx, hb, hr, hml, hown, hts, hlocks, hin⟩ := hAt
  have hl : lv_has ls 6 [(0, .ref h0), (1, .int f), (2, .int g), (3, .int i), (4, .int j)] := hl
  refine lv_aload_n hx hb d_SS_act_0 rfl (lv_at hl 0 rfl) ?_
  refine lv_iload_n hx hb d_SS_act_1 rfl (lv_at hl 1 rfl) ?_
  refine ax_V (ci := 7) (q0 := 0) (k := 1) (As := [.int f]) (rest := []) (wr := []) rfl hx hb hml hown hts g_sk (sK_bl dC dI ca) (c_SS_formOf l dC dI ca h0 q tl f) xs_252 xs_253 xs_0 xs_254 xs_324 (by decide +kernel) rfl (Nat.le_of_ble_eq_true rfl) (Nat.le_of_ble_eq_true rfl) hl.1 (Nat.le_of_ble_eq_true rfl) (sK_up hK) hK.1 hP hD hS hA rfl rfl [0] [] rfl (by decide) rfl rfl (by decide) (by decide) (Nat.le_of_ble_eq_true rfl) (Nat.le_of_ble_eq_true rfl) d_SS_act_2 (fun v _ H locs hp hP hD hS => ?_)
  obtain rfl : v = some .null := hp
  have hP : va_P (dC, dI) classes [(h0, .inr (7, sF q tl))] H := hP
  have hD : va_D A [(h0, .inr (7, sF q tl))] := hD
  refine W.eq (g2 := F0 m 5 ls [.null]) rfl ?_
  refine lv_astoreN (lv' := [(5, .null), (0, .ref h0), (1, .int f), (2, .int g), (3, .int i), (4, .int j)]) hx hb d_SS_act_5 hl (by decide) rfl (fun ls hl => ?_)
  refine lv_aloadN hx hb d_SS_act_7 (lv_at hl 0 rfl) ?_
  refine lv_ifnullN (tgt := 25) hx hb d_SS_act_9 (by decide) ?_
  refine lv_iconst (v := (-1)) hx hb d_SS_act_25 (by decide) ?_
  exact ax_iret hx hb hr hlocks hP hD hS () rfl [0] rfl (by decide) rfl (Nat.le_of_ble_eq_true rfl) (Nat.le_of_ble_eq_true rfl) d_SS_act_26
theorem d_SS_kind_0 : decode b_SS_kind 0 = .ok (.aload_n 0, 1) := by decide +kernel
theorem d_SS_kind_1 : decode b_SS_kind 1 = .ok (.iload_n 1, 1) := by decide +kernel
theorem d_SS_kind_2 : decode b_SS_kind 2 = .ok (.invokevirtual 154, 3) := by decide +kernel
theorem d_SS_kind_5 : decode b_SS_kind 5 = .ok (.astore 5, 2) := by decide +kernel
theorem d_SS_kind_7 : decode b_SS_kind 7 = .ok (.aload 5, 2) := by decide +kernel
theorem d_SS_kind_9 : decode b_SS_kind 9 = .ok (.ifnull 16, 3) := by decide +kernel
theorem d_SS_kind_25 : decode b_SS_kind 25 = .ok (.iconst (-1), 1) := by decide +kernel
theorem d_SS_kind_26 : decode b_SS_kind 26 = .ok (.ireturn, 1) := by decide +kernel
set_option maxHeartbeats 4000000 in
set_option maxRecDepth 100000 in
theorem c_SS_kind (l : Launch) (dC : Nat → ClassId) (dI : Nat → Nat → Nat) (ca : Nat → ClassId) (h0 : Nat) (q : Nat → Nat) (tl : Int32) (f : Int32) (g : Int32) (i : Int32) (j : Int32) : CT l classes (dC, dI) (sK dC dI ca) sk y_SS_kind b_SS_kind 7 (some (.int)) 1 21 0 0 [.ref h0, .int f, .int g, .int i, .int j] [(h0, .inr (7, sF q tl))] (fun (v : Option Value) (_ : Unit) => v = some (.int (-1))) (fun (_ : Unit) => [(h0, .inr (7, sF q tl))]) := by
  refine ax_of (by decide) (Nat.le_of_ble_eq_true rfl) ?_
  intro p e s m below meth c A ls hAt hK hP hD hS hA hl
  obtain ⟨hx, hb, hr, hml, hown, hts, hlocks, hin⟩ := hAt
  have hl : lv_has ls 7 [(0, .ref h0), (1, .int f), (2, .int g), (3, .int i), (4, .int j)] := hl
  refine lv_aload_n hx hb d_SS_kind_0 rfl (lv_at hl 0 rfl) ?_
  refine lv_iload_n hx hb d_SS_kind_1 rfl (lv_at hl 1 rfl) ?_
  refine ax_V (ci := 7) (q0 := 0) (k := 1) (As := [.int f]) (rest := []) (wr := []) rfl hx hb hml hown hts g_sk (sK_bl dC dI ca) (c_SS_formOf l dC dI ca h0 q tl f) xs_252 xs_253 xs_0 xs_254 xs_324 (by decide +kernel) rfl (Nat.le_of_ble_eq_true rfl) (Nat.le_of_ble_eq_true rfl) hl.1 (Nat.le_of_ble_eq_true rfl) (sK_up hK) hK.1 hP hD hS hA rfl rfl [0] [] rfl (by decide) rfl rfl (by decide) (by decide) (Nat.le_of_ble_eq_true rfl) (Nat.le_of_ble_eq_true rfl) d_SS_kind_2 (fun v _ H locs hp hP hD hS => ?_)
  obtain rfl : v = some .null := hp
  have hP : va_P (dC, dI) classes [(h0, .inr (7, sF q tl))] H := hP
  have hD : va_D A [(h0, .inr (7, sF q tl))] := hD
  refine W.eq (g2 := F0 m 5 ls [.null]) rfl ?_
  refine lv_astoreN (lv' := [(5, .null), (0, .ref h0), (1, .int f), (2, .int g), (3, .int i), (4, .int j)]) hx hb d_SS_kind_5 hl (by decide) rfl (fun ls hl => ?_)
  refine lv_aloadN hx hb d_SS_kind_7 (lv_at hl 0 rfl) ?_
  refine lv_ifnullN (tgt := 25) hx hb d_SS_kind_9 (by decide) ?_
  refine lv_iconst (v := (-1)) hx hb d_SS_kind_25 (by decide) ?_
  exact ax_iret hx hb hr hlocks hP hD hS () rfl [0] rfl (by decide) rfl (Nat.le_of_ble_eq_true rfl) (Nat.le_of_ble_eq_true rfl) d_SS_kind_26
theorem d_SS_block_0 : decode b_SS_block 0 = .ok (.aload_n 0, 1) := by decide +kernel
theorem d_SS_block_1 : decode b_SS_block 1 = .ok (.iload_n 1, 1) := by decide +kernel
theorem d_SS_block_2 : decode b_SS_block 2 = .ok (.invokevirtual 154, 3) := by decide +kernel
theorem d_SS_block_5 : decode b_SS_block 5 = .ok (.astore 5, 2) := by decide +kernel
theorem d_SS_block_7 : decode b_SS_block 7 = .ok (.aload 5, 2) := by decide +kernel
theorem d_SS_block_9 : decode b_SS_block 9 = .ok (.ifnull 16, 3) := by decide +kernel
theorem d_SS_block_25 : decode b_SS_block 25 = .ok (.iconst (-1), 1) := by decide +kernel
theorem d_SS_block_26 : decode b_SS_block 26 = .ok (.ireturn, 1) := by decide +kernel
set_option maxHeartbeats 4000000 in
set_option maxRecDepth 100000 in
theorem c_SS_block (l : Launch) (dC : Nat → ClassId) (dI : Nat → Nat → Nat) (ca : Nat → ClassId) (h0 : Nat) (q : Nat → Nat) (tl : Int32) (f : Int32) (g : Int32) (i : Int32) (j : Int32) : CT l classes (dC, dI) (sK dC dI ca) sk y_SS_block b_SS_block 6 (some (.int)) 1 21 0 0 [.ref h0, .int f, .int g, .int i, .int j] [(h0, .inr (7, sF q tl))] (fun (v : Option Value) (_ : Unit) => v = some (.int (-1))) (fun (_ : Unit) => [(h0, .inr (7, sF q tl))]) := by
  refine ax_of (by decide) (Nat.le_of_ble_eq_true rfl) ?_
  intro p e s m below meth c A ls hAt hK hP hD hS hA hl
  obtain ⟨hx, hb, hr, hml, hown, hts, hlocks, hin⟩ := hAt
  have hl : lv_has ls 6 [(0, .ref h0), (1, .int f), (2, .int g), (3, .int i), (4, .int j)] := hl
  refine lv_aload_n hx hb d_SS_block_0 rfl (lv_at hl 0 rfl) ?_
  refine lv_iload_n hx hb d_SS_block_1 rfl (lv_at hl 1 rfl) ?_
  refine ax_V (ci := 7) (q0 := 0) (k := 1) (As := [.int f]) (rest := []) (wr := []) rfl hx hb hml hown hts g_sk (sK_bl dC dI ca) (c_SS_formOf l dC dI ca h0 q tl f) xs_252 xs_253 xs_0 xs_254 xs_324 (by decide +kernel) rfl (Nat.le_of_ble_eq_true rfl) (Nat.le_of_ble_eq_true rfl) hl.1 (Nat.le_of_ble_eq_true rfl) (sK_up hK) hK.1 hP hD hS hA rfl rfl [0] [] rfl (by decide) rfl rfl (by decide) (by decide) (Nat.le_of_ble_eq_true rfl) (Nat.le_of_ble_eq_true rfl) d_SS_block_2 (fun v _ H locs hp hP hD hS => ?_)
  obtain rfl : v = some .null := hp
  have hP : va_P (dC, dI) classes [(h0, .inr (7, sF q tl))] H := hP
  have hD : va_D A [(h0, .inr (7, sF q tl))] := hD
  refine W.eq (g2 := F0 m 5 ls [.null]) rfl ?_
  refine lv_astoreN (lv' := [(5, .null), (0, .ref h0), (1, .int f), (2, .int g), (3, .int i), (4, .int j)]) hx hb d_SS_block_5 hl (by decide) rfl (fun ls hl => ?_)
  refine lv_aloadN hx hb d_SS_block_7 (lv_at hl 0 rfl) ?_
  refine lv_ifnullN (tgt := 25) hx hb d_SS_block_9 (by decide) ?_
  refine lv_iconst (v := (-1)) hx hb d_SS_block_25 (by decide) ?_
  exact ax_iret hx hb hr hlocks hP hD hS () rfl [0] rfl (by decide) rfl (Nat.le_of_ble_eq_true rfl) (Nat.le_of_ble_eq_true rfl) d_SS_block_26
theorem d_SS_text_0 : decode b_SS_text 0 = .ok (.aload_n 0, 1) := by decide +kernel
theorem d_SS_text_1 : decode b_SS_text 1 = .ok (.iload_n 1, 1) := by decide +kernel
theorem d_SS_text_2 : decode b_SS_text 2 = .ok (.invokevirtual 154, 3) := by decide +kernel
theorem d_SS_text_5 : decode b_SS_text 5 = .ok (.astore 4, 2) := by decide +kernel
theorem d_SS_text_7 : decode b_SS_text 7 = .ok (.aload 4, 2) := by decide +kernel
theorem d_SS_text_9 : decode b_SS_text 9 = .ok (.ifnull 16, 3) := by decide +kernel
theorem d_SS_text_25 : decode b_SS_text 25 = .ok (.iconst (-1), 1) := by decide +kernel
theorem d_SS_text_26 : decode b_SS_text 26 = .ok (.ireturn, 1) := by decide +kernel
set_option maxHeartbeats 4000000 in
set_option maxRecDepth 100000 in
theorem c_SS_text (l : Launch) (dC : Nat → ClassId) (dI : Nat → Nat → Nat) (ca : Nat → ClassId) (h0 : Nat) (q : Nat → Nat) (tl : Int32) (f : Int32) (g : Int32) (i : Int32) : CT l classes (dC, dI) (sK dC dI ca) sk y_SS_text b_SS_text 6 (some (.int)) 1 21 0 0 [.ref h0, .int f, .int g, .int i] [(h0, .inr (7, sF q tl))] (fun (v : Option Value) (_ : Unit) => v = some (.int (-1))) (fun (_ : Unit) => [(h0, .inr (7, sF q tl))]) := by
  refine ax_of (by decide) (Nat.le_of_ble_eq_true rfl) ?_
  intro p e s m below meth c A ls hAt hK hP hD hS hA hl
  obtain ⟨hx, hb, hr, hml, hown, hts, hlocks, hin⟩ := hAt
  have hl : lv_has ls 6 [(0, .ref h0), (1, .int f), (2, .int g), (3, .int i)] := hl
  refine lv_aload_n hx hb d_SS_text_0 rfl (lv_at hl 0 rfl) ?_
  refine lv_iload_n hx hb d_SS_text_1 rfl (lv_at hl 1 rfl) ?_
  refine ax_V (ci := 7) (q0 := 0) (k := 1) (As := [.int f]) (rest := []) (wr := []) rfl hx hb hml hown hts g_sk (sK_bl dC dI ca) (c_SS_formOf l dC dI ca h0 q tl f) xs_252 xs_253 xs_0 xs_254 xs_324 (by decide +kernel) rfl (Nat.le_of_ble_eq_true rfl) (Nat.le_of_ble_eq_true rfl) hl.1 (Nat.le_of_ble_eq_true rfl) (sK_up hK) hK.1 hP hD hS hA rfl rfl [0] [] rfl (by decide) rfl rfl (by decide) (by decide) (Nat.le_of_ble_eq_true rfl) (Nat.le_of_ble_eq_true rfl) d_SS_text_2 (fun v _ H locs hp hP hD hS => ?_)
  obtain rfl : v = some .null := hp
  have hP : va_P (dC, dI) classes [(h0, .inr (7, sF q tl))] H := hP
  have hD : va_D A [(h0, .inr (7, sF q tl))] := hD
  refine W.eq (g2 := F0 m 5 ls [.null]) rfl ?_
  refine lv_astoreN (lv' := [(4, .null), (0, .ref h0), (1, .int f), (2, .int g), (3, .int i)]) hx hb d_SS_text_5 hl (by decide) rfl (fun ls hl => ?_)
  refine lv_aloadN hx hb d_SS_text_7 (lv_at hl 0 rfl) ?_
  refine lv_ifnullN (tgt := 25) hx hb d_SS_text_9 (by decide) ?_
  refine lv_iconst (v := (-1)) hx hb d_SS_text_25 (by decide) ?_
  exact ax_iret hx hb hr hlocks hP hD hS () rfl [0] rfl (by decide) rfl (Nat.le_of_ble_eq_true rfl) (Nat.le_of_ble_eq_true rfl) d_SS_text_26
theorem d_SS_pair_0 : decode b_SS_pair 0 = .ok (.aload_n 0, 1) := by decide +kernel
theorem d_SS_pair_1 : decode b_SS_pair 1 = .ok (.iload_n 1, 1) := by decide +kernel
theorem d_SS_pair_2 : decode b_SS_pair 2 = .ok (.invokevirtual 154, 3) := by decide +kernel
theorem d_SS_pair_5 : decode b_SS_pair 5 = .ok (.astore 4, 2) := by decide +kernel
theorem d_SS_pair_7 : decode b_SS_pair 7 = .ok (.aload_n 0, 1) := by decide +kernel
theorem d_SS_pair_8 : decode b_SS_pair 8 = .ok (.iload_n 3, 1) := by decide +kernel
theorem d_SS_pair_9 : decode b_SS_pair 9 = .ok (.invokevirtual 154, 3) := by decide +kernel
theorem d_SS_pair_12 : decode b_SS_pair 12 = .ok (.astore 5, 2) := by decide +kernel
theorem d_SS_pair_14 : decode b_SS_pair 14 = .ok (.aload 4, 2) := by decide +kernel
theorem d_SS_pair_16 : decode b_SS_pair 16 = .ok (.ifnull 21, 3) := by decide +kernel
theorem d_SS_pair_37 : decode b_SS_pair 37 = .ok (.iconst (-1), 1) := by decide +kernel
theorem d_SS_pair_38 : decode b_SS_pair 38 = .ok (.ireturn, 1) := by decide +kernel
set_option maxHeartbeats 4000000 in
set_option maxRecDepth 100000 in
theorem c_SS_pair (l : Launch) (dC : Nat → ClassId) (dI : Nat → Nat → Nat) (ca : Nat → ClassId) (h0 : Nat) (q : Nat → Nat) (tl : Int32) (f : Int32) (g : Int32) (i : Int32) : CT l classes (dC, dI) (sK dC dI ca) sk y_SS_pair b_SS_pair 6 (some (.int)) 1 21 0 0 [.ref h0, .int f, .int g, .int i] [(h0, .inr (7, sF q tl))] (fun (v : Option Value) (_ : Unit) => v = some (.int (-1))) (fun (_ : Unit) => [(h0, .inr (7, sF q tl))]) := by
  refine ax_of (by decide) (Nat.le_of_ble_eq_true rfl) ?_
  intro p e s m below meth c A ls hAt hK hP hD hS hA hl
  obtain ⟨hx, hb, hr, hml, hown, hts, hlocks, hin⟩ := hAt
  have hl : lv_has ls 6 [(0, .ref h0), (1, .int f), (2, .int g), (3, .int i)] := hl
  refine lv_aload_n hx hb d_SS_pair_0 rfl (lv_at hl 0 rfl) ?_
  refine lv_iload_n hx hb d_SS_pair_1 rfl (lv_at hl 1 rfl) ?_
  refine ax_V (ci := 7) (q0 := 0) (k := 1) (As := [.int f]) (rest := []) (wr := []) rfl hx hb hml hown hts g_sk (sK_bl dC dI ca) (c_SS_formOf l dC dI ca h0 q tl f) xs_252 xs_253 xs_0 xs_254 xs_324 (by decide +kernel) rfl (Nat.le_of_ble_eq_true rfl) (Nat.le_of_ble_eq_true rfl) hl.1 (Nat.le_of_ble_eq_true rfl) (sK_up hK) hK.1 hP hD hS hA rfl rfl [0] [] rfl (by decide) rfl rfl (by decide) (by decide) (Nat.le_of_ble_eq_true rfl) (Nat.le_of_ble_eq_true rfl) d_SS_pair_2 (fun v _ H locs hp hP hD hS => ?_)
  obtain rfl : v = some .null := hp
  have hP : va_P (dC, dI) classes [(h0, .inr (7, sF q tl))] H := hP
  have hD : va_D A [(h0, .inr (7, sF q tl))] := hD
  refine W.eq (g2 := F0 m 5 ls [.null]) rfl ?_
  refine lv_astoreN (lv' := [(4, .null), (0, .ref h0), (1, .int f), (2, .int g), (3, .int i)]) hx hb d_SS_pair_5 hl (by decide) rfl (fun ls hl => ?_)
  refine lv_aload_n hx hb d_SS_pair_7 rfl (lv_at hl 1 rfl) ?_
  refine lv_iload_n hx hb d_SS_pair_8 rfl (lv_at hl 4 rfl) ?_
  refine ax_V (ci := 7) (q0 := 0) (k := 1) (As := [.int i]) (rest := []) (wr := []) rfl hx hb hml hown hts g_sk (sK_bl dC dI ca) (c_SS_formOf l dC dI ca h0 q tl i) xs_252 xs_253 xs_0 xs_254 xs_324 (by decide +kernel) rfl (Nat.le_of_ble_eq_true rfl) (Nat.le_of_ble_eq_true rfl) hl.1 (Nat.le_of_ble_eq_true rfl) (sK_up hK) hK.1 hP hD hS hA rfl rfl [0] [] rfl (by decide) rfl rfl (by decide) (by decide) (Nat.le_of_ble_eq_true rfl) (Nat.le_of_ble_eq_true rfl) d_SS_pair_9 (fun v _ H locs hp hP hD hS => ?_)
  obtain rfl : v = some .null := hp
  have hP : va_P (dC, dI) classes [(h0, .inr (7, sF q tl))] H := hP
  have hD : va_D A [(h0, .inr (7, sF q tl))] := hD
  refine W.eq (g2 := F0 m 12 ls [.null]) rfl ?_
  refine lv_astoreN (lv' := [(5, .null), (4, .null), (0, .ref h0), (1, .int f), (2, .int g), (3, .int i)]) hx hb d_SS_pair_12 hl (by decide) rfl (fun ls hl => ?_)
  refine lv_aloadN hx hb d_SS_pair_14 (lv_at hl 1 rfl) ?_
  refine lv_ifnullN (tgt := 37) hx hb d_SS_pair_16 (by decide) ?_
  refine lv_iconst (v := (-1)) hx hb d_SS_pair_37 (by decide) ?_
  exact ax_iret hx hb hr hlocks hP hD hS () rfl [0] rfl (by decide) rfl (Nat.le_of_ble_eq_true rfl) (Nat.le_of_ble_eq_true rfl) d_SS_pair_38
theorem d_SS_alike_0 : decode b_SS_alike 0 = .ok (.aload_n 0, 1) := by decide +kernel
theorem d_SS_alike_1 : decode b_SS_alike 1 = .ok (.iload_n 1, 1) := by decide +kernel
theorem d_SS_alike_2 : decode b_SS_alike 2 = .ok (.invokevirtual 154, 3) := by decide +kernel
theorem d_SS_alike_5 : decode b_SS_alike 5 = .ok (.astore 4, 2) := by decide +kernel
theorem d_SS_alike_7 : decode b_SS_alike 7 = .ok (.aload_n 0, 1) := by decide +kernel
theorem d_SS_alike_8 : decode b_SS_alike 8 = .ok (.iload_n 3, 1) := by decide +kernel
theorem d_SS_alike_9 : decode b_SS_alike 9 = .ok (.invokevirtual 154, 3) := by decide +kernel
theorem d_SS_alike_12 : decode b_SS_alike 12 = .ok (.astore 5, 2) := by decide +kernel
theorem d_SS_alike_14 : decode b_SS_alike 14 = .ok (.aload 4, 2) := by decide +kernel
theorem d_SS_alike_16 : decode b_SS_alike 16 = .ok (.ifnull 21, 3) := by decide +kernel
theorem d_SS_alike_37 : decode b_SS_alike 37 = .ok (.iconst (-1), 1) := by decide +kernel
theorem d_SS_alike_38 : decode b_SS_alike 38 = .ok (.ireturn, 1) := by decide +kernel
set_option maxHeartbeats 4000000 in
set_option maxRecDepth 100000 in
theorem c_SS_alike (l : Launch) (dC : Nat → ClassId) (dI : Nat → Nat → Nat) (ca : Nat → ClassId) (h0 : Nat) (q : Nat → Nat) (tl : Int32) (f : Int32) (g : Int32) (i : Int32) : CT l classes (dC, dI) (sK dC dI ca) sk y_SS_alike b_SS_alike 7 (some (.int)) 1 21 0 0 [.ref h0, .int f, .int g, .int i] [(h0, .inr (7, sF q tl))] (fun (v : Option Value) (_ : Unit) => v = some (.int (-1))) (fun (_ : Unit) => [(h0, .inr (7, sF q tl))]) := by
  refine ax_of (by decide) (Nat.le_of_ble_eq_true rfl) ?_
  intro p e s m below meth c A ls hAt hK hP hD hS hA hl
  obtain ⟨hx, hb, hr, hml, hown, hts, hlocks, hin⟩ := hAt
  have hl : lv_has ls 7 [(0, .ref h0), (1, .int f), (2, .int g), (3, .int i)] := hl
  refine lv_aload_n hx hb d_SS_alike_0 rfl (lv_at hl 0 rfl) ?_
  refine lv_iload_n hx hb d_SS_alike_1 rfl (lv_at hl 1 rfl) ?_
  refine ax_V (ci := 7) (q0 := 0) (k := 1) (As := [.int f]) (rest := []) (wr := []) rfl hx hb hml hown hts g_sk (sK_bl dC dI ca) (c_SS_formOf l dC dI ca h0 q tl f) xs_252 xs_253 xs_0 xs_254 xs_324 (by decide +kernel) rfl (Nat.le_of_ble_eq_true rfl) (Nat.le_of_ble_eq_true rfl) hl.1 (Nat.le_of_ble_eq_true rfl) (sK_up hK) hK.1 hP hD hS hA rfl rfl [0] [] rfl (by decide) rfl rfl (by decide) (by decide) (Nat.le_of_ble_eq_true rfl) (Nat.le_of_ble_eq_true rfl) d_SS_alike_2 (fun v _ H locs hp hP hD hS => ?_)
  obtain rfl : v = some .null := hp
  have hP : va_P (dC, dI) classes [(h0, .inr (7, sF q tl))] H := hP
  have hD : va_D A [(h0, .inr (7, sF q tl))] := hD
  refine W.eq (g2 := F0 m 5 ls [.null]) rfl ?_
  refine lv_astoreN (lv' := [(4, .null), (0, .ref h0), (1, .int f), (2, .int g), (3, .int i)]) hx hb d_SS_alike_5 hl (by decide) rfl (fun ls hl => ?_)
  refine lv_aload_n hx hb d_SS_alike_7 rfl (lv_at hl 1 rfl) ?_
  refine lv_iload_n hx hb d_SS_alike_8 rfl (lv_at hl 4 rfl) ?_
  refine ax_V (ci := 7) (q0 := 0) (k := 1) (As := [.int i]) (rest := []) (wr := []) rfl hx hb hml hown hts g_sk (sK_bl dC dI ca) (c_SS_formOf l dC dI ca h0 q tl i) xs_252 xs_253 xs_0 xs_254 xs_324 (by decide +kernel) rfl (Nat.le_of_ble_eq_true rfl) (Nat.le_of_ble_eq_true rfl) hl.1 (Nat.le_of_ble_eq_true rfl) (sK_up hK) hK.1 hP hD hS hA rfl rfl [0] [] rfl (by decide) rfl rfl (by decide) (by decide) (Nat.le_of_ble_eq_true rfl) (Nat.le_of_ble_eq_true rfl) d_SS_alike_9 (fun v _ H locs hp hP hD hS => ?_)
  obtain rfl : v = some .null := hp
  have hP : va_P (dC, dI) classes [(h0, .inr (7, sF q tl))] H := hP
  have hD : va_D A [(h0, .inr (7, sF q tl))] := hD
  refine W.eq (g2 := F0 m 12 ls [.null]) rfl ?_
  refine lv_astoreN (lv' := [(5, .null), (4, .null), (0, .ref h0), (1, .int f), (2, .int g), (3, .int i)]) hx hb d_SS_alike_12 hl (by decide) rfl (fun ls hl => ?_)
  refine lv_aloadN hx hb d_SS_alike_14 (lv_at hl 1 rfl) ?_
  refine lv_ifnullN (tgt := 37) hx hb d_SS_alike_16 (by decide) ?_
  refine lv_iconst (v := (-1)) hx hb d_SS_alike_37 (by decide) ?_
  exact ax_iret hx hb hr hlocks hP hD hS () rfl [0] rfl (by decide) rfl (Nat.le_of_ble_eq_true rfl) (Nat.le_of_ble_eq_true rfl) d_SS_alike_38
theorem d_SS_undo_0 : decode b_SS_undo 0 = .ok (.aload_n 0, 1) := by decide +kernel
theorem d_SS_undo_1 : decode b_SS_undo 1 = .ok (.iload_n 1, 1) := by decide +kernel
theorem d_SS_undo_2 : decode b_SS_undo 2 = .ok (.invokevirtual 154, 3) := by decide +kernel
theorem d_SS_undo_5 : decode b_SS_undo 5 = .ok (.astore_n 2, 1) := by decide +kernel
theorem d_SS_undo_6 : decode b_SS_undo 6 = .ok (.aload_n 2, 1) := by decide +kernel
theorem d_SS_undo_7 : decode b_SS_undo 7 = .ok (.ifnull 12, 3) := by decide +kernel
theorem d_SS_undo_19 : decode b_SS_undo 19 = .ok (.iconst 0, 1) := by decide +kernel
theorem d_SS_undo_20 : decode b_SS_undo 20 = .ok (.ireturn, 1) := by decide +kernel
set_option maxHeartbeats 4000000 in
set_option maxRecDepth 100000 in
theorem c_SS_undo (l : Launch) (dC : Nat → ClassId) (dI : Nat → Nat → Nat) (ca : Nat → ClassId) (h0 : Nat) (q : Nat → Nat) (tl : Int32) (f : Int32) : CT l classes (dC, dI) (sK dC dI ca) sk y_SS_undo b_SS_undo 4 (some (.boolean)) 1 21 0 0 [.ref h0, .int f] [(h0, .inr (7, sF q tl))] (fun (v : Option Value) (_ : Unit) => v = some (.int 0)) (fun (_ : Unit) => [(h0, .inr (7, sF q tl))]) := by
  refine ax_of (by decide) (Nat.le_of_ble_eq_true rfl) ?_
  intro p e s m below meth c A ls hAt hK hP hD hS hA hl
  obtain ⟨hx, hb, hr, hml, hown, hts, hlocks, hin⟩ := hAt
  have hl : lv_has ls 4 [(0, .ref h0), (1, .int f)] := hl
  refine lv_aload_n hx hb d_SS_undo_0 rfl (lv_at hl 0 rfl) ?_
  refine lv_iload_n hx hb d_SS_undo_1 rfl (lv_at hl 1 rfl) ?_
  refine ax_V (ci := 7) (q0 := 0) (k := 1) (As := [.int f]) (rest := []) (wr := []) rfl hx hb hml hown hts g_sk (sK_bl dC dI ca) (c_SS_formOf l dC dI ca h0 q tl f) xs_252 xs_253 xs_0 xs_254 xs_324 (by decide +kernel) rfl (Nat.le_of_ble_eq_true rfl) (Nat.le_of_ble_eq_true rfl) hl.1 (Nat.le_of_ble_eq_true rfl) (sK_up hK) hK.1 hP hD hS hA rfl rfl [0] [] rfl (by decide) rfl rfl (by decide) (by decide) (Nat.le_of_ble_eq_true rfl) (Nat.le_of_ble_eq_true rfl) d_SS_undo_2 (fun v _ H locs hp hP hD hS => ?_)
  obtain rfl : v = some .null := hp
  have hP : va_P (dC, dI) classes [(h0, .inr (7, sF q tl))] H := hP
  have hD : va_D A [(h0, .inr (7, sF q tl))] := hD
  refine W.eq (g2 := F0 m 5 ls [.null]) rfl ?_
  refine lv_astore_nN (lv' := [(2, .null), (0, .ref h0), (1, .int f)]) hx hb d_SS_undo_5 rfl hl (by decide) rfl (fun ls hl => ?_)
  refine lv_aload_nN hx hb d_SS_undo_6 rfl (lv_at hl 0 rfl) ?_
  refine lv_ifnullN (tgt := 19) hx hb d_SS_undo_7 (by decide) ?_
  refine lv_iconst (v := 0) hx hb d_SS_undo_19 (by decide) ?_
  exact ax_zret hx hb hr (by decide) hlocks hP hD hS () rfl [0] rfl (by decide) rfl (Nat.le_of_ble_eq_true rfl) (Nat.le_of_ble_eq_true rfl) d_SS_undo_20
theorem d_SS_call_0 : decode b_SS_call 0 = .ok (.aload_n 0, 1) := by decide +kernel
theorem d_SS_call_1 : decode b_SS_call 1 = .ok (.iload_n 2, 1) := by decide +kernel
theorem d_SS_call_2 : decode b_SS_call 2 = .ok (.invokevirtual 154, 3) := by decide +kernel
theorem d_SS_call_5 : decode b_SS_call 5 = .ok (.astore 8, 2) := by decide +kernel
theorem d_SS_call_7 : decode b_SS_call 7 = .ok (.aload 8, 2) := by decide +kernel
theorem d_SS_call_9 : decode b_SS_call 9 = .ok (.ifnull 25, 3) := by decide +kernel
theorem d_SS_call_34 : decode b_SS_call 34 = .ok (.iconst 0, 1) := by decide +kernel
theorem d_SS_call_35 : decode b_SS_call 35 = .ok (.ireturn, 1) := by decide +kernel
set_option maxHeartbeats 4000000 in
set_option maxRecDepth 100000 in
theorem c_SS_call (l : Launch) (dC : Nat → ClassId) (dI : Nat → Nat → Nat) (ca : Nat → ClassId) (h0 : Nat) (q : Nat → Nat) (tl : Int32) (s0 : Int32) (f : Int32) (g : Int32) (x : Int64) (y : Int64) : CT l classes (dC, dI) (sK dC dI ca) sk y_SS_call b_SS_call 11 (some (.boolean)) 1 21 0 0 [.ref h0, .int s0, .int f, .int g, .long x, .long y] [(h0, .inr (7, sF q tl))] (fun (v : Option Value) (_ : Unit) => v = some (.int 0)) (fun (_ : Unit) => [(h0, .inr (7, sF q tl))]) := by
  refine ax_of (by decide) (Nat.le_of_ble_eq_true rfl) ?_
  intro p e s m below meth c A ls hAt hK hP hD hS hA hl
  obtain ⟨hx, hb, hr, hml, hown, hts, hlocks, hin⟩ := hAt
  have hl : lv_has ls 11 [(0, .ref h0), (1, .int s0), (2, .int f), (3, .int g), (4, .long x), (6, .long y)] := hl
  refine lv_aload_n hx hb d_SS_call_0 rfl (lv_at hl 0 rfl) ?_
  refine lv_iload_n hx hb d_SS_call_1 rfl (lv_at hl 2 rfl) ?_
  refine ax_V (ci := 7) (q0 := 0) (k := 1) (As := [.int f]) (rest := []) (wr := []) rfl hx hb hml hown hts g_sk (sK_bl dC dI ca) (c_SS_formOf l dC dI ca h0 q tl f) xs_252 xs_253 xs_0 xs_254 xs_324 (by decide +kernel) rfl (Nat.le_of_ble_eq_true rfl) (Nat.le_of_ble_eq_true rfl) hl.1 (Nat.le_of_ble_eq_true rfl) (sK_up hK) hK.1 hP hD hS hA rfl rfl [0] [] rfl (by decide) rfl rfl (by decide) (by decide) (Nat.le_of_ble_eq_true rfl) (Nat.le_of_ble_eq_true rfl) d_SS_call_2 (fun v _ H locs hp hP hD hS => ?_)
  obtain rfl : v = some .null := hp
  have hP : va_P (dC, dI) classes [(h0, .inr (7, sF q tl))] H := hP
  have hD : va_D A [(h0, .inr (7, sF q tl))] := hD
  refine W.eq (g2 := F0 m 5 ls [.null]) rfl ?_
  refine lv_astoreN (lv' := [(8, .null), (0, .ref h0), (1, .int s0), (2, .int f), (3, .int g), (4, .long x), (6, .long y)]) hx hb d_SS_call_5 hl (by decide) rfl (fun ls hl => ?_)
  refine lv_aloadN hx hb d_SS_call_7 (lv_at hl 0 rfl) ?_
  refine lv_ifnullN (tgt := 34) hx hb d_SS_call_9 (by decide) ?_
  refine lv_iconst (v := 0) hx hb d_SS_call_34 (by decide) ?_
  exact ax_zret hx hb hr (by decide) hlocks hP hD hS () rfl [0] rfl (by decide) rfl (Nat.le_of_ble_eq_true rfl) (Nat.le_of_ble_eq_true rfl) d_SS_call_35
theorem d_SS_judge_0 : decode b_SS_judge 0 = .ok (.aload_n 0, 1) := by decide +kernel
theorem d_SS_judge_1 : decode b_SS_judge 1 = .ok (.getfield 97, 3) := by decide +kernel
theorem d_SS_judge_4 : decode b_SS_judge 4 = .ok (.istore_n 2, 1) := by decide +kernel
theorem d_SS_judge_5 : decode b_SS_judge 5 = .ok (.aload_n 0, 1) := by decide +kernel
theorem d_SS_judge_6 : decode b_SS_judge 6 = .ok (.iconst 0, 1) := by decide +kernel
theorem d_SS_judge_7 : decode b_SS_judge 7 = .ok (.putfield 97, 3) := by decide +kernel
theorem d_SS_judge_10 : decode b_SS_judge 10 = .ok (.aload_n 0, 1) := by decide +kernel
theorem d_SS_judge_11 : decode b_SS_judge 11 = .ok (.iload_n 1, 1) := by decide +kernel
theorem d_SS_judge_12 : decode b_SS_judge 12 = .ok (.invokevirtual 154, 3) := by decide +kernel
theorem d_SS_judge_15 : decode b_SS_judge 15 = .ok (.astore_n 3, 1) := by decide +kernel
theorem d_SS_judge_16 : decode b_SS_judge 16 = .ok (.aload_n 3, 1) := by decide +kernel
theorem d_SS_judge_17 : decode b_SS_judge 17 = .ok (.ifnonnull 5, 3) := by decide +kernel
theorem d_SS_judge_20 : decode b_SS_judge 20 = .ok (.iconst (-1), 1) := by decide +kernel
theorem d_SS_judge_21 : decode b_SS_judge 21 = .ok (.ireturn, 1) := by decide +kernel
set_option maxHeartbeats 4000000 in
set_option maxRecDepth 100000 in
theorem c_SS_judge (l : Launch) (dC : Nat → ClassId) (dI : Nat → Nat → Nat) (ca : Nat → ClassId) (h0 : Nat) (q : Nat → Nat) (f : Int32) : CT l classes (dC, dI) (sK dC dI ca) sk y_SS_judge b_SS_judge 4 (some (.int)) 1 21 0 0 [.ref h0, .int f] [(h0, .inr (7, sF q 0))] (fun (v : Option Value) (_ : Unit) => v = some (.int (-1))) (fun (_ : Unit) => [(h0, .inr (7, sF q 0))]) := by
  refine ax_of (by decide) (Nat.le_of_ble_eq_true rfl) ?_
  intro p e s m below meth c A ls hAt hK hP hD hS hA hl
  obtain ⟨hx, hb, hr, hml, hown, hts, hlocks, hin⟩ := hAt
  have hl : lv_has ls 4 [(0, .ref h0), (1, .int f)] := hl
  refine lv_aload_n hx hb d_SS_judge_0 rfl (lv_at hl 0 rfl) ?_
  refine va_get (D := (dC, dI)) (ci := 7) (v := .int 0) (C := R_SS) (T := F_SS) (N := 18) hx hb hts i_SS hown hK.1 hP 0 rfl rfl 1 (by decide) (hts _ xs_154) (fun _ h9 => h9) rfl d_SS_judge_1 ?_
  refine lv_istore_n (lv' := [(2, .int 0), (0, .ref h0), (1, .int f)]) hx hb d_SS_judge_4 rfl hl (by decide) rfl (fun ls hl => ?_)
  refine lv_aload_n hx hb d_SS_judge_5 rfl (lv_at hl 1 rfl) ?_
  refine lv_iconst (v := 0) hx hb d_SS_judge_6 (by decide) ?_
  refine va_put (D := (dC, dI)) (ci := 7) (v := .int 0) (ty := .int) (C := R_SS) (T := F_SS) (N := 18) hx hb hts i_SS t_SS t_SS_ok n_SS hown hK.1 hP hD hS 0 rfl rfl 1 (by decide) (hts _ xs_154) (fun _ h9 => h9) rfl (by decide +kernel) rfl rfl (Nat.le_of_ble_eq_true rfl) d_SS_judge_7 (fun H locs hP hD hS => ?_)
  have hP : va_P (dC, dI) classes [(h0, .inr (7, sF q 0))] H := hP
  have hD : va_D A [(h0, .inr (7, sF q 0))] := hD
  refine lv_aload_n hx hb d_SS_judge_10 rfl (lv_at hl 1 rfl) ?_
  refine lv_iload_n hx hb d_SS_judge_11 rfl (lv_at hl 2 rfl) ?_
  refine ax_V (ci := 7) (q0 := 0) (k := 1) (As := [.int f]) (rest := []) (wr := []) rfl hx hb hml hown hts g_sk (sK_bl dC dI ca) (c_SS_formOf l dC dI ca h0 q 0 f) xs_252 xs_253 xs_0 xs_254 xs_324 (by decide +kernel) rfl (Nat.le_of_ble_eq_true rfl) (Nat.le_of_ble_eq_true rfl) hl.1 (Nat.le_of_ble_eq_true rfl) (sK_up hK) hK.1 hP hD hS hA rfl rfl [0] [] rfl (by decide) rfl rfl (by decide) (by decide) (Nat.le_of_ble_eq_true rfl) (Nat.le_of_ble_eq_true rfl) d_SS_judge_12 (fun v _ H locs hp hP hD hS => ?_)
  obtain rfl : v = some .null := hp
  have hP : va_P (dC, dI) classes [(h0, .inr (7, sF q 0))] H := hP
  have hD : va_D A [(h0, .inr (7, sF q 0))] := hD
  refine W.eq (g2 := F0 m 15 ls [.null]) rfl ?_
  refine lv_astore_nN (lv' := [(3, .null), (2, .int 0), (0, .ref h0), (1, .int f)]) hx hb d_SS_judge_15 rfl hl (by decide) rfl (fun ls hl => ?_)
  refine lv_aload_nN hx hb d_SS_judge_16 rfl (lv_at hl 0 rfl) ?_
  refine lv_ifnonnullN hx hb d_SS_judge_17 ?_
  refine lv_iconst (v := (-1)) hx hb d_SS_judge_20 (by decide) ?_
  exact ax_iret hx hb hr hlocks hP hD hS () rfl [0] rfl (by decide) rfl (Nat.le_of_ble_eq_true rfl) (Nat.le_of_ble_eq_true rfl) d_SS_judge_21
theorem d_SS_edit_0 : decode b_SS_edit 0 = .ok (.aload_n 0, 1) := by decide +kernel
theorem d_SS_edit_1 : decode b_SS_edit 1 = .ok (.getfield 97, 3) := by decide +kernel
theorem d_SS_edit_4 : decode b_SS_edit 4 = .ok (.istore_n 3, 1) := by decide +kernel
theorem d_SS_edit_5 : decode b_SS_edit 5 = .ok (.aload_n 0, 1) := by decide +kernel
theorem d_SS_edit_6 : decode b_SS_edit 6 = .ok (.iconst 0, 1) := by decide +kernel
theorem d_SS_edit_7 : decode b_SS_edit 7 = .ok (.putfield 97, 3) := by decide +kernel
theorem d_SS_edit_10 : decode b_SS_edit 10 = .ok (.aload_n 0, 1) := by decide +kernel
theorem d_SS_edit_11 : decode b_SS_edit 11 = .ok (.iload_n 1, 1) := by decide +kernel
theorem d_SS_edit_12 : decode b_SS_edit 12 = .ok (.invokevirtual 154, 3) := by decide +kernel
theorem d_SS_edit_15 : decode b_SS_edit 15 = .ok (.astore 4, 2) := by decide +kernel
theorem d_SS_edit_17 : decode b_SS_edit 17 = .ok (.aload 4, 2) := by decide +kernel
theorem d_SS_edit_19 : decode b_SS_edit 19 = .ok (.ifnull 16, 3) := by decide +kernel
theorem d_SS_edit_35 : decode b_SS_edit 35 = .ok (.iconst (-1), 1) := by decide +kernel
theorem d_SS_edit_36 : decode b_SS_edit 36 = .ok (.ireturn, 1) := by decide +kernel
set_option maxHeartbeats 4000000 in
set_option maxRecDepth 100000 in
theorem c_SS_edit (l : Launch) (dC : Nat → ClassId) (dI : Nat → Nat → Nat) (ca : Nat → ClassId) (h0 : Nat) (q : Nat → Nat) (f : Int32) (g : Int32) : CT l classes (dC, dI) (sK dC dI ca) sk y_SS_edit b_SS_edit 7 (some (.int)) 1 21 0 0 [.ref h0, .int f, .int g] [(h0, .inr (7, sF q 0))] (fun (v : Option Value) (_ : Unit) => v = some (.int (-1))) (fun (_ : Unit) => [(h0, .inr (7, sF q 0))]) := by
  refine ax_of (by decide) (Nat.le_of_ble_eq_true rfl) ?_
  intro p e s m below meth c A ls hAt hK hP hD hS hA hl
  obtain ⟨hx, hb, hr, hml, hown, hts, hlocks, hin⟩ := hAt
  have hl : lv_has ls 7 [(0, .ref h0), (1, .int f), (2, .int g)] := hl
  refine lv_aload_n hx hb d_SS_edit_0 rfl (lv_at hl 0 rfl) ?_
  refine va_get (D := (dC, dI)) (ci := 7) (v := .int 0) (C := R_SS) (T := F_SS) (N := 18) hx hb hts i_SS hown hK.1 hP 0 rfl rfl 1 (by decide) (hts _ xs_154) (fun _ h9 => h9) rfl d_SS_edit_1 ?_
  refine lv_istore_n (lv' := [(3, .int 0), (0, .ref h0), (1, .int f), (2, .int g)]) hx hb d_SS_edit_4 rfl hl (by decide) rfl (fun ls hl => ?_)
  refine lv_aload_n hx hb d_SS_edit_5 rfl (lv_at hl 1 rfl) ?_
  refine lv_iconst (v := 0) hx hb d_SS_edit_6 (by decide) ?_
  refine va_put (D := (dC, dI)) (ci := 7) (v := .int 0) (ty := .int) (C := R_SS) (T := F_SS) (N := 18) hx hb hts i_SS t_SS t_SS_ok n_SS hown hK.1 hP hD hS 0 rfl rfl 1 (by decide) (hts _ xs_154) (fun _ h9 => h9) rfl (by decide +kernel) rfl rfl (Nat.le_of_ble_eq_true rfl) d_SS_edit_7 (fun H locs hP hD hS => ?_)
  have hP : va_P (dC, dI) classes [(h0, .inr (7, sF q 0))] H := hP
  have hD : va_D A [(h0, .inr (7, sF q 0))] := hD
  refine lv_aload_n hx hb d_SS_edit_10 rfl (lv_at hl 1 rfl) ?_
  refine lv_iload_n hx hb d_SS_edit_11 rfl (lv_at hl 2 rfl) ?_
  refine ax_V (ci := 7) (q0 := 0) (k := 1) (As := [.int f]) (rest := []) (wr := []) rfl hx hb hml hown hts g_sk (sK_bl dC dI ca) (c_SS_formOf l dC dI ca h0 q 0 f) xs_252 xs_253 xs_0 xs_254 xs_324 (by decide +kernel) rfl (Nat.le_of_ble_eq_true rfl) (Nat.le_of_ble_eq_true rfl) hl.1 (Nat.le_of_ble_eq_true rfl) (sK_up hK) hK.1 hP hD hS hA rfl rfl [0] [] rfl (by decide) rfl rfl (by decide) (by decide) (Nat.le_of_ble_eq_true rfl) (Nat.le_of_ble_eq_true rfl) d_SS_edit_12 (fun v _ H locs hp hP hD hS => ?_)
  obtain rfl : v = some .null := hp
  have hP : va_P (dC, dI) classes [(h0, .inr (7, sF q 0))] H := hP
  have hD : va_D A [(h0, .inr (7, sF q 0))] := hD
  refine W.eq (g2 := F0 m 15 ls [.null]) rfl ?_
  refine lv_astoreN (lv' := [(4, .null), (3, .int 0), (0, .ref h0), (1, .int f), (2, .int g)]) hx hb d_SS_edit_15 hl (by decide) rfl (fun ls hl => ?_)
  refine lv_aloadN hx hb d_SS_edit_17 (lv_at hl 0 rfl) ?_
  refine lv_ifnullN (tgt := 35) hx hb d_SS_edit_19 (by decide) ?_
  refine lv_iconst (v := (-1)) hx hb d_SS_edit_35 (by decide) ?_
  exact ax_iret hx hb hr hlocks hP hD hS () rfl [0] rfl (by decide) rfl (Nat.le_of_ble_eq_true rfl) (Nat.le_of_ble_eq_true rfl) d_SS_edit_36
