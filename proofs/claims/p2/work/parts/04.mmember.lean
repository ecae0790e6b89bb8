theorem d_MR_init_0 : decode b_MR_init 0 = .ok (.aload_n 0, 1) := by decide +kernel
theorem d_MR_init_1 : decode b_MR_init 1 = .ok (.invokespecial 3, 3) := by decide +kernel
theorem d_MR_init_4 : decode b_MR_init 4 = .ok (.aload_n 0, 1) := by decide +kernel
theorem d_MR_init_5 : decode b_MR_init 5 = .ok (.new 9, 3) := by decide +kernel
theorem d_MR_init_8 : decode b_MR_init 8 = .ok (.dup, 1) := by decide +kernel
theorem d_MR_init_9 : decode b_MR_init 9 = .ok (.iload_n 1, 1) := by decide +kernel
theorem d_MR_init_10 : decode b_MR_init 10 = .ok (.invokespecial 11, 3) := by decide +kernel
theorem d_MR_init_13 : decode b_MR_init 13 = .ok (.putfield 14, 3) := by decide +kernel
theorem d_MR_init_16 : decode b_MR_init 16 = .ok (.aload_n 0, 1) := by decide +kernel
theorem d_MR_init_17 : decode b_MR_init 17 = .ok (.new 9, 3) := by decide +kernel
theorem d_MR_init_20 : decode b_MR_init 20 = .ok (.dup, 1) := by decide +kernel
theorem d_MR_init_21 : decode b_MR_init 21 = .ok (.iload_n 1, 1) := by decide +kernel
theorem d_MR_init_22 : decode b_MR_init 22 = .ok (.invokespecial 11, 3) := by decide +kernel
theorem d_MR_init_25 : decode b_MR_init 25 = .ok (.putfield 20, 3) := by decide +kernel
theorem d_MR_init_28 : decode b_MR_init 28 = .ok (.aload_n 0, 1) := by decide +kernel
theorem d_MR_init_29 : decode b_MR_init 29 = .ok (.new 9, 3) := by decide +kernel
theorem d_MR_init_32 : decode b_MR_init 32 = .ok (.dup, 1) := by decide +kernel
theorem d_MR_init_33 : decode b_MR_init 33 = .ok (.iload_n 1, 1) := by decide +kernel
theorem d_MR_init_34 : decode b_MR_init 34 = .ok (.invokespecial 11, 3) := by decide +kernel
theorem d_MR_init_37 : decode b_MR_init 37 = .ok (.putfield 23, 3) := by decide +kernel
theorem d_MR_init_40 : decode b_MR_init 40 = .ok (.aload_n 0, 1) := by decide +kernel
theorem d_MR_init_41 : decode b_MR_init 41 = .ok (.new 9, 3) := by decide +kernel
theorem d_MR_init_44 : decode b_MR_init 44 = .ok (.dup, 1) := by decide +kernel
theorem d_MR_init_45 : decode b_MR_init 45 = .ok (.iload_n 1, 1) := by decide +kernel
theorem d_MR_init_46 : decode b_MR_init 46 = .ok (.invokespecial 11, 3) := by decide +kernel
theorem d_MR_init_49 : decode b_MR_init 49 = .ok (.putfield 26, 3) := by decide +kernel
theorem d_MR_init_52 : decode b_MR_init 52 = .ok (.aload_n 0, 1) := by decide +kernel
theorem d_MR_init_53 : decode b_MR_init 53 = .ok (.new 29, 3) := by decide +kernel
theorem d_MR_init_56 : decode b_MR_init 56 = .ok (.dup, 1) := by decide +kernel
theorem d_MR_init_57 : decode b_MR_init 57 = .ok (.iload_n 1, 1) := by decide +kernel
theorem d_MR_init_58 : decode b_MR_init 58 = .ok (.invokespecial 31, 3) := by decide +kernel
theorem d_MR_init_61 : decode b_MR_init 61 = .ok (.putfield 32, 3) := by decide +kernel
theorem d_MR_init_64 : decode b_MR_init 64 = .ok (.aload_n 0, 1) := by decide +kernel
theorem d_MR_init_65 : decode b_MR_init 65 = .ok (.new 9, 3) := by decide +kernel
theorem d_MR_init_68 : decode b_MR_init 68 = .ok (.dup, 1) := by decide +kernel
theorem d_MR_init_69 : decode b_MR_init 69 = .ok (.iload_n 1, 1) := by decide +kernel
theorem d_MR_init_70 : decode b_MR_init 70 = .ok (.invokespecial 11, 3) := by decide +kernel
theorem d_MR_init_73 : decode b_MR_init 73 = .ok (.putfield 36, 3) := by decide +kernel
theorem d_MR_init_76 : decode b_MR_init 76 = .ok (.aload_n 0, 1) := by decide +kernel
theorem d_MR_init_77 : decode b_MR_init 77 = .ok (.new 9, 3) := by decide +kernel
theorem d_MR_init_80 : decode b_MR_init 80 = .ok (.dup, 1) := by decide +kernel
theorem d_MR_init_81 : decode b_MR_init 81 = .ok (.iload_n 1, 1) := by decide +kernel
theorem d_MR_init_82 : decode b_MR_init 82 = .ok (.invokespecial 11, 3) := by decide +kernel
theorem d_MR_init_85 : decode b_MR_init 85 = .ok (.putfield 39, 3) := by decide +kernel
theorem d_MR_init_88 : decode b_MR_init 88 = .ok (.aload_n 0, 1) := by decide +kernel
theorem d_MR_init_89 : decode b_MR_init 89 = .ok (.new 9, 3) := by decide +kernel
theorem d_MR_init_92 : decode b_MR_init 92 = .ok (.dup, 1) := by decide +kernel
theorem d_MR_init_93 : decode b_MR_init 93 = .ok (.iload_n 1, 1) := by decide +kernel
theorem d_MR_init_94 : decode b_MR_init 94 = .ok (.invokespecial 11, 3) := by decide +kernel
theorem d_MR_init_97 : decode b_MR_init 97 = .ok (.putfield 42, 3) := by decide +kernel
theorem d_MR_init_100 : decode b_MR_init 100 = .ok (.aload_n 0, 1) := by decide +kernel
theorem d_MR_init_101 : decode b_MR_init 101 = .ok (.new 29, 3) := by decide +kernel
theorem d_MR_init_104 : decode b_MR_init 104 = .ok (.dup, 1) := by decide +kernel
theorem d_MR_init_105 : decode b_MR_init 105 = .ok (.iload_n 2, 1) := by decide +kernel
theorem d_MR_init_106 : decode b_MR_init 106 = .ok (.invokespecial 31, 3) := by decide +kernel
theorem d_MR_init_109 : decode b_MR_init 109 = .ok (.putfield 45, 3) := by decide +kernel
theorem d_MR_init_112 : decode b_MR_init 112 = .ok (.aload_n 0, 1) := by decide +kernel
theorem d_MR_init_113 : decode b_MR_init 113 = .ok (.new 9, 3) := by decide +kernel
theorem d_MR_init_116 : decode b_MR_init 116 = .ok (.dup, 1) := by decide +kernel
theorem d_MR_init_117 : decode b_MR_init 117 = .ok (.iload_n 2, 1) := by decide +kernel
theorem d_MR_init_118 : decode b_MR_init 118 = .ok (.invokespecial 11, 3) := by decide +kernel
theorem d_MR_init_121 : decode b_MR_init 121 = .ok (.putfield 48, 3) := by decide +kernel
theorem d_MR_init_124 : decode b_MR_init 124 = .ok (.return_, 1) := by decide +kernel
set_option maxHeartbeats 4000000 in
set_option maxRecDepth 100000 in
theorem c_MR_init (l : Launch) (dC : Nat → ClassId) (dI : Nat → Nat → Nat) (ca : Nat → ClassId) (h0 : Nat) : CT l classes (dC, dI) (mK dC dI ca) wm y_MR_init b_MR_init 3 none 2 33 20 60 [.ref h0, .int 4, .int 4] [(h0, .inr (5, [.int 0, .int 0, .int 0, .int 0, .int 0, .int 0, .int 0, .null, .null, .null, .null, .null, .null, .null, .null, .null, .null, .null, .int 0, .int 0, .int 0, .int 0, .null, .int 0]))] (fun (v : Option Value) (_ : List Value) => v = none) (fun (fs : List Value) => [(h0, .inr (5, fs))]) := by
  refine ax_of (by decide) (Nat.le_of_ble_eq_true rfl) ?_
  intro p e s m below meth c A ls hAt hK hP hD hS hA hl
  obtain ⟨hx, hb, hr, hml, hown, hts, hlocks, hin⟩ := hAt
  have hin : meth.name = "<init>" := hin
  have hl : lv_has ls 3 [(0, .ref h0), (1, .int 4), (2, .int 4)] := hl
  refine lv_aload_n hx hb d_MR_init_0 rfl (lv_at hl 0 rfl) ?_
  refine W.objInit hx hb hown (hts _ xm_46) (hts _ xm_8) (hts _ xm_9) rfl (by rw [hml]; exact hl.1) rfl d_MR_init_1 (Nat.le_of_ble_eq_true rfl) (Nat.le_of_ble_eq_true rfl) ?_
  refine W.eq (g2 := F0 m 4 ls []) rfl ?_
  refine lv_aload_n hx hb d_MR_init_4 rfl (lv_at hl 0 rfl) ?_
  refine va_new (ci := 3) (fs := [.null, .int 0]) (C := R_MI) (T := F_MI) (N := 2) hx hb hts i_MI t_MI t_MI_ok hown (hts _ xm_47) (hts _ xm_33) (hts _ xm_3) hK.1 hP hD hS hA rfl (by decide +kernel) (Nat.le_of_ble_eq_true rfl) (Nat.le_of_ble_eq_true rfl) d_MR_init_5 (fun q_1 H hP hD hS => ?_)
  have hP : va_P (dC, dI) classes [(h0, .inr (5, [.int 0, .int 0, .int 0, .int 0, .int 0, .int 0, .int 0, .null, .null, .null, .null, .null, .null, .null, .null, .null, .null, .null, .int 0, .int 0, .int 0, .int 0, .null, .int 0])), (q_1, .inr (3, [.null, .int 0]))] H := hP
  have hD : va_D A [(h0, .inr (5, [.int 0, .int 0, .int 0, .int 0, .int 0, .int 0, .int 0, .null, .null, .null, .null, .null, .null, .null, .null, .null, .null, .null, .int 0, .int 0, .int 0, .int 0, .null, .int 0])), (q_1, .inr (3, [.null, .int 0]))] := hD
  refine W.widen (k := 1) (n := 2) (Nat.le_of_ble_eq_true rfl) (Nat.le_of_ble_eq_true rfl) ?_
  refine lv_dup hx hb d_MR_init_8 rfl ?_
  refine lv_iload_n hx hb d_MR_init_9 rfl (lv_at hl 1 rfl) ?_
  refine ax_I (k := 1) (As := [.int 4]) (rest := [.ref q_1, .ref h0]) (wr := [(h0, .inr (5, [.int 0, .int 0, .int 0, .int 0, .int 0, .int 0, .int 0, .null, .null, .null, .null, .null, .null, .null, .null, .null, .null, .null, .int 0, .int 0, .int 0, .int 0, .null, .int 0]))]) rfl hx hb hml hown hts g_wm (mK_bl dC dI ca) (c_MI_init l dC dI ca q_1) rfl xm_48 xm_35 xm_3 xm_36 (by decide +kernel) rfl (Nat.le_of_ble_eq_true rfl) (Nat.le_of_ble_eq_true rfl) hl.1 (Nat.le_of_ble_eq_true rfl) (mK_up hK) hP hD hS hA [1] [0] rfl (by decide) rfl rfl (by decide) (by decide) (Nat.le_of_ble_eq_true rfl) (Nat.le_of_ble_eq_true rfl) d_MR_init_10 (fun v q_2 H locs hp hP hD hS => ?_)
  obtain rfl : v = none := hp
  have hP : va_P (dC, dI) classes [(h0, .inr (5, [.int 0, .int 0, .int 0, .int 0, .int 0, .int 0, .int 0, .null, .null, .null, .null, .null, .null, .null, .null, .null, .null, .null, .int 0, .int 0, .int 0, .int 0, .null, .int 0])), (q_1, .inr (3, [.ref q_2, .int 0])), (q_2, .inl (ca 1, 4, .inl (fun _ => 0)))] H := hP
  have hD : va_D A [(h0, .inr (5, [.int 0, .int 0, .int 0, .int 0, .int 0, .int 0, .int 0, .null, .null, .null, .null, .null, .null, .null, .null, .null, .null, .null, .int 0, .int 0, .int 0, .int 0, .null, .int 0])), (q_1, .inr (3, [.ref q_2, .int 0])), (q_2, .inl (ca 1, 4, .inl (fun _ => 0)))] := hD
  refine W.eq (g2 := F0 m 13 ls [.ref q_1, .ref h0]) rfl ?_
  refine W.widen (k := 2) (n := 6) (Nat.le_of_ble_eq_true rfl) (Nat.le_of_ble_eq_true rfl) ?_
  have hP := hP.sub (ws' := [(h0, .inr (5, [.int 0, .int 0, .int 0, .int 0, .int 0, .int 0, .int 0, .null, .null, .null, .null, .null, .null, .null, .null, .null, .null, .null, .int 0, .int 0, .int 0, .int 0, .null, .int 0])), (q_1, .inr (3, [.ref q_2, .int 0]))]) [0, 1] rfl
  have hD := hD.sub (ws' := [(h0, .inr (5, [.int 0, .int 0, .int 0, .int 0, .int 0, .int 0, .int 0, .null, .null, .null, .null, .null, .null, .null, .null, .null, .null, .null, .int 0, .int 0, .int 0, .int 0, .null, .int 0])), (q_1, .inr (3, [.ref q_2, .int 0]))]) [0, 1] (by decide) rfl
  refine va_putF (D := (dC, dI)) (ci := 5) (v := .ref q_1) (ty := .object "SourceBackModel$Ints") (C := R_MR) (T := F_MR) (N := 24) hx hb hts i_MR t_MR t_MR_ok n_MR hown hK.1 hP hD hS 0 rfl rfl 7 (by decide) (hts _ xm_57) (fun _ h9 => h9) rfl hin rfl (by decide +kernel) rfl rfl (Nat.le_of_ble_eq_true rfl) d_MR_init_13 (fun H locs hP hD hS => ?_)
  have hP : va_P (dC, dI) classes [(h0, .inr (5, [.int 0, .int 0, .int 0, .int 0, .int 0, .int 0, .int 0, .ref q_1, .null, .null, .null, .null, .null, .null, .null, .null, .null, .null, .int 0, .int 0, .int 0, .int 0, .null, .int 0])), (q_1, .inr (3, [.ref q_2, .int 0]))] H := hP
  have hD : va_D A [(h0, .inr (5, [.int 0, .int 0, .int 0, .int 0, .int 0, .int 0, .int 0, .ref q_1, .null, .null, .null, .null, .null, .null, .null, .null, .null, .null, .int 0, .int 0, .int 0, .int 0, .null, .int 0])), (q_1, .inr (3, [.ref q_2, .int 0]))] := hD
  have hP := hP.sub (ws' := [(h0, .inr (5, [.int 0, .int 0, .int 0, .int 0, .int 0, .int 0, .int 0, .ref q_1, .null, .null, .null, .null, .null, .null, .null, .null, .null, .null, .int 0, .int 0, .int 0, .int 0, .null, .int 0]))]) [0] rfl
  have hD := hD.sub (ws' := [(h0, .inr (5, [.int 0, .int 0, .int 0, .int 0, .int 0, .int 0, .int 0, .ref q_1, .null, .null, .null, .null, .null, .null, .null, .null, .null, .null, .int 0, .int 0, .int 0, .int 0, .null, .int 0]))]) [0] (by decide) rfl
  refine lv_aload_n hx hb d_MR_init_16 rfl (lv_at hl 0 rfl) ?_
  refine va_new (ci := 3) (fs := [.null, .int 0]) (C := R_MI) (T := F_MI) (N := 2) hx hb hts i_MI t_MI t_MI_ok hown (hts _ xm_47) (hts _ xm_33) (hts _ xm_3) hK.1 hP hD hS hA rfl (by decide +kernel) (Nat.le_of_ble_eq_true rfl) (Nat.le_of_ble_eq_true rfl) d_MR_init_17 (fun q_3 H hP hD hS => ?_)
  have hP : va_P (dC, dI) classes [(h0, .inr (5, [.int 0, .int 0, .int 0, .int 0, .int 0, .int 0, .int 0, .ref q_1, .null, .null, .null, .null, .null, .null, .null, .null, .null, .null, .int 0, .int 0, .int 0, .int 0, .null, .int 0])), (q_3, .inr (3, [.null, .int 0]))] H := hP
  have hD : va_D A [(h0, .inr (5, [.int 0, .int 0, .int 0, .int 0, .int 0, .int 0, .int 0, .ref q_1, .null, .null, .null, .null, .null, .null, .null, .null, .null, .null, .int 0, .int 0, .int 0, .int 0, .null, .int 0])), (q_3, .inr (3, [.null, .int 0]))] := hD
  refine W.widen (k := 3) (n := 8) (Nat.le_of_ble_eq_true rfl) (Nat.le_of_ble_eq_true rfl) ?_
  refine lv_dup hx hb d_MR_init_20 rfl ?_
  refine lv_iload_n hx hb d_MR_init_21 rfl (lv_at hl 1 rfl) ?_
  refine ax_I (k := 1) (As := [.int 4]) (rest := [.ref q_3, .ref h0]) (wr := [(h0, .inr (5, [.int 0, .int 0, .int 0, .int 0, .int 0, .int 0, .int 0, .ref q_1, .null, .null, .null, .null, .null, .null, .null, .null, .null, .null, .int 0, .int 0, .int 0, .int 0, .null, .int 0]))]) rfl hx hb hml hown hts g_wm (mK_bl dC dI ca) (c_MI_init l dC dI ca q_3) rfl xm_48 xm_35 xm_3 xm_36 (by decide +kernel) rfl (Nat.le_of_ble_eq_true rfl) (Nat.le_of_ble_eq_true rfl) hl.1 (Nat.le_of_ble_eq_true rfl) (mK_up hK) hP hD hS hA [1] [0] rfl (by decide) rfl rfl (by decide) (by decide) (Nat.le_of_ble_eq_true rfl) (Nat.le_of_ble_eq_true rfl) d_MR_init_22 (fun v q_4 H locs hp hP hD hS => ?_)
  obtain rfl : v = none := hp
  have hP : va_P (dC, dI) classes [(h0, .inr (5, [.int 0, .int 0, .int 0, .int 0, .int 0, .int 0, .int 0, .ref q_1, .null, .null, .null, .null, .null, .null, .null, .null, .null, .null, .int 0, .int 0, .int 0, .int 0, .null, .int 0])), (q_3, .inr (3, [.ref q_4, .int 0])), (q_4, .inl (ca 1, 4, .inl (fun _ => 0)))] H := hP
  have hD : va_D A [(h0, .inr (5, [.int 0, .int 0, .int 0, .int 0, .int 0, .int 0, .int 0, .ref q_1, .null, .null, .null, .null, .null, .null, .null, .null, .null, .null, .int 0, .int 0, .int 0, .int 0, .null, .int 0])), (q_3, .inr (3, [.ref q_4, .int 0])), (q_4, .inl (ca 1, 4, .inl (fun _ => 0)))] := hD
  refine W.eq (g2 := F0 m 25 ls [.ref q_3, .ref h0]) rfl ?_
  refine W.widen (k := 4) (n := 12) (Nat.le_of_ble_eq_true rfl) (Nat.le_of_ble_eq_true rfl) ?_
  have hP := hP.sub (ws' := [(h0, .inr (5, [.int 0, .int 0, .int 0, .int 0, .int 0, .int 0, .int 0, .ref q_1, .null, .null, .null, .null, .null, .null, .null, .null, .null, .null, .int 0, .int 0, .int 0, .int 0, .null, .int 0])), (q_3, .inr (3, [.ref q_4, .int 0]))]) [0, 1] rfl
  have hD := hD.sub (ws' := [(h0, .inr (5, [.int 0, .int 0, .int 0, .int 0, .int 0, .int 0, .int 0, .ref q_1, .null, .null, .null, .null, .null, .null, .null, .null, .null, .null, .int 0, .int 0, .int 0, .int 0, .null, .int 0])), (q_3, .inr (3, [.ref q_4, .int 0]))]) [0, 1] (by decide) rfl
  refine va_putF (D := (dC, dI)) (ci := 5) (v := .ref q_3) (ty := .object "SourceBackModel$Ints") (C := R_MR) (T := F_MR) (N := 24) hx hb hts i_MR t_MR t_MR_ok n_MR hown hK.1 hP hD hS 0 rfl rfl 8 (by decide) (hts _ xm_58) (fun _ h9 => h9) rfl hin rfl (by decide +kernel) rfl rfl (Nat.le_of_ble_eq_true rfl) d_MR_init_25 (fun H locs hP hD hS => ?_)
  have hP : va_P (dC, dI) classes [(h0, .inr (5, [.int 0, .int 0, .int 0, .int 0, .int 0, .int 0, .int 0, .ref q_1, .ref q_3, .null, .null, .null, .null, .null, .null, .null, .null, .null, .int 0, .int 0, .int 0, .int 0, .null, .int 0])), (q_3, .inr (3, [.ref q_4, .int 0]))] H := hP
  have hD : va_D A [(h0, .inr (5, [.int 0, .int 0, .int 0, .int 0, .int 0, .int 0, .int 0, .ref q_1, .ref q_3, .null, .null, .null, .null, .null, .null, .null, .null, .null, .int 0, .int 0, .int 0, .int 0, .null, .int 0])), (q_3, .inr (3, [.ref q_4, .int 0]))] := hD
  have hP := hP.sub (ws' := [(h0, .inr (5, [.int 0, .int 0, .int 0, .int 0, .int 0, .int 0, .int 0, .ref q_1, .ref q_3, .null, .null, .null, .null, .null, .null, .null, .null, .null, .int 0, .int 0, .int 0, .int 0, .null, .int 0]))]) [0] rfl
  have hD := hD.sub (ws' := [(h0, .inr (5, [.int 0, .int 0, .int 0, .int 0, .int 0, .int 0, .int 0, .ref q_1, .ref q_3, .null, .null, .null, .null, .null, .null, .null, .null, .null, .int 0, .int 0, .int 0, .int 0, .null, .int 0]))]) [0] (by decide) rfl
  refine lv_aload_n hx hb d_MR_init_28 rfl (lv_at hl 0 rfl) ?_
  refine va_new (ci := 3) (fs := [.null, .int 0]) (C := R_MI) (T := F_MI) (N := 2) hx hb hts i_MI t_MI t_MI_ok hown (hts _ xm_47) (hts _ xm_33) (hts _ xm_3) hK.1 hP hD hS hA rfl (by decide +kernel) (Nat.le_of_ble_eq_true rfl) (Nat.le_of_ble_eq_true rfl) d_MR_init_29 (fun q_5 H hP hD hS => ?_)
  have hP : va_P (dC, dI) classes [(h0, .inr (5, [.int 0, .int 0, .int 0, .int 0, .int 0, .int 0, .int 0, .ref q_1, .ref q_3, .null, .null, .null, .null, .null, .null, .null, .null, .null, .int 0, .int 0, .int 0, .int 0, .null, .int 0])), (q_5, .inr (3, [.null, .int 0]))] H := hP
  have hD : va_D A [(h0, .inr (5, [.int 0, .int 0, .int 0, .int 0, .int 0, .int 0, .int 0, .ref q_1, .ref q_3, .null, .null, .null, .null, .null, .null, .null, .null, .null, .int 0, .int 0, .int 0, .int 0, .null, .int 0])), (q_5, .inr (3, [.null, .int 0]))] := hD
  refine W.widen (k := 5) (n := 14) (Nat.le_of_ble_eq_true rfl) (Nat.le_of_ble_eq_true rfl) ?_
  refine lv_dup hx hb d_MR_init_32 rfl ?_
  refine lv_iload_n hx hb d_MR_init_33 rfl (lv_at hl 1 rfl) ?_
  refine ax_I (k := 1) (As := [.int 4]) (rest := [.ref q_5, .ref h0]) (wr := [(h0, .inr (5, [.int 0, .int 0, .int 0, .int 0, .int 0, .int 0, .int 0, .ref q_1, .ref q_3, .null, .null, .null, .null, .null, .null, .null, .null, .null, .int 0, .int 0, .int 0, .int 0, .null, .int 0]))]) rfl hx hb hml hown hts g_wm (mK_bl dC dI ca) (c_MI_init l dC dI ca q_5) rfl xm_48 xm_35 xm_3 xm_36 (by decide +kernel) rfl (Nat.le_of_ble_eq_true rfl) (Nat.le_of_ble_eq_true rfl) hl.1 (Nat.le_of_ble_eq_true rfl) (mK_up hK) hP hD hS hA [1] [0] rfl (by decide) rfl rfl (by decide) (by decide) (Nat.le_of_ble_eq_true rfl) (Nat.le_of_ble_eq_true rfl) d_MR_init_34 (fun v q_6 H locs hp hP hD hS => ?_)
  obtain rfl : v = none := hp
  have hP : va_P (dC, dI) classes [(h0, .inr (5, [.int 0, .int 0, .int 0, .int 0, .int 0, .int 0, .int 0, .ref q_1, .ref q_3, .null, .null, .null, .null, .null, .null, .null, .null, .null, .int 0, .int 0, .int 0, .int 0, .null, .int 0])), (q_5, .inr (3, [.ref q_6, .int 0])), (q_6, .inl (ca 1, 4, .inl (fun _ => 0)))] H := hP
  have hD : va_D A [(h0, .inr (5, [.int 0, .int 0, .int 0, .int 0, .int 0, .int 0, .int 0, .ref q_1, .ref q_3, .null, .null, .null, .null, .null, .null, .null, .null, .null, .int 0, .int 0, .int 0, .int 0, .null, .int 0])), (q_5, .inr (3, [.ref q_6, .int 0])), (q_6, .inl (ca 1, 4, .inl (fun _ => 0)))] := hD
  refine W.eq (g2 := F0 m 37 ls [.ref q_5, .ref h0]) rfl ?_
  refine W.widen (k := 6) (n := 18) (Nat.le_of_ble_eq_true rfl) (Nat.le_of_ble_eq_true rfl) ?_
  have hP := hP.sub (ws' := [(h0, .inr (5, [.int 0, .int 0, .int 0, .int 0, .int 0, .int 0, .int 0, .ref q_1, .ref q_3, .null, .null, .null, .null, .null, .null, .null, .null, .null, .int 0, .int 0, .int 0, .int 0, .null, .int 0])), (q_5, .inr (3, [.ref q_6, .int 0]))]) [0, 1] rfl
  have hD := hD.sub (ws' := [(h0, .inr (5, [.int 0, .int 0, .int 0, .int 0, .int 0, .int 0, .int 0, .ref q_1, .ref q_3, .null, .null, .null, .null, .null, .null, .null, .null, .null, .int 0, .int 0, .int 0, .int 0, .null, .int 0])), (q_5, .inr (3, [.ref q_6, .int 0]))]) [0, 1] (by decide) rfl
  refine va_putF (D := (dC, dI)) (ci := 5) (v := .ref q_5) (ty := .object "SourceBackModel$Ints") (C := R_MR) (T := F_MR) (N := 24) hx hb hts i_MR t_MR t_MR_ok n_MR hown hK.1 hP hD hS 0 rfl rfl 9 (by decide) (hts _ xm_59) (fun _ h9 => h9) rfl hin rfl (by decide +kernel) rfl rfl (Nat.le_of_ble_eq_true rfl) d_MR_init_37 (fun H locs hP hD hS => ?_)
  have hP : va_P (dC, dI) classes [(h0, .inr (5, [.int 0, .int 0, .int 0, .int 0, .int 0, .int 0, .int 0, .ref q_1, .ref q_3, .ref q_5, .null, .null, .null, .null, .null, .null, .null, .null, .int 0, .int 0, .int 0, .int 0, .null, .int 0])), (q_5, .inr (3, [.ref q_6, .int 0]))] H := hP
  have hD : va_D A [(h0, .inr (5, [.int 0, .int 0, .int 0, .int 0, .int 0, .int 0, .int 0, .ref q_1, .ref q_3, .ref q_5, .null, .null, .null, .null, .null, .null, .null, .null, .int 0, .int 0, .int 0, .int 0, .null, .int 0])), (q_5, .inr (3, [.ref q_6, .int 0]))] := hD
  have hP := hP.sub (ws' := [(h0, .inr (5, [.int 0, .int 0, .int 0, .int 0, .int 0, .int 0, .int 0, .ref q_1, .ref q_3, .ref q_5, .null, .null, .null, .null, .null, .null, .null, .null, .int 0, .int 0, .int 0, .int 0, .null, .int 0]))]) [0] rfl
  have hD := hD.sub (ws' := [(h0, .inr (5, [.int 0, .int 0, .int 0, .int 0, .int 0, .int 0, .int 0, .ref q_1, .ref q_3, .ref q_5, .null, .null, .null, .null, .null, .null, .null, .null, .int 0, .int 0, .int 0, .int 0, .null, .int 0]))]) [0] (by decide) rfl
  refine lv_aload_n hx hb d_MR_init_40 rfl (lv_at hl 0 rfl) ?_
  refine va_new (ci := 3) (fs := [.null, .int 0]) (C := R_MI) (T := F_MI) (N := 2) hx hb hts i_MI t_MI t_MI_ok hown (hts _ xm_47) (hts _ xm_33) (hts _ xm_3) hK.1 hP hD hS hA rfl (by decide +kernel) (Nat.le_of_ble_eq_true rfl) (Nat.le_of_ble_eq_true rfl) d_MR_init_41 (fun q_7 H hP hD hS => ?_)
  have hP : va_P (dC, dI) classes [(h0, .inr (5, [.int 0, .int 0, .int 0, .int 0, .int 0, .int 0, .int 0, .ref q_1, .ref q_3, .ref q_5, .null, .null, .null, .null, .null, .null, .null, .null, .int 0, .int 0, .int 0, .int 0, .null, .int 0])), (q_7, .inr (3, [.null, .int 0]))] H := hP
  have hD : va_D A [(h0, .inr (5, [.int 0, .int 0, .int 0, .int 0, .int 0, .int 0, .int 0, .ref q_1, .ref q_3, .ref q_5, .null, .null, .null, .null, .null, .null, .null, .null, .int 0, .int 0, .int 0, .int 0, .null, .int 0])), (q_7, .inr (3, [.null, .int 0]))] := hD
  refine W.widen (k := 7) (n := 20) (Nat.le_of_ble_eq_true rfl) (Nat.le_of_ble_eq_true rfl) ?_
  refine lv_dup hx hb d_MR_init_44 rfl ?_
  refine lv_iload_n hx hb d_MR_init_45 rfl (lv_at hl 1 rfl) ?_
  refine ax_I (k := 1) (As := [.int 4]) (rest := [.ref q_7, .ref h0]) (wr := [(h0, .inr (5, [.int 0, .int 0, .int 0, .int 0, .int 0, .int 0, .int 0, .ref q_1, .ref q_3, .ref q_5, .null, .null, .null, .null, .null, .null, .null, .null, .int 0, .int 0, .int 0, .int 0, .null, .int 0]))]) rfl hx hb hml hown hts g_wm (mK_bl dC dI ca) (c_MI_init l dC dI ca q_7) rfl xm_48 xm_35 xm_3 xm_36 (by decide +kernel) rfl (Nat.le_of_ble_eq_true rfl) (Nat.le_of_ble_eq_true rfl) hl.1 (Nat.le_of_ble_eq_true rfl) (mK_up hK) hP hD hS hA [1] [0] rfl (by decide) rfl rfl (by decide) (by decide) (Nat.le_of_ble_eq_true rfl) (Nat.le_of_ble_eq_true rfl) d_MR_init_46 (fun v q_8 H locs hp hP hD hS => ?_)
  obtain rfl : v = none := hp
  have hP : va_P (dC, dI) classes [(h0, .inr (5, [.int 0, .int 0, .int 0, .int 0, .int 0, .int 0, .int 0, .ref q_1, .ref q_3, .ref q_5, .null, .null, .null, .null, .null, .null, .null, .null, .int 0, .int 0, .int 0, .int 0, .null, .int 0])), (q_7, .inr (3, [.ref q_8, .int 0])), (q_8, .inl (ca 1, 4, .inl (fun _ => 0)))] H := hP
  have hD : va_D A [(h0, .inr (5, [.int 0, .int 0, .int 0, .int 0, .int 0, .int 0, .int 0, .ref q_1, .ref q_3, .ref q_5, .null, .null, .null, .null, .null, .null, .null, .null, .int 0, .int 0, .int 0, .int 0, .null, .int 0])), (q_7, .inr (3, [.ref q_8, .int 0])), (q_8, .inl (ca 1, 4, .inl (fun _ => 0)))] := hD
  refine W.eq (g2 := F0 m 49 ls [.ref q_7, .ref h0]) rfl ?_
  refine W.widen (k := 8) (n := 24) (Nat.le_of_ble_eq_true rfl) (Nat.le_of_ble_eq_true rfl) ?_
  have hP := hP.sub (ws' := [(h0, .inr (5, [.int 0, .int 0, .int 0, .int 0, .int 0, .int 0, .int 0, .ref q_1, .ref q_3, .ref q_5, .null, .null, .null, .null, .null, .null, .null, .null, .int 0, .int 0, .int 0, .int 0, .null, .int 0])), (q_7, .inr (3, [.ref q_8, .int 0]))]) [0, 1] rfl
  have hD := hD.sub (ws' := [(h0, .inr (5, [.int 0, .int 0, .int 0, .int 0, .int 0, .int 0, .int 0, .ref q_1, .ref q_3, .ref q_5, .null, .null, .null, .null, .null, .null, .null, .null, .int 0, .int 0, .int 0, .int 0, .null, .int 0])), (q_7, .inr (3, [.ref q_8, .int 0]))]) [0, 1] (by decide) rfl
  refine va_putF (D := (dC, dI)) (ci := 5) (v := .ref q_7) (ty := .object "SourceBackModel$Ints") (C := R_MR) (T := F_MR) (N := 24) hx hb hts i_MR t_MR t_MR_ok n_MR hown hK.1 hP hD hS 0 rfl rfl 10 (by decide) (hts _ xm_60) (fun _ h9 => h9) rfl hin rfl (by decide +kernel) rfl rfl (Nat.le_of_ble_eq_true rfl) d_MR_init_49 (fun H locs hP hD hS => ?_)
  have hP : va_P (dC, dI) classes [(h0, .inr (5, [.int 0, .int 0, .int 0, .int 0, .int 0, .int 0, .int 0, .ref q_1, .ref q_3, .ref q_5, .ref q_7, .null, .null, .null, .null, .null, .null, .null, .int 0, .int 0, .int 0, .int 0, .null, .int 0])), (q_7, .inr (3, [.ref q_8, .int 0]))] H := hP
  have hD : va_D A [(h0, .inr (5, [.int 0, .int 0, .int 0, .int 0, .int 0, .int 0, .int 0, .ref q_1, .ref q_3, .ref q_5, .ref q_7, .null, .null, .null, .null, .null, .null, .null, .int 0, .int 0, .int 0, .int 0, .null, .int 0])), (q_7, .inr (3, [.ref q_8, .int 0]))] := hD
  have hP := hP.sub (ws' := [(h0, .inr (5, [.int 0, .int 0, .int 0, .int 0, .int 0, .int 0, .int 0, .ref q_1, .ref q_3, .ref q_5, .ref q_7, .null, .null, .null, .null, .null, .null, .null, .int 0, .int 0, .int 0, .int 0, .null, .int 0]))]) [0] rfl
  have hD := hD.sub (ws' := [(h0, .inr (5, [.int 0, .int 0, .int 0, .int 0, .int 0, .int 0, .int 0, .ref q_1, .ref q_3, .ref q_5, .ref q_7, .null, .null, .null, .null, .null, .null, .null, .int 0, .int 0, .int 0, .int 0, .null, .int 0]))]) [0] (by decide) rfl
  refine lv_aload_n hx hb d_MR_init_52 rfl (lv_at hl 0 rfl) ?_
  refine va_new (ci := 4) (fs := [.null, .int 0]) (C := R_ML) (T := F_ML) (N := 2) hx hb hts i_ML t_ML t_ML_ok hown (hts _ xm_49) (hts _ xm_50) (hts _ xm_5) hK.1 hP hD hS hA rfl (by decide +kernel) (Nat.le_of_ble_eq_true rfl) (Nat.le_of_ble_eq_true rfl) d_MR_init_53 (fun q_9 H hP hD hS => ?_)
  have hP : va_P (dC, dI) classes [(h0, .inr (5, [.int 0, .int 0, .int 0, .int 0, .int 0, .int 0, .int 0, .ref q_1, .ref q_3, .ref q_5, .ref q_7, .null, .null, .null, .null, .null, .null, .null, .int 0, .int 0, .int 0, .int 0, .null, .int 0])), (q_9, .inr (4, [.null, .int 0]))] H := hP
  have hD : va_D A [(h0, .inr (5, [.int 0, .int 0, .int 0, .int 0, .int 0, .int 0, .int 0, .ref q_1, .ref q_3, .ref q_5, .ref q_7, .null, .null, .null, .null, .null, .null, .null, .int 0, .int 0, .int 0, .int 0, .null, .int 0])), (q_9, .inr (4, [.null, .int 0]))] := hD
  refine W.widen (k := 9) (n := 26) (Nat.le_of_ble_eq_true rfl) (Nat.le_of_ble_eq_true rfl) ?_
  refine lv_dup hx hb d_MR_init_56 rfl ?_
  refine lv_iload_n hx hb d_MR_init_57 rfl (lv_at hl 1 rfl) ?_
  refine ax_I (k := 1) (As := [.int 4]) (rest := [.ref q_9, .ref h0]) (wr := [(h0, .inr (5, [.int 0, .int 0, .int 0, .int 0, .int 0, .int 0, .int 0, .ref q_1, .ref q_3, .ref q_5, .ref q_7, .null, .null, .null, .null, .null, .null, .null, .int 0, .int 0, .int 0, .int 0, .null, .int 0]))]) rfl hx hb hml hown hts g_wm (mK_bl dC dI ca) (c_ML_init l dC dI ca q_9) rfl xm_51 xm_52 xm_5 xm_53 (by decide +kernel) rfl (Nat.le_of_ble_eq_true rfl) (Nat.le_of_ble_eq_true rfl) hl.1 (Nat.le_of_ble_eq_true rfl) (mK_up hK) hP hD hS hA [1] [0] rfl (by decide) rfl rfl (by decide) (by decide) (Nat.le_of_ble_eq_true rfl) (Nat.le_of_ble_eq_true rfl) d_MR_init_58 (fun v q_10 H locs hp hP hD hS => ?_)
  obtain rfl : v = none := hp
  have hP : va_P (dC, dI) classes [(h0, .inr (5, [.int 0, .int 0, .int 0, .int 0, .int 0, .int 0, .int 0, .ref q_1, .ref q_3, .ref q_5, .ref q_7, .null, .null, .null, .null, .null, .null, .null, .int 0, .int 0, .int 0, .int 0, .null, .int 0])), (q_9, .inr (4, [.ref q_10, .int 0])), (q_10, .inl (ca 2, 4, .inr (.inl (fun _ => 0))))] H := hP
  have hD : va_D A [(h0, .inr (5, [.int 0, .int 0, .int 0, .int 0, .int 0, .int 0, .int 0, .ref q_1, .ref q_3, .ref q_5, .ref q_7, .null, .null, .null, .null, .null, .null, .null, .int 0, .int 0, .int 0, .int 0, .null, .int 0])), (q_9, .inr (4, [.ref q_10, .int 0])), (q_10, .inl (ca 2, 4, .inr (.inl (fun _ => 0))))] := hD
  refine W.eq (g2 := F0 m 61 ls [.ref q_9, .ref h0]) rfl ?_
  refine W.widen (k := 10) (n := 30) (Nat.le_of_ble_eq_true rfl) (Nat.le_of_ble_eq_true rfl) ?_
  have hP := hP.sub (ws' := [(h0, .inr (5, [.int 0, .int 0, .int 0, .int 0, .int 0, .int 0, .int 0, .ref q_1, .ref q_3, .ref q_5, .ref q_7, .null, .null, .null, .null, .null, .null, .null, .int 0, .int 0, .int 0, .int 0, .null, .int 0])), (q_9, .inr (4, [.ref q_10, .int 0]))]) [0, 1] rfl
  have hD := hD.sub (ws' := [(h0, .inr (5, [.int 0, .int 0, .int 0, .int 0, .int 0, .int 0, .int 0, .ref q_1, .ref q_3, .ref q_5, .ref q_7, .null, .null, .null, .null, .null, .null, .null, .int 0, .int 0, .int 0, .int 0, .null, .int 0])), (q_9, .inr (4, [.ref q_10, .int 0]))]) [0, 1] (by decide) rfl
  refine va_putF (D := (dC, dI)) (ci := 5) (v := .ref q_9) (ty := .object "SourceBackModel$Longs") (C := R_MR) (T := F_MR) (N := 24) hx hb hts i_MR t_MR t_MR_ok n_MR hown hK.1 hP hD hS 0 rfl rfl 11 (by decide) (hts _ xm_61) (fun _ h9 => h9) rfl hin rfl (by decide +kernel) rfl rfl (Nat.le_of_ble_eq_true rfl) d_MR_init_61 (fun H locs hP hD hS => ?_)
  have hP : va_P (dC, dI) classes [(h0, .inr (5, [.int 0, .int 0, .int 0, .int 0, .int 0, .int 0, .int 0, .ref q_1, .ref q_3, .ref q_5, .ref q_7, .ref q_9, .null, .null, .null, .null, .null, .null, .int 0, .int 0, .int 0, .int 0, .null, .int 0])), (q_9, .inr (4, [.ref q_10, .int 0]))] H := hP
  have hD : va_D A [(h0, .inr (5, [.int 0, .int 0, .int 0, .int 0, .int 0, .int 0, .int 0, .ref q_1, .ref q_3, .ref q_5, .ref q_7, .ref q_9, .null, .null, .null, .null, .null, .null, .int 0, .int 0, .int 0, .int 0, .null, .int 0])), (q_9, .inr (4, [.ref q_10, .int 0]))] := hD
  have hP := hP.sub (ws' := [(h0, .inr (5, [.int 0, .int 0, .int 0, .int 0, .int 0, .int 0, .int 0, .ref q_1, .ref q_3, .ref q_5, .ref q_7, .ref q_9, .null, .null, .null, .null, .null, .null, .int 0, .int 0, .int 0, .int 0, .null, .int 0]))]) [0] rfl
  have hD := hD.sub (ws' := [(h0, .inr (5, [.int 0, .int 0, .int 0, .int 0, .int 0, .int 0, .int 0, .ref q_1, .ref q_3, .ref q_5, .ref q_7, .ref q_9, .null, .null, .null, .null, .null, .null, .int 0, .int 0, .int 0, .int 0, .null, .int 0]))]) [0] (by decide) rfl
  refine lv_aload_n hx hb d_MR_init_64 rfl (lv_at hl 0 rfl) ?_
  refine va_new (ci := 3) (fs := [.null, .int 0]) (C := R_MI) (T := F_MI) (N := 2) hx hb hts i_MI t_MI t_MI_ok hown (hts _ xm_47) (hts _ xm_33) (hts _ xm_3) hK.1 hP hD hS hA rfl (by decide +kernel) (Nat.le_of_ble_eq_true rfl) (Nat.le_of_ble_eq_true rfl) d_MR_init_65 (fun q_11 H hP hD hS => ?_)
  have hP : va_P (dC, dI) classes [(h0, .inr (5, [.int 0, .int 0, .int 0, .int 0, .int 0, .int 0, .int 0, .ref q_1, .ref q_3, .ref q_5, .ref q_7, .ref q_9, .null, .null, .null, .null, .null, .null, .int 0, .int 0, .int 0, .int 0, .null, .int 0])), (q_11, .inr (3, [.null, .int 0]))] H := hP
  have hD : va_D A [(h0, .inr (5, [.int 0, .int 0, .int 0, .int 0, .int 0, .int 0, .int 0, .ref q_1, .ref q_3, .ref q_5, .ref q_7, .ref q_9, .null, .null, .null, .null, .null, .null, .int 0, .int 0, .int 0, .int 0, .null, .int 0])), (q_11, .inr (3, [.null, .int 0]))] := hD
  refine W.widen (k := 11) (n := 32) (Nat.le_of_ble_eq_true rfl) (Nat.le_of_ble_eq_true rfl) ?_
  refine lv_dup hx hb d_MR_init_68 rfl ?_
  refine lv_iload_n hx hb d_MR_init_69 rfl (lv_at hl 1 rfl) ?_
  refine ax_I (k := 1) (As := [.int 4]) (rest := [.ref q_11, .ref h0]) (wr := [(h0, .inr (5, [.int 0, .int 0, .int 0, .int 0, .int 0, .int 0, .int 0, .ref q_1, .ref q_3, .ref q_5, .ref q_7, .ref q_9, .null, .null, .null, .null, .null, .null, .int 0, .int 0, .int 0, .int 0, .null, .int 0]))]) rfl hx hb hml hown hts g_wm (mK_bl dC dI ca) (c_MI_init l dC dI ca q_11) rfl xm_48 xm_35 xm_3 xm_36 (by decide +kernel) rfl (Nat.le_of_ble_eq_true rfl) (Nat.le_of_ble_eq_true rfl) hl.1 (Nat.le_of_ble_eq_true rfl) (mK_up hK) hP hD hS hA [1] [0] rfl (by decide) rfl rfl (by decide) (by decide) (Nat.le_of_ble_eq_true rfl) (Nat.le_of_ble_eq_true rfl) d_MR_init_70 (fun v q_12 H locs hp hP hD hS => ?_)
  obtain rfl : v = none := hp
  have hP : va_P (dC, dI) classes [(h0, .inr (5, [.int 0, .int 0, .int 0, .int 0, .int 0, .int 0, .int 0, .ref q_1, .ref q_3, .ref q_5, .ref q_7, .ref q_9, .null, .null, .null, .null, .null, .null, .int 0, .int 0, .int 0, .int 0, .null, .int 0])), (q_11, .inr (3, [.ref q_12, .int 0])), (q_12, .inl (ca 1, 4, .inl (fun _ => 0)))] H := hP
  have hD : va_D A [(h0, .inr (5, [.int 0, .int 0, .int 0, .int 0, .int 0, .int 0, .int 0, .ref q_1, .ref q_3, .ref q_5, .ref q_7, .ref q_9, .null, .null, .null, .null, .null, .null, .int 0, .int 0, .int 0, .int 0, .null, .int 0])), (q_11, .inr (3, [.ref q_12, .int 0])), (q_12, .inl (ca 1, 4, .inl (fun _ => 0)))] := hD
  refine W.eq (g2 := F0 m 73 ls [.ref q_11, .ref h0]) rfl ?_
  refine W.widen (k := 12) (n := 36) (Nat.le_of_ble_eq_true rfl) (Nat.le_of_ble_eq_true rfl) ?_
  have hP := hP.sub (ws' := [(h0, .inr (5, [.int 0, .int 0, .int 0, .int 0, .int 0, .int 0, .int 0, .ref q_1, .ref q_3, .ref q_5, .ref q_7, .ref q_9, .null, .null, .null, .null, .null, .null, .int 0, .int 0, .int 0, .int 0, .null, .int 0])), (q_11, .inr (3, [.ref q_12, .int 0]))]) [0, 1] rfl
  have hD := hD.sub (ws' := [(h0, .inr (5, [.int 0, .int 0, .int 0, .int 0, .int 0, .int 0, .int 0, .ref q_1, .ref q_3, .ref q_5, .ref q_7, .ref q_9, .null, .null, .null, .null, .null, .null, .int 0, .int 0, .int 0, .int 0, .null, .int 0])), (q_11, .inr (3, [.ref q_12, .int 0]))]) [0, 1] (by decide) rfl
  refine va_putF (D := (dC, dI)) (ci := 5) (v := .ref q_11) (ty := .object "SourceBackModel$Ints") (C := R_MR) (T := F_MR) (N := 24) hx hb hts i_MR t_MR t_MR_ok n_MR hown hK.1 hP hD hS 0 rfl rfl 12 (by decide) (hts _ xm_62) (fun _ h9 => h9) rfl hin rfl (by decide +kernel) rfl rfl (Nat.le_of_ble_eq_true rfl) d_MR_init_73 (fun H locs hP hD hS => ?_)
  have hP : va_P (dC, dI) classes [(h0, .inr (5, [.int 0, .int 0, .int 0, .int 0, .int 0, .int 0, .int 0, .ref q_1, .ref q_3, .ref q_5, .ref q_7, .ref q_9, .ref q_11, .null, .null, .null, .null, .null, .int 0, .int 0, .int 0, .int 0, .null, .int 0])), (q_11, .inr (3, [.ref q_12, .int 0]))] H := hP
  have hD : va_D A [(h0, .inr (5, [.int 0, .int 0, .int 0, .int 0, .int 0, .int 0, .int 0, .ref q_1, .ref q_3, .ref q_5, .ref q_7, .ref q_9, .ref q_11, .null, .null, .null, .null, .null, .int 0, .int 0, .int 0, .int 0, .null, .int 0])), (q_11, .inr (3, [.ref q_12, .int 0]))] := hD
  have hP := hP.sub (ws' := [(h0, .inr (5, [.int 0, .int 0, .int 0, .int 0, .int 0, .int 0, .int 0, .ref q_1, .ref q_3, .ref q_5, .ref q_7, .ref q_9, .ref q_11, .null, .null, .null, .null, .null, .int 0, .int 0, .int 0, .int 0, .null, .int 0]))]) [0] rfl
  have hD := hD.sub (ws' := [(h0, .inr (5, [.int 0, .int 0, .int 0, .int 0, .int 0, .int 0, .int 0, .ref q_1, .ref q_3, .ref q_5, .ref q_7, .ref q_9, .ref q_11, .null, .null, .null, .null, .null, .int 0, .int 0, .int 0, .int 0, .null, .int 0]))]) [0] (by decide) rfl
  refine lv_aload_n hx hb d_MR_init_76 rfl (lv_at hl 0 rfl) ?_
  refine va_new (ci := 3) (fs := [.null, .int 0]) (C := R_MI) (T := F_MI) (N := 2) hx hb hts i_MI t_MI t_MI_ok hown (hts _ xm_47) (hts _ xm_33) (hts _ xm_3) hK.1 hP hD hS hA rfl (by decide +kernel) (Nat.le_of_ble_eq_true rfl) (Nat.le_of_ble_eq_true rfl) d_MR_init_77 (fun q_13 H hP hD hS => ?_)
  have hP : va_P (dC, dI) classes [(h0, .inr (5, [.int 0, .int 0, .int 0, .int 0, .int 0, .int 0, .int 0, .ref q_1, .ref q_3, .ref q_5, .ref q_7, .ref q_9, .ref q_11, .null, .null, .null, .null, .null, .int 0, .int 0, .int 0, .int 0, .null, .int 0])), (q_13, .inr (3, [.null, .int 0]))] H := hP
  have hD : va_D A [(h0, .inr (5, [.int 0, .int 0, .int 0, .int 0, .int 0, .int 0, .int 0, .ref q_1, .ref q_3, .ref q_5, .ref q_7, .ref q_9, .ref q_11, .null, .null, .null, .null, .null, .int 0, .int 0, .int 0, .int 0, .null, .int 0])), (q_13, .inr (3, [.null, .int 0]))] := hD
  refine W.widen (k := 13) (n := 38) (Nat.le_of_ble_eq_true rfl) (Nat.le_of_ble_eq_true rfl) ?_
  refine lv_dup hx hb d_MR_init_80 rfl ?_
  refine lv_iload_n hx hb d_MR_init_81 rfl (lv_at hl 1 rfl) ?_
  refine ax_I (k := 1) (As := [.int 4]) (rest := [.ref q_13, .ref h0]) (wr := [(h0, .inr (5, [.int 0, .int 0, .int 0, .int 0, .int 0, .int 0, .int 0, .ref q_1, .ref q_3, .ref q_5, .ref q_7, .ref q_9, .ref q_11, .null, .null, .null, .null, .null, .int 0, .int 0, .int 0, .int 0, .null, .int 0]))]) rfl hx hb hml hown hts g_wm (mK_bl dC dI ca) (c_MI_init l dC dI ca q_13) rfl xm_48 xm_35 xm_3 xm_36 (by decide +kernel) rfl (Nat.le_of_ble_eq_true rfl) (Nat.le_of_ble_eq_true rfl) hl.1 (Nat.le_of_ble_eq_true rfl) (mK_up hK) hP hD hS hA [1] [0] rfl (by decide) rfl rfl (by decide) (by decide) (Nat.le_of_ble_eq_true rfl) (Nat.le_of_ble_eq_true rfl) d_MR_init_82 (fun v q_14 H locs hp hP hD hS => ?_)
  obtain rfl : v = none := hp
  have hP : va_P (dC, dI) classes [(h0, .inr (5, [.int 0, .int 0, .int 0, .int 0, .int 0, .int 0, .int 0, .ref q_1, .ref q_3, .ref q_5, .ref q_7, .ref q_9, .ref q_11, .null, .null, .null, .null, .null, .int 0, .int 0, .int 0, .int 0, .null, .int 0])), (q_13, .inr (3, [.ref q_14, .int 0])), (q_14, .inl (ca 1, 4, .inl (fun _ => 0)))] H := hP
  have hD : va_D A [(h0, .inr (5, [.int 0, .int 0, .int 0, .int 0, .int 0, .int 0, .int 0, .ref q_1, .ref q_3, .ref q_5, .ref q_7, .ref q_9, .ref q_11, .null, .null, .null, .null, .null, .int 0, .int 0, .int 0, .int 0, .null, .int 0])), (q_13, .inr (3, [.ref q_14, .int 0])), (q_14, .inl (ca 1, 4, .inl (fun _ => 0)))] := hD
  refine W.eq (g2 := F0 m 85 ls [.ref q_13, .ref h0]) rfl ?_
  refine W.widen (k := 14) (n := 42) (Nat.le_of_ble_eq_true rfl) (Nat.le_of_ble_eq_true rfl) ?_
  have hP := hP.sub (ws' := [(h0, .inr (5, [.int 0, .int 0, .int 0, .int 0, .int 0, .int 0, .int 0, .ref q_1, .ref q_3, .ref q_5, .ref q_7, .ref q_9, .ref q_11, .null, .null, .null, .null, .null, .int 0, .int 0, .int 0, .int 0, .null, .int 0])), (q_13, .inr (3, [.ref q_14, .int 0]))]) [0, 1] rfl
  have hD := hD.sub (ws' := [(h0, .inr (5, [.int 0, .int 0, .int 0, .int 0, .int 0, .int 0, .int 0, .ref q_1, .ref q_3, .ref q_5, .ref q_7, .ref q_9, .ref q_11, .null, .null, .null, .null, .null, .int 0, .int 0, .int 0, .int 0, .null, .int 0])), (q_13, .inr (3, [.ref q_14, .int 0]))]) [0, 1] (by decide) rfl
  refine va_putF (D := (dC, dI)) (ci := 5) (v := .ref q_13) (ty := .object "SourceBackModel$Ints") (C := R_MR) (T := F_MR) (N := 24) hx hb hts i_MR t_MR t_MR_ok n_MR hown hK.1 hP hD hS 0 rfl rfl 13 (by decide) (hts _ xm_63) (fun _ h9 => h9) rfl hin rfl (by decide +kernel) rfl rfl (Nat.le_of_ble_eq_true rfl) d_MR_init_85 (fun H locs hP hD hS => ?_)
  have hP : va_P (dC, dI) classes [(h0, .inr (5, [.int 0, .int 0, .int 0, .int 0, .int 0, .int 0, .int 0, .ref q_1, .ref q_3, .ref q_5, .ref q_7, .ref q_9, .ref q_11, .ref q_13, .null, .null, .null, .null, .int 0, .int 0, .int 0, .int 0, .null, .int 0])), (q_13, .inr (3, [.ref q_14, .int 0]))] H := hP
  have hD : va_D A [(h0, .inr (5, [.int 0, .int 0, .int 0, .int 0, .int 0, .int 0, .int 0, .ref q_1, .ref q_3, .ref q_5, .ref q_7, .ref q_9, .ref q_11, .ref q_13, .null, .null, .null, .null, .int 0, .int 0, .int 0, .int 0, .null, .int 0])), (q_13, .inr (3, [.ref q_14, .int 0]))] := hD
  have hP := hP.sub (ws' := [(h0, .inr (5, [.int 0, .int 0, .int 0, .int 0, .int 0, .int 0, .int 0, .ref q_1, .ref q_3, .ref q_5, .ref q_7, .ref q_9, .ref q_11, .ref q_13, .null, .null, .null, .null, .int 0, .int 0, .int 0, .int 0, .null, .int 0]))]) [0] rfl
  have hD := hD.sub (ws' := [(h0, .inr (5, [.int 0, .int 0, .int 0, .int 0, .int 0, .int 0, .int 0, .ref q_1, .ref q_3, .ref q_5, .ref q_7, .ref q_9, .ref q_11, .ref q_13, .null, .null, .null, .null, .int 0, .int 0, .int 0, .int 0, .null, .int 0]))]) [0] (by decide) rfl
  refine lv_aload_n hx hb d_MR_init_88 rfl (lv_at hl 0 rfl) ?_
  refine va_new (ci := 3) (fs := [.null, .int 0]) (C := R_MI) (T := F_MI) (N := 2) hx hb hts i_MI t_MI t_MI_ok hown (hts _ xm_47) (hts _ xm_33) (hts _ xm_3) hK.1 hP hD hS hA rfl (by decide +kernel) (Nat.le_of_ble_eq_true rfl) (Nat.le_of_ble_eq_true rfl) d_MR_init_89 (fun q_15 H hP hD hS => ?_)
  have hP : va_P (dC, dI) classes [(h0, .inr (5, [.int 0, .int 0, .int 0, .int 0, .int 0, .int 0, .int 0, .ref q_1, .ref q_3, .ref q_5, .ref q_7, .ref q_9, .ref q_11, .ref q_13, .null, .null, .null, .null, .int 0, .int 0, .int 0, .int 0, .null, .int 0])), (q_15, .inr (3, [.null, .int 0]))] H := hP
  have hD : va_D A [(h0, .inr (5, [.int 0, .int 0, .int 0, .int 0, .int 0, .int 0, .int 0, .ref q_1, .ref q_3, .ref q_5, .ref q_7, .ref q_9, .ref q_11, .ref q_13, .null, .null, .null, .null, .int 0, .int 0, .int 0, .int 0, .null, .int 0])), (q_15, .inr (3, [.null, .int 0]))] := hD
  refine W.widen (k := 15) (n := 44) (Nat.le_of_ble_eq_true rfl) (Nat.le_of_ble_eq_true rfl) ?_
  refine lv_dup hx hb d_MR_init_92 rfl ?_
  refine lv_iload_n hx hb d_MR_init_93 rfl (lv_at hl 1 rfl) ?_
  refine ax_I (k := 1) (As := [.int 4]) (rest := [.ref q_15, .ref h0]) (wr := [(h0, .inr (5, [.int 0, .int 0, .int 0, .int 0, .int 0, .int 0, .int 0, .ref q_1, .ref q_3, .ref q_5, .ref q_7, .ref q_9, .ref q_11, .ref q_13, .null, .null, .null, .null, .int 0, .int 0, .int 0, .int 0, .null, .int 0]))]) rfl hx hb hml hown hts g_wm (mK_bl dC dI ca) (c_MI_init l dC dI ca q_15) rfl xm_48 xm_35 xm_3 xm_36 (by decide +kernel) rfl (Nat.le_of_ble_eq_true rfl) (Nat.le_of_ble_eq_true rfl) hl.1 (Nat.le_of_ble_eq_true rfl) (mK_up hK) hP hD hS hA [1] [0] rfl (by decide) rfl rfl (by decide) (by decide) (Nat.le_of_ble_eq_true rfl) (Nat.le_of_ble_eq_true rfl) d_MR_init_94 (fun v q_16 H locs hp hP hD hS => ?_)
  obtain rfl : v = none := hp
  have hP : va_P (dC, dI) classes [(h0, .inr (5, [.int 0, .int 0, .int 0, .int 0, .int 0, .int 0, .int 0, .ref q_1, .ref q_3, .ref q_5, .ref q_7, .ref q_9, .ref q_11, .ref q_13, .null, .null, .null, .null, .int 0, .int 0, .int 0, .int 0, .null, .int 0])), (q_15, .inr (3, [.ref q_16, .int 0])), (q_16, .inl (ca 1, 4, .inl (fun _ => 0)))] H := hP
  have hD : va_D A [(h0, .inr (5, [.int 0, .int 0, .int 0, .int 0, .int 0, .int 0, .int 0, .ref q_1, .ref q_3, .ref q_5, .ref q_7, .ref q_9, .ref q_11, .ref q_13, .null, .null, .null, .null, .int 0, .int 0, .int 0, .int 0, .null, .int 0])), (q_15, .inr (3, [.ref q_16, .int 0])), (q_16, .inl (ca 1, 4, .inl (fun _ => 0)))] := hD
  refine W.eq (g2 := F0 m 97 ls [.ref q_15, .ref h0]) rfl ?_
  refine W.widen (k := 16) (n := 48) (Nat.le_of_ble_eq_true rfl) (Nat.le_of_ble_eq_true rfl) ?_
  have hP := hP.sub (ws' := [(h0, .inr (5, [.int 0, .int 0, .int 0, .int 0, .int 0, .int 0, .int 0, .ref q_1, .ref q_3, .ref q_5, .ref q_7, .ref q_9, .ref q_11, .ref q_13, .null, .null, .null, .null, .int 0, .int 0, .int 0, .int 0, .null, .int 0])), (q_15, .inr (3, [.ref q_16, .int 0]))]) [0, 1] rfl
  have hD := hD.sub (ws' := [(h0, .inr (5, [.int 0, .int 0, .int 0, .int 0, .int 0, .int 0, .int 0, .ref q_1, .ref q_3, .ref q_5, .ref q_7, .ref q_9, .ref q_11, .ref q_13, .null, .null, .null, .null, .int 0, .int 0, .int 0, .int 0, .null, .int 0])), (q_15, .inr (3, [.ref q_16, .int 0]))]) [0, 1] (by decide) rfl
  refine va_putF (D := (dC, dI)) (ci := 5) (v := .ref q_15) (ty := .object "SourceBackModel$Ints") (C := R_MR) (T := F_MR) (N := 24) hx hb hts i_MR t_MR t_MR_ok n_MR hown hK.1 hP hD hS 0 rfl rfl 14 (by decide) (hts _ xm_64) (fun _ h9 => h9) rfl hin rfl (by decide +kernel) rfl rfl (Nat.le_of_ble_eq_true rfl) d_MR_init_97 (fun H locs hP hD hS => ?_)
  have hP : va_P (dC, dI) classes [(h0, .inr (5, [.int 0, .int 0, .int 0, .int 0, .int 0, .int 0, .int 0, .ref q_1, .ref q_3, .ref q_5, .ref q_7, .ref q_9, .ref q_11, .ref q_13, .ref q_15, .null, .null, .null, .int 0, .int 0, .int 0, .int 0, .null, .int 0])), (q_15, .inr (3, [.ref q_16, .int 0]))] H := hP
  have hD : va_D A [(h0, .inr (5, [.int 0, .int 0, .int 0, .int 0, .int 0, .int 0, .int 0, .ref q_1, .ref q_3, .ref q_5, .ref q_7, .ref q_9, .ref q_11, .ref q_13, .ref q_15, .null, .null, .null, .int 0, .int 0, .int 0, .int 0, .null, .int 0])), (q_15, .inr (3, [.ref q_16, .int 0]))] := hD
  have hP := hP.sub (ws' := [(h0, .inr (5, [.int 0, .int 0, .int 0, .int 0, .int 0, .int 0, .int 0, .ref q_1, .ref q_3, .ref q_5, .ref q_7, .ref q_9, .ref q_11, .ref q_13, .ref q_15, .null, .null, .null, .int 0, .int 0, .int 0, .int 0, .null, .int 0]))]) [0] rfl
  have hD := hD.sub (ws' := [(h0, .inr (5, [.int 0, .int 0, .int 0, .int 0, .int 0, .int 0, .int 0, .ref q_1, .ref q_3, .ref q_5, .ref q_7, .ref q_9, .ref q_11, .ref q_13, .ref q_15, .null, .null, .null, .int 0, .int 0, .int 0, .int 0, .null, .int 0]))]) [0] (by decide) rfl
  refine lv_aload_n hx hb d_MR_init_100 rfl (lv_at hl 0 rfl) ?_
  refine va_new (ci := 4) (fs := [.null, .int 0]) (C := R_ML) (T := F_ML) (N := 2) hx hb hts i_ML t_ML t_ML_ok hown (hts _ xm_49) (hts _ xm_50) (hts _ xm_5) hK.1 hP hD hS hA rfl (by decide +kernel) (Nat.le_of_ble_eq_true rfl) (Nat.le_of_ble_eq_true rfl) d_MR_init_101 (fun q_17 H hP hD hS => ?_)
  have hP : va_P (dC, dI) classes [(h0, .inr (5, [.int 0, .int 0, .int 0, .int 0, .int 0, .int 0, .int 0, .ref q_1, .ref q_3, .ref q_5, .ref q_7, .ref q_9, .ref q_11, .ref q_13, .ref q_15, .null, .null, .null, .int 0, .int 0, .int 0, .int 0, .null, .int 0])), (q_17, .inr (4, [.null, .int 0]))] H := hP
  have hD : va_D A [(h0, .inr (5, [.int 0, .int 0, .int 0, .int 0, .int 0, .int 0, .int 0, .ref q_1, .ref q_3, .ref q_5, .ref q_7, .ref q_9, .ref q_11, .ref q_13, .ref q_15, .null, .null, .null, .int 0, .int 0, .int 0, .int 0, .null, .int 0])), (q_17, .inr (4, [.null, .int 0]))] := hD
  refine W.widen (k := 17) (n := 50) (Nat.le_of_ble_eq_true rfl) (Nat.le_of_ble_eq_true rfl) ?_
  refine lv_dup hx hb d_MR_init_104 rfl ?_
  refine lv_iload_n hx hb d_MR_init_105 rfl (lv_at hl 2 rfl) ?_
  refine ax_I (k := 1) (As := [.int 4]) (rest := [.ref q_17, .ref h0]) (wr := [(h0, .inr (5, [.int 0, .int 0, .int 0, .int 0, .int 0, .int 0, .int 0, .ref q_1, .ref q_3, .ref q_5, .ref q_7, .ref q_9, .ref q_11, .ref q_13, .ref q_15, .null, .null, .null, .int 0, .int 0, .int 0, .int 0, .null, .int 0]))]) rfl hx hb hml hown hts g_wm (mK_bl dC dI ca) (c_ML_init l dC dI ca q_17) rfl xm_51 xm_52 xm_5 xm_53 (by decide +kernel) rfl (Nat.le_of_ble_eq_true rfl) (Nat.le_of_ble_eq_true rfl) hl.1 (Nat.le_of_ble_eq_true rfl) (mK_up hK) hP hD hS hA [1] [0] rfl (by decide) rfl rfl (by decide) (by decide) (Nat.le_of_ble_eq_true rfl) (Nat.le_of_ble_eq_true rfl) d_MR_init_106 (fun v q_18 H locs hp hP hD hS => ?_)
  obtain rfl : v = none := hp
  have hP : va_P (dC, dI) classes [(h0, .inr (5, [.int 0, .int 0, .int 0, .int 0, .int 0, .int 0, .int 0, .ref q_1, .ref q_3, .ref q_5, .ref q_7, .ref q_9, .ref q_11, .ref q_13, .ref q_15, .null, .null, .null, .int 0, .int 0, .int 0, .int 0, .null, .int 0])), (q_17, .inr (4, [.ref q_18, .int 0])), (q_18, .inl (ca 2, 4, .inr (.inl (fun _ => 0))))] H := hP
  have hD : va_D A [(h0, .inr (5, [.int 0, .int 0, .int 0, .int 0, .int 0, .int 0, .int 0, .ref q_1, .ref q_3, .ref q_5, .ref q_7, .ref q_9, .ref q_11, .ref q_13, .ref q_15, .null, .null, .null, .int 0, .int 0, .int 0, .int 0, .null, .int 0])), (q_17, .inr (4, [.ref q_18, .int 0])), (q_18, .inl (ca 2, 4, .inr (.inl (fun _ => 0))))] := hD
  refine W.eq (g2 := F0 m 109 ls [.ref q_17, .ref h0]) rfl ?_
  refine W.widen (k := 18) (n := 54) (Nat.le_of_ble_eq_true rfl) (Nat.le_of_ble_eq_true rfl) ?_
  have hP := hP.sub (ws' := [(h0, .inr (5, [.int 0, .int 0, .int 0, .int 0, .int 0, .int 0, .int 0, .ref q_1, .ref q_3, .ref q_5, .ref q_7, .ref q_9, .ref q_11, .ref q_13, .ref q_15, .null, .null, .null, .int 0, .int 0, .int 0, .int 0, .null, .int 0])), (q_17, .inr (4, [.ref q_18, .int 0]))]) [0, 1] rfl
  have hD := hD.sub (ws' := [(h0, .inr (5, [.int 0, .int 0, .int 0, .int 0, .int 0, .int 0, .int 0, .ref q_1, .ref q_3, .ref q_5, .ref q_7, .ref q_9, .ref q_11, .ref q_13, .ref q_15, .null, .null, .null, .int 0, .int 0, .int 0, .int 0, .null, .int 0])), (q_17, .inr (4, [.ref q_18, .int 0]))]) [0, 1] (by decide) rfl
  refine va_putF (D := (dC, dI)) (ci := 5) (v := .ref q_17) (ty := .object "SourceBackModel$Longs") (C := R_MR) (T := F_MR) (N := 24) hx hb hts i_MR t_MR t_MR_ok n_MR hown hK.1 hP hD hS 0 rfl rfl 15 (by decide) (hts _ xm_65) (fun _ h9 => h9) rfl hin rfl (by decide +kernel) rfl rfl (Nat.le_of_ble_eq_true rfl) d_MR_init_109 (fun H locs hP hD hS => ?_)
  have hP : va_P (dC, dI) classes [(h0, .inr (5, [.int 0, .int 0, .int 0, .int 0, .int 0, .int 0, .int 0, .ref q_1, .ref q_3, .ref q_5, .ref q_7, .ref q_9, .ref q_11, .ref q_13, .ref q_15, .ref q_17, .null, .null, .int 0, .int 0, .int 0, .int 0, .null, .int 0])), (q_17, .inr (4, [.ref q_18, .int 0]))] H := hP
  have hD : va_D A [(h0, .inr (5, [.int 0, .int 0, .int 0, .int 0, .int 0, .int 0, .int 0, .ref q_1, .ref q_3, .ref q_5, .ref q_7, .ref q_9, .ref q_11, .ref q_13, .ref q_15, .ref q_17, .null, .null, .int 0, .int 0, .int 0, .int 0, .null, .int 0])), (q_17, .inr (4, [.ref q_18, .int 0]))] := hD
  have hP := hP.sub (ws' := [(h0, .inr (5, [.int 0, .int 0, .int 0, .int 0, .int 0, .int 0, .int 0, .ref q_1, .ref q_3, .ref q_5, .ref q_7, .ref q_9, .ref q_11, .ref q_13, .ref q_15, .ref q_17, .null, .null, .int 0, .int 0, .int 0, .int 0, .null, .int 0]))]) [0] rfl
  have hD := hD.sub (ws' := [(h0, .inr (5, [.int 0, .int 0, .int 0, .int 0, .int 0, .int 0, .int 0, .ref q_1, .ref q_3, .ref q_5, .ref q_7, .ref q_9, .ref q_11, .ref q_13, .ref q_15, .ref q_17, .null, .null, .int 0, .int 0, .int 0, .int 0, .null, .int 0]))]) [0] (by decide) rfl
  refine lv_aload_n hx hb d_MR_init_112 rfl (lv_at hl 0 rfl) ?_
  refine va_new (ci := 3) (fs := [.null, .int 0]) (C := R_MI) (T := F_MI) (N := 2) hx hb hts i_MI t_MI t_MI_ok hown (hts _ xm_47) (hts _ xm_33) (hts _ xm_3) hK.1 hP hD hS hA rfl (by decide +kernel) (Nat.le_of_ble_eq_true rfl) (Nat.le_of_ble_eq_true rfl) d_MR_init_113 (fun q_19 H hP hD hS => ?_)
  have hP : va_P (dC, dI) classes [(h0, .inr (5, [.int 0, .int 0, .int 0, .int 0, .int 0, .int 0, .int 0, .ref q_1, .ref q_3, .ref q_5, .ref q_7, .ref q_9, .ref q_11, .ref q_13, .ref q_15, .ref q_17, .null, .null, .int 0, .int 0, .int 0, .int 0, .null, .int 0])), (q_19, .inr (3, [.null, .int 0]))] H := hP
  have hD : va_D A [(h0, .inr (5, [.int 0, .int 0, .int 0, .int 0, .int 0, .int 0, .int 0, .ref q_1, .ref q_3, .ref q_5, .ref q_7, .ref q_9, .ref q_11, .ref q_13, .ref q_15, .ref q_17, .null, .null, .int 0, .int 0, .int 0, .int 0, .null, .int 0])), (q_19, .inr (3, [.null, .int 0]))] := hD
  refine W.widen (k := 19) (n := 56) (Nat.le_of_ble_eq_true rfl) (Nat.le_of_ble_eq_true rfl) ?_
  refine lv_dup hx hb d_MR_init_116 rfl ?_
  refine lv_iload_n hx hb d_MR_init_117 rfl (lv_at hl 2 rfl) ?_
  refine ax_I (k := 1) (As := [.int 4]) (rest := [.ref q_19, .ref h0]) (wr := [(h0, .inr (5, [.int 0, .int 0, .int 0, .int 0, .int 0, .int 0, .int 0, .ref q_1, .ref q_3, .ref q_5, .ref q_7, .ref q_9, .ref q_11, .ref q_13, .ref q_15, .ref q_17, .null, .null, .int 0, .int 0, .int 0, .int 0, .null, .int 0]))]) rfl hx hb hml hown hts g_wm (mK_bl dC dI ca) (c_MI_init l dC dI ca q_19) rfl xm_48 xm_35 xm_3 xm_36 (by decide +kernel) rfl (Nat.le_of_ble_eq_true rfl) (Nat.le_of_ble_eq_true rfl) hl.1 (Nat.le_of_ble_eq_true rfl) (mK_up hK) hP hD hS hA [1] [0] rfl (by decide) rfl rfl (by decide) (by decide) (Nat.le_of_ble_eq_true rfl) (Nat.le_of_ble_eq_true rfl) d_MR_init_118 (fun v q_20 H locs hp hP hD hS => ?_)
  obtain rfl : v = none := hp
  have hP : va_P (dC, dI) classes [(h0, .inr (5, [.int 0, .int 0, .int 0, .int 0, .int 0, .int 0, .int 0, .ref q_1, .ref q_3, .ref q_5, .ref q_7, .ref q_9, .ref q_11, .ref q_13, .ref q_15, .ref q_17, .null, .null, .int 0, .int 0, .int 0, .int 0, .null, .int 0])), (q_19, .inr (3, [.ref q_20, .int 0])), (q_20, .inl (ca 1, 4, .inl (fun _ => 0)))] H := hP
  have hD : va_D A [(h0, .inr (5, [.int 0, .int 0, .int 0, .int 0, .int 0, .int 0, .int 0, .ref q_1, .ref q_3, .ref q_5, .ref q_7, .ref q_9, .ref q_11, .ref q_13, .ref q_15, .ref q_17, .null, .null, .int 0, .int 0, .int 0, .int 0, .null, .int 0])), (q_19, .inr (3, [.ref q_20, .int 0])), (q_20, .inl (ca 1, 4, .inl (fun _ => 0)))] := hD
  refine W.eq (g2 := F0 m 121 ls [.ref q_19, .ref h0]) rfl ?_
  refine W.widen (k := 20) (n := 60) (Nat.le_of_ble_eq_true rfl) (Nat.le_of_ble_eq_true rfl) ?_
  have hP := hP.sub (ws' := [(h0, .inr (5, [.int 0, .int 0, .int 0, .int 0, .int 0, .int 0, .int 0, .ref q_1, .ref q_3, .ref q_5, .ref q_7, .ref q_9, .ref q_11, .ref q_13, .ref q_15, .ref q_17, .null, .null, .int 0, .int 0, .int 0, .int 0, .null, .int 0])), (q_19, .inr (3, [.ref q_20, .int 0]))]) [0, 1] rfl
  have hD := hD.sub (ws' := [(h0, .inr (5, [.int 0, .int 0, .int 0, .int 0, .int 0, .int 0, .int 0, .ref q_1, .ref q_3, .ref q_5, .ref q_7, .ref q_9, .ref q_11, .ref q_13, .ref q_15, .ref q_17, .null, .null, .int 0, .int 0, .int 0, .int 0, .null, .int 0])), (q_19, .inr (3, [.ref q_20, .int 0]))]) [0, 1] (by decide) rfl
  refine va_putF (D := (dC, dI)) (ci := 5) (v := .ref q_19) (ty := .object "SourceBackModel$Ints") (C := R_MR) (T := F_MR) (N := 24) hx hb hts i_MR t_MR t_MR_ok n_MR hown hK.1 hP hD hS 0 rfl rfl 16 (by decide) (hts _ xm_66) (fun _ h9 => h9) rfl hin rfl (by decide +kernel) rfl rfl (Nat.le_of_ble_eq_true rfl) d_MR_init_121 (fun H locs hP hD hS => ?_)
  have hP : va_P (dC, dI) classes [(h0, .inr (5, [.int 0, .int 0, .int 0, .int 0, .int 0, .int 0, .int 0, .ref q_1, .ref q_3, .ref q_5, .ref q_7, .ref q_9, .ref q_11, .ref q_13, .ref q_15, .ref q_17, .ref q_19, .null, .int 0, .int 0, .int 0, .int 0, .null, .int 0])), (q_19, .inr (3, [.ref q_20, .int 0]))] H := hP
  have hD : va_D A [(h0, .inr (5, [.int 0, .int 0, .int 0, .int 0, .int 0, .int 0, .int 0, .ref q_1, .ref q_3, .ref q_5, .ref q_7, .ref q_9, .ref q_11, .ref q_13, .ref q_15, .ref q_17, .ref q_19, .null, .int 0, .int 0, .int 0, .int 0, .null, .int 0])), (q_19, .inr (3, [.ref q_20, .int 0]))] := hD
  have hP := hP.sub (ws' := [(h0, .inr (5, [.int 0, .int 0, .int 0, .int 0, .int 0, .int 0, .int 0, .ref q_1, .ref q_3, .ref q_5, .ref q_7, .ref q_9, .ref q_11, .ref q_13, .ref q_15, .ref q_17, .ref q_19, .null, .int 0, .int 0, .int 0, .int 0, .null, .int 0]))]) [0] rfl
  have hD := hD.sub (ws' := [(h0, .inr (5, [.int 0, .int 0, .int 0, .int 0, .int 0, .int 0, .int 0, .ref q_1, .ref q_3, .ref q_5, .ref q_7, .ref q_9, .ref q_11, .ref q_13, .ref q_15, .ref q_17, .ref q_19, .null, .int 0, .int 0, .int 0, .int 0, .null, .int 0]))]) [0] (by decide) rfl
  exact ax_vret hx hb hr hlocks hP hD hS [.int 0, .int 0, .int 0, .int 0, .int 0, .int 0, .int 0, .ref q_1, .ref q_3, .ref q_5, .ref q_7, .ref q_9, .ref q_11, .ref q_13, .ref q_15, .ref q_17, .ref q_19, .null, .int 0, .int 0, .int 0, .int 0, .null, .int 0] rfl [0] rfl (by decide) rfl (Nat.le_of_ble_eq_true rfl) (Nat.le_of_ble_eq_true rfl) d_MR_init_124
