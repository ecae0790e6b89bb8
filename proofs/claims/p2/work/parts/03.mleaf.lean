theorem d_MI_init_0 : decode b_MI_init 0 = .ok (.aload_n 0, 1) := by decide +kernel
theorem d_MI_init_1 : decode b_MI_init 1 = .ok (.invokespecial 1, 3) := by decide +kernel
theorem d_MI_init_4 : decode b_MI_init 4 = .ok (.aload_n 0, 1) := by decide +kernel
theorem d_MI_init_5 : decode b_MI_init 5 = .ok (.iload_n 1, 1) := by decide +kernel
theorem d_MI_init_6 : decode b_MI_init 6 = .ok (.iconst 4, 1) := by decide +kernel
theorem d_MI_init_7 : decode b_MI_init 7 = .ok (.if_icmp .ge 7, 3) := by decide +kernel
theorem d_MI_init_14 : decode b_MI_init 14 = .ok (.iload_n 1, 1) := by decide +kernel
theorem d_MI_init_15 : decode b_MI_init 15 = .ok (.newarray .int, 2) := by decide +kernel
theorem d_MI_init_17 : decode b_MI_init 17 = .ok (.putfield 7, 3) := by decide +kernel
theorem d_MI_init_20 : decode b_MI_init 20 = .ok (.return_, 1) := by decide +kernel
set_option maxHeartbeats 4000000 in
set_option maxRecDepth 100000 in
theorem c_MI_init (l : Launch) (dC : Nat → ClassId) (dI : Nat → Nat → Nat) (ca : Nat → ClassId) (h0 : Nat) : CT l classes (dC, dI) (mK dC dI ca) wm y_MI_init b_MI_init 2 none 1 12 1 4 [.ref h0, .int 4] [(h0, .inr (3, [.null, .int 0]))] (fun (v : Option Value) (_ : Nat) => v = none) (fun (q_1 : Nat) => [(h0, .inr (3, [.ref q_1, .int 0])), (q_1, .inl (ca 1, 4, .inl (fun _ => 0)))]) := by
  refine ax_of (by decide) (Nat.le_of_ble_eq_true rfl) ?_
  intro p e s m below meth c A ls hAt hK hP hD hS hA hl
  obtain ⟨hx, hb, hr, hml, hown, hts, hlocks, hin⟩ := hAt
  have hin : meth.name = "<init>" := hin
  have hl : lv_has ls 2 [(0, .ref h0), (1, .int 4)] := hl
  refine lv_aload_n hx hb d_MI_init_0 rfl (lv_at hl 0 rfl) ?_
  refine W.objInit hx hb hown (hts _ xm_37) (hts _ xm_8) (hts _ xm_9) rfl (by rw [hml]; exact hl.1) rfl d_MI_init_1 (Nat.le_of_ble_eq_true rfl) (Nat.le_of_ble_eq_true rfl) ?_
  refine W.eq (g2 := F0 m 4 ls []) rfl ?_
  refine lv_aload_n hx hb d_MI_init_4 rfl (lv_at hl 0 rfl) ?_
  refine lv_iload_n hx hb d_MI_init_5 rfl (lv_at hl 1 rfl) ?_
  refine lv_iconst (v := 4) hx hb d_MI_init_6 (by decide) ?_
  refine lv_icmp_ge (tgt := 14) hx hb d_MI_init_7 (by decide) (fun _ => ?_) (fun h => absurd (by decide) h)
  refine lv_iload_n hx hb d_MI_init_14 rfl (lv_at hl 1 rfl) ?_
  refine ax_newa (atype := .int) (ty := .int) (n := 4) (N' := 4) (a0 := (4, .inl (fun _ => 0))) hx hb (hts _ xm_11) rfl hK.1 1 rfl (fun C h => by cases h) hP hD hS hA (fun _ => rfl) (by decide +kernel) (by decide +kernel) (by decide +kernel) (Nat.le_of_ble_eq_true rfl) (Nat.le_of_ble_eq_true rfl) d_MI_init_15 (fun q_1 H hP hD hS => ?_)
  have hP : va_P (dC, dI) classes [(h0, .inr (3, [.null, .int 0])), (q_1, .inl (ca 1, 4, .inl (fun _ => 0)))] H := hP
  have hD : va_D A [(h0, .inr (3, [.null, .int 0])), (q_1, .inl (ca 1, 4, .inl (fun _ => 0)))] := hD
  refine W.widen (k := 1) (n := 4) (Nat.le_of_ble_eq_true rfl) (Nat.le_of_ble_eq_true rfl) ?_
  refine va_put (D := (dC, dI)) (ci := 3) (v := .ref q_1) (ty := .array (.int)) (C := R_MI) (T := F_MI) (N := 2) hx hb hts i_MI t_MI t_MI_ok n_MI hown hK.1 hP hD hS 0 rfl rfl 0 (by decide) (hts _ xm_38) (fun _ h9 => h9) rfl (by decide +kernel) rfl rfl (Nat.le_of_ble_eq_true rfl) d_MI_init_17 (fun H locs hP hD hS => ?_)
  have hP : va_P (dC, dI) classes [(h0, .inr (3, [.ref q_1, .int 0])), (q_1, .inl (ca 1, 4, .inl (fun _ => 0)))] H := hP
  have hD : va_D A [(h0, .inr (3, [.ref q_1, .int 0])), (q_1, .inl (ca 1, 4, .inl (fun _ => 0)))] := hD
  exact ax_vret hx hb hr hlocks hP hD hS q_1 rfl [0, 1] rfl (by decide) rfl (Nat.le_of_ble_eq_true rfl) (Nat.le_of_ble_eq_true rfl) d_MI_init_20
theorem d_ML_init_0 : decode b_ML_init 0 = .ok (.aload_n 0, 1) := by decide +kernel
theorem d_ML_init_1 : decode b_ML_init 1 = .ok (.invokespecial 1, 3) := by decide +kernel
theorem d_ML_init_4 : decode b_ML_init 4 = .ok (.aload_n 0, 1) := by decide +kernel
theorem d_ML_init_5 : decode b_ML_init 5 = .ok (.iload_n 1, 1) := by decide +kernel
theorem d_ML_init_6 : decode b_ML_init 6 = .ok (.iconst 4, 1) := by decide +kernel
theorem d_ML_init_7 : decode b_ML_init 7 = .ok (.if_icmp .ge 7, 3) := by decide +kernel
theorem d_ML_init_14 : decode b_ML_init 14 = .ok (.iload_n 1, 1) := by decide +kernel
theorem d_ML_init_15 : decode b_ML_init 15 = .ok (.newarray .long, 2) := by decide +kernel
theorem d_ML_init_17 : decode b_ML_init 17 = .ok (.putfield 7, 3) := by decide +kernel
theorem d_ML_init_20 : decode b_ML_init 20 = .ok (.return_, 1) := by decide +kernel
set_option maxHeartbeats 4000000 in
set_option maxRecDepth 100000 in
theorem c_ML_init (l : Launch) (dC : Nat → ClassId) (dI : Nat → Nat → Nat) (ca : Nat → ClassId) (h0 : Nat) : CT l classes (dC, dI) (mK dC dI ca) wm y_ML_init b_ML_init 2 none 1 12 1 4 [.ref h0, .int 4] [(h0, .inr (4, [.null, .int 0]))] (fun (v : Option Value) (_ : Nat) => v = none) (fun (q_1 : Nat) => [(h0, .inr (4, [.ref q_1, .int 0])), (q_1, .inl (ca 2, 4, .inr (.inl (fun _ => 0))))]) := by
  refine ax_of (by decide) (Nat.le_of_ble_eq_true rfl) ?_
  intro p e s m below meth c A ls hAt hK hP hD hS hA hl
  obtain ⟨hx, hb, hr, hml, hown, hts, hlocks, hin⟩ := hAt
  have hin : meth.name = "<init>" := hin
  have hl : lv_has ls 2 [(0, .ref h0), (1, .int 4)] := hl
  refine lv_aload_n hx hb d_ML_init_0 rfl (lv_at hl 0 rfl) ?_
  refine W.objInit hx hb hown (hts _ xm_54) (hts _ xm_8) (hts _ xm_9) rfl (by rw [hml]; exact hl.1) rfl d_ML_init_1 (Nat.le_of_ble_eq_true rfl) (Nat.le_of_ble_eq_true rfl) ?_
  refine W.eq (g2 := F0 m 4 ls []) rfl ?_
  refine lv_aload_n hx hb d_ML_init_4 rfl (lv_at hl 0 rfl) ?_
  refine lv_iload_n hx hb d_ML_init_5 rfl (lv_at hl 1 rfl) ?_
  refine lv_iconst (v := 4) hx hb d_ML_init_6 (by decide) ?_
  refine lv_icmp_ge (tgt := 14) hx hb d_ML_init_7 (by decide) (fun _ => ?_) (fun h => absurd (by decide) h)
  refine lv_iload_n hx hb d_ML_init_14 rfl (lv_at hl 1 rfl) ?_
  refine ax_newa (atype := .long) (ty := .long) (n := 4) (N' := 4) (a0 := (4, .inr (.inl (fun _ => 0)))) hx hb (hts _ xm_12) rfl hK.1 2 rfl (fun C h => by cases h) hP hD hS hA (fun _ => rfl) (by decide +kernel) (by decide +kernel) (by decide +kernel) (Nat.le_of_ble_eq_true rfl) (Nat.le_of_ble_eq_true rfl) d_ML_init_15 (fun q_1 H hP hD hS => ?_)
  have hP : va_P (dC, dI) classes [(h0, .inr (4, [.null, .int 0])), (q_1, .inl (ca 2, 4, .inr (.inl (fun _ => 0))))] H := hP
  have hD : va_D A [(h0, .inr (4, [.null, .int 0])), (q_1, .inl (ca 2, 4, .inr (.inl (fun _ => 0))))] := hD
  refine W.widen (k := 1) (n := 4) (Nat.le_of_ble_eq_true rfl) (Nat.le_of_ble_eq_true rfl) ?_
  refine va_put (D := (dC, dI)) (ci := 4) (v := .ref q_1) (ty := .array (.long)) (C := R_ML) (T := F_ML) (N := 2) hx hb hts i_ML t_ML t_ML_ok n_ML hown hK.1 hP hD hS 0 rfl rfl 0 (by decide) (hts _ xm_55) (fun _ h9 => h9) rfl (by decide +kernel) rfl rfl (Nat.le_of_ble_eq_true rfl) d_ML_init_17 (fun H locs hP hD hS => ?_)
  have hP : va_P (dC, dI) classes [(h0, .inr (4, [.ref q_1, .int 0])), (q_1, .inl (ca 2, 4, .inr (.inl (fun _ => 0))))] H := hP
  have hD : va_D A [(h0, .inr (4, [.ref q_1, .int 0])), (q_1, .inl (ca 2, 4, .inr (.inl (fun _ => 0))))] := hD
  exact ax_vret hx hb hr hlocks hP hD hS q_1 rfl [0, 1] rfl (by decide) rfl (Nat.le_of_ble_eq_true rfl) (Nat.le_of_ble_eq_true rfl) d_ML_init_20
theorem d_MB_init_0 : decode b_MB_init 0 = .ok (.aload_n 0, 1) := by decide +kernel
theorem d_MB_init_1 : decode b_MB_init 1 = .ok (.invokespecial 1, 3) := by decide +kernel
theorem d_MB_init_4 : decode b_MB_init 4 = .ok (.aload_n 0, 1) := by decide +kernel
theorem d_MB_init_5 : decode b_MB_init 5 = .ok (.bipush 16, 2) := by decide +kernel
theorem d_MB_init_7 : decode b_MB_init 7 = .ok (.newarray .byte, 2) := by decide +kernel
theorem d_MB_init_9 : decode b_MB_init 9 = .ok (.putfield 7, 3) := by decide +kernel
theorem d_MB_init_12 : decode b_MB_init 12 = .ok (.return_, 1) := by decide +kernel
set_option maxHeartbeats 4000000 in
set_option maxRecDepth 100000 in
theorem c_MB_init (l : Launch) (dC : Nat → ClassId) (dI : Nat → Nat → Nat) (ca : Nat → ClassId) (h0 : Nat) : CT l classes (dC, dI) (mK dC dI ca) wm y_MB_init b_MB_init 1 none 1 12 1 16 [.ref h0] [(h0, .inr (2, [.null, .int 0]))] (fun (v : Option Value) (_ : Nat) => v = none) (fun (q_1 : Nat) => [(h0, .inr (2, [.ref q_1, .int 0])), (q_1, .inl (ca 0, 16, .inl (fun _ => 0)))]) := by
  refine ax_of (by decide) (Nat.le_of_ble_eq_true rfl) ?_
  intro p e s m below meth c A ls hAt hK hP hD hS hA hl
  obtain ⟨hx, hb, hr, hml, hown, hts, hlocks, hin⟩ := hAt
  have hin : meth.name = "<init>" := hin
  have hl : lv_has ls 1 [(0, .ref h0)] := hl
  refine lv_aload_n hx hb d_MB_init_0 rfl (lv_at hl 0 rfl) ?_
  refine W.objInit hx hb hown (hts _ xm_29) (hts _ xm_8) (hts _ xm_9) rfl (by rw [hml]; exact hl.1) rfl d_MB_init_1 (Nat.le_of_ble_eq_true rfl) (Nat.le_of_ble_eq_true rfl) ?_
  refine W.eq (g2 := F0 m 4 ls []) rfl ?_
  refine lv_aload_n hx hb d_MB_init_4 rfl (lv_at hl 0 rfl) ?_
  refine lv_bipush (v := 16) hx hb d_MB_init_5 (by decide +kernel) ?_
  refine ax_newa (atype := .byte) (ty := .byte) (n := 16) (N' := 16) (a0 := (16, .inl (fun _ => 0))) hx hb (hts _ xm_10) rfl hK.1 0 rfl (fun C h => by cases h) hP hD hS hA (fun _ => rfl) (by decide +kernel) (by decide +kernel) (by decide +kernel) (Nat.le_of_ble_eq_true rfl) (Nat.le_of_ble_eq_true rfl) d_MB_init_7 (fun q_1 H hP hD hS => ?_)
  have hP : va_P (dC, dI) classes [(h0, .inr (2, [.null, .int 0])), (q_1, .inl (ca 0, 16, .inl (fun _ => 0)))] H := hP
  have hD : va_D A [(h0, .inr (2, [.null, .int 0])), (q_1, .inl (ca 0, 16, .inl (fun _ => 0)))] := hD
  refine W.widen (k := 1) (n := 16) (Nat.le_of_ble_eq_true rfl) (Nat.le_of_ble_eq_true rfl) ?_
  refine va_put (D := (dC, dI)) (ci := 2) (v := .ref q_1) (ty := .array (.byte)) (C := R_MB) (T := F_MB) (N := 2) hx hb hts i_MB t_MB t_MB_ok n_MB hown hK.1 hP hD hS 0 rfl rfl 0 (by decide) (hts _ xm_30) (fun _ h9 => h9) rfl (by decide +kernel) rfl rfl (Nat.le_of_ble_eq_true rfl) d_MB_init_9 (fun H locs hP hD hS => ?_)
  have hP : va_P (dC, dI) classes [(h0, .inr (2, [.ref q_1, .int 0])), (q_1, .inl (ca 0, 16, .inl (fun _ => 0)))] H := hP
  have hD : va_D A [(h0, .inr (2, [.ref q_1, .int 0])), (q_1, .inl (ca 0, 16, .inl (fun _ => 0)))] := hD
  exact ax_vret hx hb hr hlocks hP hD hS q_1 rfl [0, 1] rfl (by decide) rfl (Nat.le_of_ble_eq_true rfl) (Nat.le_of_ble_eq_true rfl) d_MB_init_12
