theorem d_SR_init_0 : decode b_SR_init 0 = .ok (.aload_n 0, 1) := by decide +kernel
theorem d_SR_init_1 : decode b_SR_init 1 = .ok (.invokespecial 3, 3) := by decide +kernel
theorem d_SR_init_4 : decode b_SR_init 4 = .ok (.return_, 1) := by decide +kernel
set_option maxHeartbeats 4000000 in
set_option maxRecDepth 100000 in
theorem c_SR_init (l : Launch) (dC : Nat → ClassId) (dI : Nat → Nat → Nat) (ca : Nat → ClassId) (h0 : Nat) : CT l classes (dC, dI) (sK dC dI ca) sk y_SR_init b_SR_init 1 none 1 12 0 0 [.ref h0] [(h0, .inr (8, [.null, .int 0, .int 0]))] (fun (v : Option Value) (_ : Unit) => v = none) (fun (_ : Unit) => [(h0, .inr (8, [.null, .int 0, .int 0]))]) := by
  refine ax_of (by decide) (Nat.le_of_ble_eq_true rfl) ?_
  intro p e s m below meth c A ls hAt hK hP hD hS hA hl
  obtain ⟨hx, hb, hr, hml, hown, hts, hlocks, hin⟩ := hAt
  have hin : meth.name = "<init>" := hin
  have hl : lv_has ls 1 [(0, .ref h0)] := hl
  refine lv_aload_n hx hb d_SR_init_0 rfl (lv_at hl 0 rfl) ?_
  refine W.objInit hx hb hown (hts _ xs_30) (hts _ xs_22) (hts _ xs_23) rfl (by rw [hml]; exact hl.1) rfl d_SR_init_1 (Nat.le_of_ble_eq_true rfl) (Nat.le_of_ble_eq_true rfl) ?_
  refine W.eq (g2 := F0 m 4 ls []) rfl ?_
  exact ax_vret hx hb hr hlocks hP hD hS () rfl [0] rfl (by decide) rfl (Nat.le_of_ble_eq_true rfl) (Nat.le_of_ble_eq_true rfl) d_SR_init_4
theorem d_SF_init_0 : decode b_SF_init 0 = .ok (.aload_n 0, 1) := by decide +kernel
theorem d_SF_init_1 : decode b_SF_init 1 = .ok (.invokespecial 3, 3) := by decide +kernel
theorem d_SF_init_4 : decode b_SF_init 4 = .ok (.aload_n 0, 1) := by decide +kernel
theorem d_SF_init_5 : decode b_SF_init 5 = .ok (.iconst 0, 1) := by decide +kernel
theorem d_SF_init_6 : decode b_SF_init 6 = .ok (.newarray .byte, 2) := by decide +kernel
theorem d_SF_init_8 : decode b_SF_init 8 = .ok (.putfield 9, 3) := by decide +kernel
theorem d_SF_init_11 : decode b_SF_init 11 = .ok (.aload_n 0, 1) := by decide +kernel
theorem d_SF_init_12 : decode b_SF_init 12 = .ok (.iconst 1, 1) := by decide +kernel
theorem d_SF_init_13 : decode b_SF_init 13 = .ok (.newarray .int, 2) := by decide +kernel
theorem d_SF_init_15 : decode b_SF_init 15 = .ok (.putfield 15, 3) := by decide +kernel
theorem d_SF_init_18 : decode b_SF_init 18 = .ok (.aload_n 0, 1) := by decide +kernel
theorem d_SF_init_19 : decode b_SF_init 19 = .ok (.iconst 1, 1) := by decide +kernel
theorem d_SF_init_20 : decode b_SF_init 20 = .ok (.newarray .int, 2) := by decide +kernel
theorem d_SF_init_22 : decode b_SF_init 22 = .ok (.putfield 19, 3) := by decide +kernel
theorem d_SF_init_25 : decode b_SF_init 25 = .ok (.aload_n 0, 1) := by decide +kernel
theorem d_SF_init_26 : decode b_SF_init 26 = .ok (.iconst 1, 1) := by decide +kernel
theorem d_SF_init_27 : decode b_SF_init 27 = .ok (.newarray .int, 2) := by decide +kernel
theorem d_SF_init_29 : decode b_SF_init 29 = .ok (.putfield 22, 3) := by decide +kernel
theorem d_SF_init_32 : decode b_SF_init 32 = .ok (.aload_n 0, 1) := by decide +kernel
theorem d_SF_init_33 : decode b_SF_init 33 = .ok (.iconst 1, 1) := by decide +kernel
theorem d_SF_init_34 : decode b_SF_init 34 = .ok (.newarray .long, 2) := by decide +kernel
theorem d_SF_init_36 : decode b_SF_init 36 = .ok (.putfield 25, 3) := by decide +kernel
theorem d_SF_init_39 : decode b_SF_init 39 = .ok (.aload_n 0, 1) := by decide +kernel
theorem d_SF_init_40 : decode b_SF_init 40 = .ok (.iconst 1, 1) := by decide +kernel
theorem d_SF_init_41 : decode b_SF_init 41 = .ok (.newarray .long, 2) := by decide +kernel
theorem d_SF_init_43 : decode b_SF_init 43 = .ok (.putfield 29, 3) := by decide +kernel
theorem d_SF_init_46 : decode b_SF_init 46 = .ok (.aload_n 0, 1) := by decide +kernel
theorem d_SF_init_47 : decode b_SF_init 47 = .ok (.iconst 1, 1) := by decide +kernel
theorem d_SF_init_48 : decode b_SF_init 48 = .ok (.newarray .long, 2) := by decide +kernel
theorem d_SF_init_50 : decode b_SF_init 50 = .ok (.putfield 32, 3) := by decide +kernel
theorem d_SF_init_53 : decode b_SF_init 53 = .ok (.return_, 1) := by decide +kernel
set_option maxHeartbeats 4000000 in
set_option maxRecDepth 100000 in
theorem c_SF_init (l : Launch) (dC : Nat → ClassId) (dI : Nat → Nat → Nat) (ca : Nat → ClassId) (h0 : Nat) : CT l classes (dC, dI) (sK dC dI ca) sk y_SF_init b_SF_init 1 none 1 12 7 6 [.ref h0] [(h0, .inr (9, [.null, .null, .int 0, .int 0, .int 0, .int 0, .int 0, .int 0, .null, .null, .null, .null, .null, .null, .long 0, .long 0, .long 0, .int 0, .int 0]))] (fun (v : Option Value) (_ : List Value) => v = none) (fun (fs : List Value) => [(h0, .inr (9, fs))]) := by
  refine ax_of (by decide) (Nat.le_of_ble_eq_true rfl) ?_
  intro p e s m below meth c A ls hAt hK hP hD hS hA hl
  obtain ⟨hx, hb, hr, hml, hown, hts, hlocks, hin⟩ := hAt
  have hin : meth.name = "<init>" := hin
  have hl : lv_has ls 1 [(0, .ref h0)] := hl
  refine lv_aload_n hx hb d_SF_init_0 rfl (lv_at hl 0 rfl) ?_
  refine W.objInit hx hb hown (hts _ xs_40) (hts _ xs_22) (hts _ xs_23) rfl (by rw [hml]; exact hl.1) rfl d_SF_init_1 (Nat.le_of_ble_eq_true rfl) (Nat.le_of_ble_eq_true rfl) ?_
  refine W.eq (g2 := F0 m 4 ls []) rfl ?_
  refine lv_aload_n hx hb d_SF_init_4 rfl (lv_at hl 0 rfl) ?_
  refine lv_iconst (v := 0) hx hb d_SF_init_5 (by decide) ?_
  refine ax_newa (atype := .byte) (ty := .byte) (n := 0) (N' := 0) (a0 := (0, .inl (fun _ => 0))) hx hb (hts _ xs_34) rfl hK.1 0 rfl (fun C h => by cases h) hP hD hS hA (fun _ => rfl) (by decide +kernel) (by decide +kernel) (by decide +kernel) (Nat.le_of_ble_eq_true rfl) (Nat.le_of_ble_eq_true rfl) d_SF_init_6 (fun q_1 H hP hD hS => ?_)
  have hP : va_P (dC, dI) classes [(h0, .inr (9, [.null, .null, .int 0, .int 0, .int 0, .int 0, .int 0, .int 0, .null, .null, .null, .null, .null, .null, .long 0, .long 0, .long 0, .int 0, .int 0])), (q_1, .inl (ca 0, 0, .inl (fun _ => 0)))] H := hP
  have hD : va_D A [(h0, .inr (9, [.null, .null, .int 0, .int 0, .int 0, .int 0, .int 0, .int 0, .null, .null, .null, .null, .null, .null, .long 0, .long 0, .long 0, .int 0, .int 0])), (q_1, .inl (ca 0, 0, .inl (fun _ => 0)))] := hD
  refine W.widen (k := 1) (n := 0) (Nat.le_of_ble_eq_true rfl) (Nat.le_of_ble_eq_true rfl) ?_
  refine va_put (D := (dC, dI)) (ci := 9) (v := .ref q_1) (ty := .array (.byte)) (C := R_SF) (T := F_SF) (N := 19) hx hb hts i_SF t_SF t_SF_ok n_SF hown hK.1 hP hD hS 0 rfl rfl 1 (by decide) (hts _ xs_41) (fun _ h9 => h9) rfl (by decide +kernel) rfl rfl (Nat.le_of_ble_eq_true rfl) d_SF_init_8 (fun H locs hP hD hS => ?_)
  have hP : va_P (dC, dI) classes [(h0, .inr (9, [.null, .ref q_1, .int 0, .int 0, .int 0, .int 0, .int 0, .int 0, .null, .null, .null, .null, .null, .null, .long 0, .long 0, .long 0, .int 0, .int 0])), (q_1, .inl (ca 0, 0, .inl (fun _ => 0)))] H := hP
  have hD : va_D A [(h0, .inr (9, [.null, .ref q_1, .int 0, .int 0, .int 0, .int 0, .int 0, .int 0, .null, .null, .null, .null, .null, .null, .long 0, .long 0, .long 0, .int 0, .int 0])), (q_1, .inl (ca 0, 0, .inl (fun _ => 0)))] := hD
  have hP := hP.sub (ws' := [(h0, .inr (9, [.null, .ref q_1, .int 0, .int 0, .int 0, .int 0, .int 0, .int 0, .null, .null, .null, .null, .null, .null, .long 0, .long 0, .long 0, .int 0, .int 0]))]) [0] rfl
  have hD := hD.sub (ws' := [(h0, .inr (9, [.null, .ref q_1, .int 0, .int 0, .int 0, .int 0, .int 0, .int 0, .null, .null, .null, .null, .null, .null, .long 0, .long 0, .long 0, .int 0, .int 0]))]) [0] (by decide) rfl
  refine lv_aload_n hx hb d_SF_init_11 rfl (lv_at hl 0 rfl) ?_
  refine lv_iconst (v := 1) hx hb d_SF_init_12 (by decide) ?_
  refine ax_newa (atype := .int) (ty := .int) (n := 1) (N' := 1) (a0 := (1, .inl (fun _ => 0))) hx hb (hts _ xs_35) rfl hK.1 1 rfl (fun C h => by cases h) hP hD hS hA (fun _ => rfl) (by decide +kernel) (by decide +kernel) (by decide +kernel) (Nat.le_of_ble_eq_true rfl) (Nat.le_of_ble_eq_true rfl) d_SF_init_13 (fun q_2 H hP hD hS => ?_)
  have hP : va_P (dC, dI) classes [(h0, .inr (9, [.null, .ref q_1, .int 0, .int 0, .int 0, .int 0, .int 0, .int 0, .null, .null, .null, .null, .null, .null, .long 0, .long 0, .long 0, .int 0, .int 0])), (q_2, .inl (ca 1, 1, .inl (fun _ => 0)))] H := hP
  have hD : va_D A [(h0, .inr (9, [.null, .ref q_1, .int 0, .int 0, .int 0, .int 0, .int 0, .int 0, .null, .null, .null, .null, .null, .null, .long 0, .long 0, .long 0, .int 0, .int 0])), (q_2, .inl (ca 1, 1, .inl (fun _ => 0)))] := hD
  refine W.widen (k := 2) (n := 1) (Nat.le_of_ble_eq_true rfl) (Nat.le_of_ble_eq_true rfl) ?_
  refine va_put (D := (dC, dI)) (ci := 9) (v := .ref q_2) (ty := .array (.int)) (C := R_SF) (T := F_SF) (N := 19) hx hb hts i_SF t_SF t_SF_ok n_SF hown hK.1 hP hD hS 0 rfl rfl 8 (by decide) (hts _ xs_43) (fun _ h9 => h9) rfl (by decide +kernel) rfl rfl (Nat.le_of_ble_eq_true rfl) d_SF_init_15 (fun H locs hP hD hS => ?_)
  have hP : va_P (dC, dI) classes [(h0, .inr (9, [.null, .ref q_1, .int 0, .int 0, .int 0, .int 0, .int 0, .int 0, .ref q_2, .null, .null, .null, .null, .null, .long 0, .long 0, .long 0, .int 0, .int 0])), (q_2, .inl (ca 1, 1, .inl (fun _ => 0)))] H := hP
  have hD : va_D A [(h0, .inr (9, [.null, .ref q_1, .int 0, .int 0, .int 0, .int 0, .int 0, .int 0, .ref q_2, .null, .null, .null, .null, .null, .long 0, .long 0, .long 0, .int 0, .int 0])), (q_2, .inl (ca 1, 1, .inl (fun _ => 0)))] := hD
  have hP := hP.sub (ws' := [(h0, .inr (9, [.null, .ref q_1, .int 0, .int 0, .int 0, .int 0, .int 0, .int 0, .ref q_2, .null, .null, .null, .null, .null, .long 0, .long 0, .long 0, .int 0, .int 0]))]) [0] rfl
  have hD := hD.sub (ws' := [(h0, .inr (9, [.null, .ref q_1, .int 0, .int 0, .int 0, .int 0, .int 0, .int 0, .ref q_2, .null, .null, .null, .null, .null, .long 0, .long 0, .long 0, .int 0, .int 0]))]) [0] (by decide) rfl
  refine lv_aload_n hx hb d_SF_init_18 rfl (lv_at hl 0 rfl) ?_
  refine lv_iconst (v := 1) hx hb d_SF_init_19 (by decide) ?_
  refine ax_newa (atype := .int) (ty := .int) (n := 1) (N' := 1) (a0 := (1, .inl (fun _ => 0))) hx hb (hts _ xs_35) rfl hK.1 1 rfl (fun C h => by cases h) hP hD hS hA (fun _ => rfl) (by decide +kernel) (by decide +kernel) (by decide +kernel) (Nat.le_of_ble_eq_true rfl) (Nat.le_of_ble_eq_true rfl) d_SF_init_20 (fun q_3 H hP hD hS => ?_)
  have hP : va_P (dC, dI) classes [(h0, .inr (9, [.null, .ref q_1, .int 0, .int 0, .int 0, .int 0, .int 0, .int 0, .ref q_2, .null, .null, .null, .null, .null, .long 0, .long 0, .long 0, .int 0, .int 0])), (q_3, .inl (ca 1, 1, .inl (fun _ => 0)))] H := hP
  have hD : va_D A [(h0, .inr (9, [.null, .ref q_1, .int 0, .int 0, .int 0, .int 0, .int 0, .int 0, .ref q_2, .null, .null, .null, .null, .null, .long 0, .long 0, .long 0, .int 0, .int 0])), (q_3, .inl (ca 1, 1, .inl (fun _ => 0)))] := hD
  refine W.widen (k := 3) (n := 2) (Nat.le_of_ble_eq_true rfl) (Nat.le_of_ble_eq_true rfl) ?_
  refine va_put (D := (dC, dI)) (ci := 9) (v := .ref q_3) (ty := .array (.int)) (C := R_SF) (T := F_SF) (N := 19) hx hb hts i_SF t_SF t_SF_ok n_SF hown hK.1 hP hD hS 0 rfl rfl 9 (by decide) (hts _ xs_45) (fun _ h9 => h9) rfl (by decide +kernel) rfl rfl (Nat.le_of_ble_eq_true rfl) d_SF_init_22 (fun H locs hP hD hS => ?_)
  have hP : va_P (dC, dI) classes [(h0, .inr (9, [.null, .ref q_1, .int 0, .int 0, .int 0, .int 0, .int 0, .int 0, .ref q_2, .ref q_3, .null, .null, .null, .null, .long 0, .long 0, .long 0, .int 0, .int 0])), (q_3, .inl (ca 1, 1, .inl (fun _ => 0)))] H := hP
  have hD : va_D A [(h0, .inr (9, [.null, .ref q_1, .int 0, .int 0, .int 0, .int 0, .int 0, .int 0, .ref q_2, .ref q_3, .null, .null, .null, .null, .long 0, .long 0, .long 0, .int 0, .int 0])), (q_3, .inl (ca 1, 1, .inl (fun _ => 0)))] := hD
  have hP := hP.sub (ws' := [(h0, .inr (9, [.null, .ref q_1, .int 0, .int 0, .int 0, .int 0, .int 0, .int 0, .ref q_2, .ref q_3, .null, .null, .null, .null, .long 0, .long 0, .long 0, .int 0, .int 0]))]) [0] rfl
  have hD := hD.sub (ws' := [(h0, .inr (9, [.null, .ref q_1, .int 0, .int 0, .int 0, .int 0, .int 0, .int 0, .ref q_2, .ref q_3, .null, .null, .null, .null, .long 0, .long 0, .long 0, .int 0, .int 0]))]) [0] (by decide) rfl
  refine lv_aload_n hx hb d_SF_init_25 rfl (lv_at hl 0 rfl) ?_
  refine lv_iconst (v := 1) hx hb d_SF_init_26 (by decide) ?_
  refine ax_newa (atype := .int) (ty := .int) (n := 1) (N' := 1) (a0 := (1, .inl (fun _ => 0))) hx hb (hts _ xs_35) rfl hK.1 1 rfl (fun C h => by cases h) hP hD hS hA (fun _ => rfl) (by decide +kernel) (by decide +kernel) (by decide +kernel) (Nat.le_of_ble_eq_true rfl) (Nat.le_of_ble_eq_true rfl) d_SF_init_27 (fun q_4 H hP hD hS => ?_)
  have hP : va_P (dC, dI) classes [(h0, .inr (9, [.null, .ref q_1, .int 0, .int 0, .int 0, .int 0, .int 0, .int 0, .ref q_2, .ref q_3, .null, .null, .null, .null, .long 0, .long 0, .long 0, .int 0, .int 0])), (q_4, .inl (ca 1, 1, .inl (fun _ => 0)))] H := hP
  have hD : va_D A [(h0, .inr (9, [.null, .ref q_1, .int 0, .int 0, .int 0, .int 0, .int 0, .int 0, .ref q_2, .ref q_3, .null, .null, .null, .null, .long 0, .long 0, .long 0, .int 0, .int 0])), (q_4, .inl (ca 1, 1, .inl (fun _ => 0)))] := hD
  refine W.widen (k := 4) (n := 3) (Nat.le_of_ble_eq_true rfl) (Nat.le_of_ble_eq_true rfl) ?_
  refine va_put (D := (dC, dI)) (ci := 9) (v := .ref q_4) (ty := .array (.int)) (C := R_SF) (T := F_SF) (N := 19) hx hb hts i_SF t_SF t_SF_ok n_SF hown hK.1 hP hD hS 0 rfl rfl 10 (by decide) (hts _ xs_46) (fun _ h9 => h9) rfl (by decide +kernel) rfl rfl (Nat.le_of_ble_eq_true rfl) d_SF_init_29 (fun H locs hP hD hS => ?_)
  have hP : va_P (dC, dI) classes [(h0, .inr (9, [.null, .ref q_1, .int 0, .int 0, .int 0, .int 0, .int 0, .int 0, .ref q_2, .ref q_3, .ref q_4, .null, .null, .null, .long 0, .long 0, .long 0, .int 0, .int 0])), (q_4, .inl (ca 1, 1, .inl (fun _ => 0)))] H := hP
  have hD : va_D A [(h0, .inr (9, [.null, .ref q_1, .int 0, .int 0, .int 0, .int 0, .int 0, .int 0, .ref q_2, .ref q_3, .ref q_4, .null, .null, .null, .long 0, .long 0, .long 0, .int 0, .int 0])), (q_4, .inl (ca 1, 1, .inl (fun _ => 0)))] := hD
  have hP := hP.sub (ws' := [(h0, .inr (9, [.null, .ref q_1, .int 0, .int 0, .int 0, .int 0, .int 0, .int 0, .ref q_2, .ref q_3, .ref q_4, .null, .null, .null, .long 0, .long 0, .long 0, .int 0, .int 0]))]) [0] rfl
  have hD := hD.sub (ws' := [(h0, .inr (9, [.null, .ref q_1, .int 0, .int 0, .int 0, .int 0, .int 0, .int 0, .ref q_2, .ref q_3, .ref q_4, .null, .null, .null, .long 0, .long 0, .long 0, .int 0, .int 0]))]) [0] (by decide) rfl
  refine lv_aload_n hx hb d_SF_init_32 rfl (lv_at hl 0 rfl) ?_
  refine lv_iconst (v := 1) hx hb d_SF_init_33 (by decide) ?_
  refine ax_newa (atype := .long) (ty := .long) (n := 1) (N' := 1) (a0 := (1, .inr (.inl (fun _ => 0)))) hx hb (hts _ xs_51) rfl hK.1 2 rfl (fun C h => by cases h) hP hD hS hA (fun _ => rfl) (by decide +kernel) (by decide +kernel) (by decide +kernel) (Nat.le_of_ble_eq_true rfl) (Nat.le_of_ble_eq_true rfl) d_SF_init_34 (fun q_5 H hP hD hS => ?_)
  have hP : va_P (dC, dI) classes [(h0, .inr (9, [.null, .ref q_1, .int 0, .int 0, .int 0, .int 0, .int 0, .int 0, .ref q_2, .ref q_3, .ref q_4, .null, .null, .null, .long 0, .long 0, .long 0, .int 0, .int 0])), (q_5, .inl (ca 2, 1, .inr (.inl (fun _ => 0))))] H := hP
  have hD : va_D A [(h0, .inr (9, [.null, .ref q_1, .int 0, .int 0, .int 0, .int 0, .int 0, .int 0, .ref q_2, .ref q_3, .ref q_4, .null, .null, .null, .long 0, .long 0, .long 0, .int 0, .int 0])), (q_5, .inl (ca 2, 1, .inr (.inl (fun _ => 0))))] := hD
  refine W.widen (k := 5) (n := 4) (Nat.le_of_ble_eq_true rfl) (Nat.le_of_ble_eq_true rfl) ?_
  refine va_put (D := (dC, dI)) (ci := 9) (v := .ref q_5) (ty := .array (.long)) (C := R_SF) (T := F_SF) (N := 19) hx hb hts i_SF t_SF t_SF_ok n_SF hown hK.1 hP hD hS 0 rfl rfl 11 (by decide) (hts _ xs_48) (fun _ h9 => h9) rfl (by decide +kernel) rfl rfl (Nat.le_of_ble_eq_true rfl) d_SF_init_36 (fun H locs hP hD hS => ?_)
  have hP : va_P (dC, dI) classes [(h0, .inr (9, [.null, .ref q_1, .int 0, .int 0, .int 0, .int 0, .int 0, .int 0, .ref q_2, .ref q_3, .ref q_4, .ref q_5, .null, .null, .long 0, .long 0, .long 0, .int 0, .int 0])), (q_5, .inl (ca 2, 1, .inr (.inl (fun _ => 0))))] H := hP
  have hD : va_D A [(h0, .inr (9, [.null, .ref q_1, .int 0, .int 0, .int 0, .int 0, .int 0, .int 0, .ref q_2, .ref q_3, .ref q_4, .ref q_5, .null, .null, .long 0, .long 0, .long 0, .int 0, .int 0])), (q_5, .inl (ca 2, 1, .inr (.inl (fun _ => 0))))] := hD
  have hP := hP.sub (ws' := [(h0, .inr (9, [.null, .ref q_1, .int 0, .int 0, .int 0, .int 0, .int 0, .int 0, .ref q_2, .ref q_3, .ref q_4, .ref q_5, .null, .null, .long 0, .long 0, .long 0, .int 0, .int 0]))]) [0] rfl
  have hD := hD.sub (ws' := [(h0, .inr (9, [.null, .ref q_1, .int 0, .int 0, .int 0, .int 0, .int 0, .int 0, .ref q_2, .ref q_3, .ref q_4, .ref q_5, .null, .null, .long 0, .long 0, .long 0, .int 0, .int 0]))]) [0] (by decide) rfl
  refine lv_aload_n hx hb d_SF_init_39 rfl (lv_at hl 0 rfl) ?_
  refine lv_iconst (v := 1) hx hb d_SF_init_40 (by decide) ?_
  refine ax_newa (atype := .long) (ty := .long) (n := 1) (N' := 1) (a0 := (1, .inr (.inl (fun _ => 0)))) hx hb (hts _ xs_51) rfl hK.1 2 rfl (fun C h => by cases h) hP hD hS hA (fun _ => rfl) (by decide +kernel) (by decide +kernel) (by decide +kernel) (Nat.le_of_ble_eq_true rfl) (Nat.le_of_ble_eq_true rfl) d_SF_init_41 (fun q_6 H hP hD hS => ?_)
  have hP : va_P (dC, dI) classes [(h0, .inr (9, [.null, .ref q_1, .int 0, .int 0, .int 0, .int 0, .int 0, .int 0, .ref q_2, .ref q_3, .ref q_4, .ref q_5, .null, .null, .long 0, .long 0, .long 0, .int 0, .int 0])), (q_6, .inl (ca 2, 1, .inr (.inl (fun _ => 0))))] H := hP
  have hD : va_D A [(h0, .inr (9, [.null, .ref q_1, .int 0, .int 0, .int 0, .int 0, .int 0, .int 0, .ref q_2, .ref q_3, .ref q_4, .ref q_5, .null, .null, .long 0, .long 0, .long 0, .int 0, .int 0])), (q_6, .inl (ca 2, 1, .inr (.inl (fun _ => 0))))] := hD
  refine W.widen (k := 6) (n := 5) (Nat.le_of_ble_eq_true rfl) (Nat.le_of_ble_eq_true rfl) ?_
  refine va_put (D := (dC, dI)) (ci := 9) (v := .ref q_6) (ty := .array (.long)) (C := R_SF) (T := F_SF) (N := 19) hx hb hts i_SF t_SF t_SF_ok n_SF hown hK.1 hP hD hS 0 rfl rfl 12 (by decide) (hts _ xs_49) (fun _ h9 => h9) rfl (by decide +kernel) rfl rfl (Nat.le_of_ble_eq_true rfl) d_SF_init_43 (fun H locs hP hD hS => ?_)
  have hP : va_P (dC, dI) classes [(h0, .inr (9, [.null, .ref q_1, .int 0, .int 0, .int 0, .int 0, .int 0, .int 0, .ref q_2, .ref q_3, .ref q_4, .ref q_5, .ref q_6, .null, .long 0, .long 0, .long 0, .int 0, .int 0])), (q_6, .inl (ca 2, 1, .inr (.inl (fun _ => 0))))] H := hP
  have hD : va_D A [(h0, .inr (9, [.null, .ref q_1, .int 0, .int 0, .int 0, .int 0, .int 0, .int 0, .ref q_2, .ref q_3, .ref q_4, .ref q_5, .ref q_6, .null, .long 0, .long 0, .long 0, .int 0, .int 0])), (q_6, .inl (ca 2, 1, .inr (.inl (fun _ => 0))))] := hD
  have hP := hP.sub (ws' := [(h0, .inr (9, [.null, .ref q_1, .int 0, .int 0, .int 0, .int 0, .int 0, .int 0, .ref q_2, .ref q_3, .ref q_4, .ref q_5, .ref q_6, .null, .long 0, .long 0, .long 0, .int 0, .int 0]))]) [0] rfl
  have hD := hD.sub (ws' := [(h0, .inr (9, [.null, .ref q_1, .int 0, .int 0, .int 0, .int 0, .int 0, .int 0, .ref q_2, .ref q_3, .ref q_4, .ref q_5, .ref q_6, .null, .long 0, .long 0, .long 0, .int 0, .int 0]))]) [0] (by decide) rfl
  refine lv_aload_n hx hb d_SF_init_46 rfl (lv_at hl 0 rfl) ?_
  refine lv_iconst (v := 1) hx hb d_SF_init_47 (by decide) ?_
  refine ax_newa (atype := .long) (ty := .long) (n := 1) (N' := 1) (a0 := (1, .inr (.inl (fun _ => 0)))) hx hb (hts _ xs_51) rfl hK.1 2 rfl (fun C h => by cases h) hP hD hS hA (fun _ => rfl) (by decide +kernel) (by decide +kernel) (by decide +kernel) (Nat.le_of_ble_eq_true rfl) (Nat.le_of_ble_eq_true rfl) d_SF_init_48 (fun q_7 H hP hD hS => ?_)
  have hP : va_P (dC, dI) classes [(h0, .inr (9, [.null, .ref q_1, .int 0, .int 0, .int 0, .int 0, .int 0, .int 0, .ref q_2, .ref q_3, .ref q_4, .ref q_5, .ref q_6, .null, .long 0, .long 0, .long 0, .int 0, .int 0])), (q_7, .inl (ca 2, 1, .inr (.inl (fun _ => 0))))] H := hP
  have hD : va_D A [(h0, .inr (9, [.null, .ref q_1, .int 0, .int 0, .int 0, .int 0, .int 0, .int 0, .ref q_2, .ref q_3, .ref q_4, .ref q_5, .ref q_6, .null, .long 0, .long 0, .long 0, .int 0, .int 0])), (q_7, .inl (ca 2, 1, .inr (.inl (fun _ => 0))))] := hD
  refine W.widen (k := 7) (n := 6) (Nat.le_of_ble_eq_true rfl) (Nat.le_of_ble_eq_true rfl) ?_
  refine va_put (D := (dC, dI)) (ci := 9) (v := .ref q_7) (ty := .array (.long)) (C := R_SF) (T := F_SF) (N := 19) hx hb hts i_SF t_SF t_SF_ok n_SF hown hK.1 hP hD hS 0 rfl rfl 13 (by decide) (hts _ xs_50) (fun _ h9 => h9) rfl (by decide +kernel) rfl rfl (Nat.le_of_ble_eq_true rfl) d_SF_init_50 (fun H locs hP hD hS => ?_)
  have hP : va_P (dC, dI) classes [(h0, .inr (9, [.null, .ref q_1, .int 0, .int 0, .int 0, .int 0, .int 0, .int 0, .ref q_2, .ref q_3, .ref q_4, .ref q_5, .ref q_6, .ref q_7, .long 0, .long 0, .long 0, .int 0, .int 0])), (q_7, .inl (ca 2, 1, .inr (.inl (fun _ => 0))))] H := hP
  have hD : va_D A [(h0, .inr (9, [.null, .ref q_1, .int 0, .int 0, .int 0, .int 0, .int 0, .int 0, .ref q_2, .ref q_3, .ref q_4, .ref q_5, .ref q_6, .ref q_7, .long 0, .long 0, .long 0, .int 0, .int 0])), (q_7, .inl (ca 2, 1, .inr (.inl (fun _ => 0))))] := hD
  have hP := hP.sub (ws' := [(h0, .inr (9, [.null, .ref q_1, .int 0, .int 0, .int 0, .int 0, .int 0, .int 0, .ref q_2, .ref q_3, .ref q_4, .ref q_5, .ref q_6, .ref q_7, .long 0, .long 0, .long 0, .int 0, .int 0]))]) [0] rfl
  have hD := hD.sub (ws' := [(h0, .inr (9, [.null, .ref q_1, .int 0, .int 0, .int 0, .int 0, .int 0, .int 0, .ref q_2, .ref q_3, .ref q_4, .ref q_5, .ref q_6, .ref q_7, .long 0, .long 0, .long 0, .int 0, .int 0]))]) [0] (by decide) rfl
  exact ax_vret hx hb hr hlocks hP hD hS [.null, .ref q_1, .int 0, .int 0, .int 0, .int 0, .int 0, .int 0, .ref q_2, .ref q_3, .ref q_4, .ref q_5, .ref q_6, .ref q_7, .long 0, .long 0, .long 0, .int 0, .int 0] rfl [0] rfl (by decide) rfl (Nat.le_of_ble_eq_true rfl) (Nat.le_of_ble_eq_true rfl) d_SF_init_53
theorem d_SK_init_0 : decode b_SK_init 0 = .ok (.aload_n 0, 1) := by decide +kernel
theorem d_SK_init_1 : decode b_SK_init 1 = .ok (.invokespecial 3, 3) := by decide +kernel
theorem d_SK_init_4 : decode b_SK_init 4 = .ok (.aload_n 0, 1) := by decide +kernel
theorem d_SK_init_5 : decode b_SK_init 5 = .ok (.iconst 1, 1) := by decide +kernel
theorem d_SK_init_6 : decode b_SK_init 6 = .ok (.newarray .int, 2) := by decide +kernel
theorem d_SK_init_8 : decode b_SK_init 8 = .ok (.putfield 9, 3) := by decide +kernel
theorem d_SK_init_11 : decode b_SK_init 11 = .ok (.aload_n 0, 1) := by decide +kernel
theorem d_SK_init_12 : decode b_SK_init 12 = .ok (.iconst 1, 1) := by decide +kernel
theorem d_SK_init_13 : decode b_SK_init 13 = .ok (.newarray .int, 2) := by decide +kernel
theorem d_SK_init_15 : decode b_SK_init 15 = .ok (.putfield 15, 3) := by decide +kernel
theorem d_SK_init_18 : decode b_SK_init 18 = .ok (.aload_n 0, 1) := by decide +kernel
theorem d_SK_init_19 : decode b_SK_init 19 = .ok (.iconst 1, 1) := by decide +kernel
theorem d_SK_init_20 : decode b_SK_init 20 = .ok (.newarray .int, 2) := by decide +kernel
theorem d_SK_init_22 : decode b_SK_init 22 = .ok (.putfield 18, 3) := by decide +kernel
theorem d_SK_init_25 : decode b_SK_init 25 = .ok (.aload_n 0, 1) := by decide +kernel
theorem d_SK_init_26 : decode b_SK_init 26 = .ok (.iconst 1, 1) := by decide +kernel
theorem d_SK_init_27 : decode b_SK_init 27 = .ok (.newarray .int, 2) := by decide +kernel
theorem d_SK_init_29 : decode b_SK_init 29 = .ok (.putfield 21, 3) := by decide +kernel
theorem d_SK_init_32 : decode b_SK_init 32 = .ok (.aload_n 0, 1) := by decide +kernel
theorem d_SK_init_33 : decode b_SK_init 33 = .ok (.iconst 2, 1) := by decide +kernel
theorem d_SK_init_34 : decode b_SK_init 34 = .ok (.newarray .int, 2) := by decide +kernel
theorem d_SK_init_36 : decode b_SK_init 36 = .ok (.putfield 24, 3) := by decide +kernel
theorem d_SK_init_39 : decode b_SK_init 39 = .ok (.aload_n 0, 1) := by decide +kernel
theorem d_SK_init_40 : decode b_SK_init 40 = .ok (.iconst 1, 1) := by decide +kernel
theorem d_SK_init_41 : decode b_SK_init 41 = .ok (.newarray .int, 2) := by decide +kernel
theorem d_SK_init_43 : decode b_SK_init 43 = .ok (.putfield 27, 3) := by decide +kernel
theorem d_SK_init_46 : decode b_SK_init 46 = .ok (.aload_n 0, 1) := by decide +kernel
theorem d_SK_init_47 : decode b_SK_init 47 = .ok (.iconst 1, 1) := by decide +kernel
theorem d_SK_init_48 : decode b_SK_init 48 = .ok (.newarray .int, 2) := by decide +kernel
theorem d_SK_init_50 : decode b_SK_init 50 = .ok (.putfield 30, 3) := by decide +kernel
theorem d_SK_init_53 : decode b_SK_init 53 = .ok (.aload_n 0, 1) := by decide +kernel
theorem d_SK_init_54 : decode b_SK_init 54 = .ok (.iconst 1, 1) := by decide +kernel
theorem d_SK_init_55 : decode b_SK_init 55 = .ok (.newarray .int, 2) := by decide +kernel
theorem d_SK_init_57 : decode b_SK_init 57 = .ok (.putfield 33, 3) := by decide +kernel
theorem d_SK_init_60 : decode b_SK_init 60 = .ok (.aload_n 0, 1) := by decide +kernel
theorem d_SK_init_61 : decode b_SK_init 61 = .ok (.iconst 1, 1) := by decide +kernel
theorem d_SK_init_62 : decode b_SK_init 62 = .ok (.newarray .int, 2) := by decide +kernel
theorem d_SK_init_64 : decode b_SK_init 64 = .ok (.putfield 36, 3) := by decide +kernel
theorem d_SK_init_67 : decode b_SK_init 67 = .ok (.aload_n 0, 1) := by decide +kernel
theorem d_SK_init_68 : decode b_SK_init 68 = .ok (.iconst 1, 1) := by decide +kernel
theorem d_SK_init_69 : decode b_SK_init 69 = .ok (.newarray .int, 2) := by decide +kernel
theorem d_SK_init_71 : decode b_SK_init 71 = .ok (.putfield 39, 3) := by decide +kernel
theorem d_SK_init_74 : decode b_SK_init 74 = .ok (.aload_n 0, 1) := by decide +kernel
theorem d_SK_init_75 : decode b_SK_init 75 = .ok (.iconst 1, 1) := by decide +kernel
theorem d_SK_init_76 : decode b_SK_init 76 = .ok (.newarray .int, 2) := by decide +kernel
theorem d_SK_init_78 : decode b_SK_init 78 = .ok (.putfield 42, 3) := by decide +kernel
theorem d_SK_init_81 : decode b_SK_init 81 = .ok (.aload_n 0, 1) := by decide +kernel
theorem d_SK_init_82 : decode b_SK_init 82 = .ok (.iconst 1, 1) := by decide +kernel
theorem d_SK_init_83 : decode b_SK_init 83 = .ok (.newarray .int, 2) := by decide +kernel
theorem d_SK_init_85 : decode b_SK_init 85 = .ok (.putfield 45, 3) := by decide +kernel
theorem d_SK_init_88 : decode b_SK_init 88 = .ok (.return_, 1) := by decide +kernel
set_option maxHeartbeats 4000000 in
set_option maxRecDepth 100000 in
theorem c_SK_init (l : Launch) (dC : Nat → ClassId) (dI : Nat → Nat → Nat) (ca : Nat → ClassId) (h0 : Nat) : CT l classes (dC, dI) (sK dC dI ca) sk y_SK_init b_SK_init 1 none 1 12 12 13 [.ref h0] [(h0, .inr (10, [.int 0, .int 0, .null, .null, .null, .null, .null, .null, .null, .null, .null, .int 0, .null, .null, .null, .null]))] (fun (v : Option Value) (_ : List Value) => v = none) (fun (fs : List Value) => [(h0, .inr (10, fs))]) := by
  refine ax_of (by decide) (Nat.le_of_ble_eq_true rfl) ?_
  intro p e s m below meth c A ls hAt hK hP hD hS hA hl
  obtain ⟨hx, hb, hr, hml, hown, hts, hlocks, hin⟩ := hAt
  have hin : meth.name = "<init>" := hin
  have hl : lv_has ls 1 [(0, .ref h0)] := hl
  refine lv_aload_n hx hb d_SK_init_0 rfl (lv_at hl 0 rfl) ?_
  refine W.objInit hx hb hown (hts _ xs_56) (hts _ xs_22) (hts _ xs_23) rfl (by rw [hml]; exact hl.1) rfl d_SK_init_1 (Nat.le_of_ble_eq_true rfl) (Nat.le_of_ble_eq_true rfl) ?_
  refine W.eq (g2 := F0 m 4 ls []) rfl ?_
  refine lv_aload_n hx hb d_SK_init_4 rfl (lv_at hl 0 rfl) ?_
  refine lv_iconst (v := 1) hx hb d_SK_init_5 (by decide) ?_
  refine ax_newa (atype := .int) (ty := .int) (n := 1) (N' := 1) (a0 := (1, .inl (fun _ => 0))) hx hb (hts _ xs_35) rfl hK.1 1 rfl (fun C h => by cases h) hP hD hS hA (fun _ => rfl) (by decide +kernel) (by decide +kernel) (by decide +kernel) (Nat.le_of_ble_eq_true rfl) (Nat.le_of_ble_eq_true rfl) d_SK_init_6 (fun q_1 H hP hD hS => ?_)
  have hP : va_P (dC, dI) classes [(h0, .inr (10, [.int 0, .int 0, .null, .null, .null, .null, .null, .null, .null, .null, .null, .int 0, .null, .null, .null, .null])), (q_1, .inl (ca 1, 1, .inl (fun _ => 0)))] H := hP
  have hD : va_D A [(h0, .inr (10, [.int 0, .int 0, .null, .null, .null, .null, .null, .null, .null, .null, .null, .int 0, .null, .null, .null, .null])), (q_1, .inl (ca 1, 1, .inl (fun _ => 0)))] := hD
  refine W.widen (k := 1) (n := 1) (Nat.le_of_ble_eq_true rfl) (Nat.le_of_ble_eq_true rfl) ?_
  refine va_put (D := (dC, dI)) (ci := 10) (v := .ref q_1) (ty := .array (.int)) (C := R_SK) (T := F_SK) (N := 16) hx hb hts i_SK t_SK t_SK_ok n_SK hown hK.1 hP hD hS 0 rfl rfl 3 (by decide) (hts _ xs_59) (fun _ h9 => h9) rfl (by decide +kernel) rfl rfl (Nat.le_of_ble_eq_true rfl) d_SK_init_8 (fun H locs hP hD hS => ?_)
  have hP : va_P (dC, dI) classes [(h0, .inr (10, [.int 0, .int 0, .null, .ref q_1, .null, .null, .null, .null, .null, .null, .null, .int 0, .null, .null, .null, .null])), (q_1, .inl (ca 1, 1, .inl (fun _ => 0)))] H := hP
  have hD : va_D A [(h0, .inr (10, [.int 0, .int 0, .null, .ref q_1, .null, .null, .null, .null, .null, .null, .null, .int 0, .null, .null, .null, .null])), (q_1, .inl (ca 1, 1, .inl (fun _ => 0)))] := hD
  have hP := hP.sub (ws' := [(h0, .inr (10, [.int 0, .int 0, .null, .ref q_1, .null, .null, .null, .null, .null, .null, .null, .int 0, .null, .null, .null, .null]))]) [0] rfl
  have hD := hD.sub (ws' := [(h0, .inr (10, [.int 0, .int 0, .null, .ref q_1, .null, .null, .null, .null, .null, .null, .null, .int 0, .null, .null, .null, .null]))]) [0] (by decide) rfl
  refine lv_aload_n hx hb d_SK_init_11 rfl (lv_at hl 0 rfl) ?_
  refine lv_iconst (v := 1) hx hb d_SK_init_12 (by decide) ?_
  refine ax_newa (atype := .int) (ty := .int) (n := 1) (N' := 1) (a0 := (1, .inl (fun _ => 0))) hx hb (hts _ xs_35) rfl hK.1 1 rfl (fun C h => by cases h) hP hD hS hA (fun _ => rfl) (by decide +kernel) (by decide +kernel) (by decide +kernel) (Nat.le_of_ble_eq_true rfl) (Nat.le_of_ble_eq_true rfl) d_SK_init_13 (fun q_2 H hP hD hS => ?_)
  have hP : va_P (dC, dI) classes [(h0, .inr (10, [.int 0, .int 0, .null, .ref q_1, .null, .null, .null, .null, .null, .null, .null, .int 0, .null, .null, .null, .null])), (q_2, .inl (ca 1, 1, .inl (fun _ => 0)))] H := hP
  have hD : va_D A [(h0, .inr (10, [.int 0, .int 0, .null, .ref q_1, .null, .null, .null, .null, .null, .null, .null, .int 0, .null, .null, .null, .null])), (q_2, .inl (ca 1, 1, .inl (fun _ => 0)))] := hD
  refine W.widen (k := 2) (n := 2) (Nat.le_of_ble_eq_true rfl) (Nat.le_of_ble_eq_true rfl) ?_
  refine va_put (D := (dC, dI)) (ci := 10) (v := .ref q_2) (ty := .array (.int)) (C := R_SK) (T := F_SK) (N := 16) hx hb hts i_SK t_SK t_SK_ok n_SK hown hK.1 hP hD hS 0 rfl rfl 4 (by decide) (hts _ xs_60) (fun _ h9 => h9) rfl (by decide +kernel) rfl rfl (Nat.le_of_ble_eq_true rfl) d_SK_init_15 (fun H locs hP hD hS => ?_)
  have hP : va_P (dC, dI) classes [(h0, .inr (10, [.int 0, .int 0, .null, .ref q_1, .ref q_2, .null, .null, .null, .null, .null, .null, .int 0, .null, .null, .null, .null])), (q_2, .inl (ca 1, 1, .inl (fun _ => 0)))] H := hP
  have hD : va_D A [(h0, .inr (10, [.int 0, .int 0, .null, .ref q_1, .ref q_2, .null, .null, .null, .null, .null, .null, .int 0, .null, .null, .null, .null])), (q_2, .inl (ca 1, 1, .inl (fun _ => 0)))] := hD
  have hP := hP.sub (ws' := [(h0, .inr (10, [.int 0, .int 0, .null, .ref q_1, .ref q_2, .null, .null, .null, .null, .null, .null, .int 0, .null, .null, .null, .null]))]) [0] rfl
  have hD := hD.sub (ws' := [(h0, .inr (10, [.int 0, .int 0, .null, .ref q_1, .ref q_2, .null, .null, .null, .null, .null, .null, .int 0, .null, .null, .null, .null]))]) [0] (by decide) rfl
  refine lv_aload_n hx hb d_SK_init_18 rfl (lv_at hl 0 rfl) ?_
  refine lv_iconst (v := 1) hx hb d_SK_init_19 (by decide) ?_
  refine ax_newa (atype := .int) (ty := .int) (n := 1) (N' := 1) (a0 := (1, .inl (fun _ => 0))) hx hb (hts _ xs_35) rfl hK.1 1 rfl (fun C h => by cases h) hP hD hS hA (fun _ => rfl) (by decide +kernel) (by decide +kernel) (by decide +kernel) (Nat.le_of_ble_eq_true rfl) (Nat.le_of_ble_eq_true rfl) d_SK_init_20 (fun q_3 H hP hD hS => ?_)
  have hP : va_P (dC, dI) classes [(h0, .inr (10, [.int 0, .int 0, .null, .ref q_1, .ref q_2, .null, .null, .null, .null, .null, .null, .int 0, .null, .null, .null, .null])), (q_3, .inl (ca 1, 1, .inl (fun _ => 0)))] H := hP
  have hD : va_D A [(h0, .inr (10, [.int 0, .int 0, .null, .ref q_1, .ref q_2, .null, .null, .null, .null, .null, .null, .int 0, .null, .null, .null, .null])), (q_3, .inl (ca 1, 1, .inl (fun _ => 0)))] := hD
  refine W.widen (k := 3) (n := 3) (Nat.le_of_ble_eq_true rfl) (Nat.le_of_ble_eq_true rfl) ?_
  refine va_put (D := (dC, dI)) (ci := 10) (v := .ref q_3) (ty := .array (.int)) (C := R_SK) (T := F_SK) (N := 16) hx hb hts i_SK t_SK t_SK_ok n_SK hown hK.1 hP hD hS 0 rfl rfl 5 (by decide) (hts _ xs_61) (fun _ h9 => h9) rfl (by decide +kernel) rfl rfl (Nat.le_of_ble_eq_true rfl) d_SK_init_22 (fun H locs hP hD hS => ?_)
  have hP : va_P (dC, dI) classes [(h0, .inr (10, [.int 0, .int 0, .null, .ref q_1, .ref q_2, .ref q_3, .null, .null, .null, .null, .null, .int 0, .null, .null, .null, .null])), (q_3, .inl (ca 1, 1, .inl (fun _ => 0)))] H := hP
  have hD : va_D A [(h0, .inr (10, [.int 0, .int 0, .null, .ref q_1, .ref q_2, .ref q_3, .null, .null, .null, .null, .null, .int 0, .null, .null, .null, .null])), (q_3, .inl (ca 1, 1, .inl (fun _ => 0)))] := hD
  have hP := hP.sub (ws' := [(h0, .inr (10, [.int 0, .int 0, .null, .ref q_1, .ref q_2, .ref q_3, .null, .null, .null, .null, .null, .int 0, .null, .null, .null, .null]))]) [0] rfl
  have hD := hD.sub (ws' := [(h0, .inr (10, [.int 0, .int 0, .null, .ref q_1, .ref q_2, .ref q_3, .null, .null, .null, .null, .null, .int 0, .null, .null, .null, .null]))]) [0] (by decide) rfl
  refine lv_aload_n hx hb d_SK_init_25 rfl (lv_at hl 0 rfl) ?_
  refine lv_iconst (v := 1) hx hb d_SK_init_26 (by decide) ?_
  refine ax_newa (atype := .int) (ty := .int) (n := 1) (N' := 1) (a0 := (1, .inl (fun _ => 0))) hx hb (hts _ xs_35) rfl hK.1 1 rfl (fun C h => by cases h) hP hD hS hA (fun _ => rfl) (by decide +kernel) (by decide +kernel) (by decide +kernel) (Nat.le_of_ble_eq_true rfl) (Nat.le_of_ble_eq_true rfl) d_SK_init_27 (fun q_4 H hP hD hS => ?_)
  have hP : va_P (dC, dI) classes [(h0, .inr (10, [.int 0, .int 0, .null, .ref q_1, .ref q_2, .ref q_3, .null, .null, .null, .null, .null, .int 0, .null, .null, .null, .null])), (q_4, .inl (ca 1, 1, .inl (fun _ => 0)))] H := hP
  have hD : va_D A [(h0, .inr (10, [.int 0, .int 0, .null, .ref q_1, .ref q_2, .ref q_3, .null, .null, .null, .null, .null, .int 0, .null, .null, .null, .null])), (q_4, .inl (ca 1, 1, .inl (fun _ => 0)))] := hD
  refine W.widen (k := 4) (n := 4) (Nat.le_of_ble_eq_true rfl) (Nat.le_of_ble_eq_true rfl) ?_
  refine va_put (D := (dC, dI)) (ci := 10) (v := .ref q_4) (ty := .array (.int)) (C := R_SK) (T := F_SK) (N := 16) hx hb hts i_SK t_SK t_SK_ok n_SK hown hK.1 hP hD hS 0 rfl rfl 6 (by decide) (hts _ xs_62) (fun _ h9 => h9) rfl (by decide +kernel) rfl rfl (Nat.le_of_ble_eq_true rfl) d_SK_init_29 (fun H locs hP hD hS => ?_)
  have hP : va_P (dC, dI) classes [(h0, .inr (10, [.int 0, .int 0, .null, .ref q_1, .ref q_2, .ref q_3, .ref q_4, .null, .null, .null, .null, .int 0, .null, .null, .null, .null])), (q_4, .inl (ca 1, 1, .inl (fun _ => 0)))] H := hP
  have hD : va_D A [(h0, .inr (10, [.int 0, .int 0, .null, .ref q_1, .ref q_2, .ref q_3, .ref q_4, .null, .null, .null, .null, .int 0, .null, .null, .null, .null])), (q_4, .inl (ca 1, 1, .inl (fun _ => 0)))] := hD
  have hP := hP.sub (ws' := [(h0, .inr (10, [.int 0, .int 0, .null, .ref q_1, .ref q_2, .ref q_3, .ref q_4, .null, .null, .null, .null, .int 0, .null, .null, .null, .null]))]) [0] rfl
  have hD := hD.sub (ws' := [(h0, .inr (10, [.int 0, .int 0, .null, .ref q_1, .ref q_2, .ref q_3, .ref q_4, .null, .null, .null, .null, .int 0, .null, .null, .null, .null]))]) [0] (by decide) rfl
  refine lv_aload_n hx hb d_SK_init_32 rfl (lv_at hl 0 rfl) ?_
  refine lv_iconst (v := 2) hx hb d_SK_init_33 (by decide) ?_
  refine ax_newa (atype := .int) (ty := .int) (n := 2) (N' := 2) (a0 := (2, .inl (fun _ => 0))) hx hb (hts _ xs_35) rfl hK.1 1 rfl (fun C h => by cases h) hP hD hS hA (fun _ => rfl) (by decide +kernel) (by decide +kernel) (by decide +kernel) (Nat.le_of_ble_eq_true rfl) (Nat.le_of_ble_eq_true rfl) d_SK_init_34 (fun q_5 H hP hD hS => ?_)
  have hP : va_P (dC, dI) classes [(h0, .inr (10, [.int 0, .int 0, .null, .ref q_1, .ref q_2, .ref q_3, .ref q_4, .null, .null, .null, .null, .int 0, .null, .null, .null, .null])), (q_5, .inl (ca 1, 2, .inl (fun _ => 0)))] H := hP
  have hD : va_D A [(h0, .inr (10, [.int 0, .int 0, .null, .ref q_1, .ref q_2, .ref q_3, .ref q_4, .null, .null, .null, .null, .int 0, .null, .null, .null, .null])), (q_5, .inl (ca 1, 2, .inl (fun _ => 0)))] := hD
  refine W.widen (k := 5) (n := 6) (Nat.le_of_ble_eq_true rfl) (Nat.le_of_ble_eq_true rfl) ?_
  refine va_put (D := (dC, dI)) (ci := 10) (v := .ref q_5) (ty := .array (.int)) (C := R_SK) (T := F_SK) (N := 16) hx hb hts i_SK t_SK t_SK_ok n_SK hown hK.1 hP hD hS 0 rfl rfl 7 (by decide) (hts _ xs_63) (fun _ h9 => h9) rfl (by decide +kernel) rfl rfl (Nat.le_of_ble_eq_true rfl) d_SK_init_36 (fun H locs hP hD hS => ?_)
  have hP : va_P (dC, dI) classes [(h0, .inr (10, [.int 0, .int 0, .null, .ref q_1, .ref q_2, .ref q_3, .ref q_4, .ref q_5, .null, .null, .null, .int 0, .null, .null, .null, .null])), (q_5, .inl (ca 1, 2, .inl (fun _ => 0)))] H := hP
  have hD : va_D A [(h0, .inr (10, [.int 0, .int 0, .null, .ref q_1, .ref q_2, .ref q_3, .ref q_4, .ref q_5, .null, .null, .null, .int 0, .null, .null, .null, .null])), (q_5, .inl (ca 1, 2, .inl (fun _ => 0)))] := hD
  have hP := hP.sub (ws' := [(h0, .inr (10, [.int 0, .int 0, .null, .ref q_1, .ref q_2, .ref q_3, .ref q_4, .ref q_5, .null, .null, .null, .int 0, .null, .null, .null, .null]))]) [0] rfl
  have hD := hD.sub (ws' := [(h0, .inr (10, [.int 0, .int 0, .null, .ref q_1, .ref q_2, .ref q_3, .ref q_4, .ref q_5, .null, .null, .null, .int 0, .null, .null, .null, .null]))]) [0] (by decide) rfl
  refine lv_aload_n hx hb d_SK_init_39 rfl (lv_at hl 0 rfl) ?_
  refine lv_iconst (v := 1) hx hb d_SK_init_40 (by decide) ?_
  refine ax_newa (atype := .int) (ty := .int) (n := 1) (N' := 1) (a0 := (1, .inl (fun _ => 0))) hx hb (hts _ xs_35) rfl hK.1 1 rfl (fun C h => by cases h) hP hD hS hA (fun _ => rfl) (by decide +kernel) (by decide +kernel) (by decide +kernel) (Nat.le_of_ble_eq_true rfl) (Nat.le_of_ble_eq_true rfl) d_SK_init_41 (fun q_6 H hP hD hS => ?_)
  have hP : va_P (dC, dI) classes [(h0, .inr (10, [.int 0, .int 0, .null, .ref q_1, .ref q_2, .ref q_3, .ref q_4, .ref q_5, .null, .null, .null, .int 0, .null, .null, .null, .null])), (q_6, .inl (ca 1, 1, .inl (fun _ => 0)))] H := hP
  have hD : va_D A [(h0, .inr (10, [.int 0, .int 0, .null, .ref q_1, .ref q_2, .ref q_3, .ref q_4, .ref q_5, .null, .null, .null, .int 0, .null, .null, .null, .null])), (q_6, .inl (ca 1, 1, .inl (fun _ => 0)))] := hD
  refine W.widen (k := 6) (n := 7) (Nat.le_of_ble_eq_true rfl) (Nat.le_of_ble_eq_true rfl) ?_
  refine va_put (D := (dC, dI)) (ci := 10) (v := .ref q_6) (ty := .array (.int)) (C := R_SK) (T := F_SK) (N := 16) hx hb hts i_SK t_SK t_SK_ok n_SK hown hK.1 hP hD hS 0 rfl rfl 8 (by decide) (hts _ xs_64) (fun _ h9 => h9) rfl (by decide +kernel) rfl rfl (Nat.le_of_ble_eq_true rfl) d_SK_init_43 (fun H locs hP hD hS => ?_)
  have hP : va_P (dC, dI) classes [(h0, .inr (10, [.int 0, .int 0, .null, .ref q_1, .ref q_2, .ref q_3, .ref q_4, .ref q_5, .ref q_6, .null, .null, .int 0, .null, .null, .null, .null])), (q_6, .inl (ca 1, 1, .inl (fun _ => 0)))] H := hP
  have hD : va_D A [(h0, .inr (10, [.int 0, .int 0, .null, .ref q_1, .ref q_2, .ref q_3, .ref q_4, .ref q_5, .ref q_6, .null, .null, .int 0, .null, .null, .null, .null])), (q_6, .inl (ca 1, 1, .inl (fun _ => 0)))] := hD
  have hP := hP.sub (ws' := [(h0, .inr (10, [.int 0, .int 0, .null, .ref q_1, .ref q_2, .ref q_3, .ref q_4, .ref q_5, .ref q_6, .null, .null, .int 0, .null, .null, .null, .null]))]) [0] rfl
  have hD := hD.sub (ws' := [(h0, .inr (10, [.int 0, .int 0, .null, .ref q_1, .ref q_2, .ref q_3, .ref q_4, .ref q_5, .ref q_6, .null, .null, .int 0, .null, .null, .null, .null]))]) [0] (by decide) rfl
  refine lv_aload_n hx hb d_SK_init_46 rfl (lv_at hl 0 rfl) ?_
  refine lv_iconst (v := 1) hx hb d_SK_init_47 (by decide) ?_
  refine ax_newa (atype := .int) (ty := .int) (n := 1) (N' := 1) (a0 := (1, .inl (fun _ => 0))) hx hb (hts _ xs_35) rfl hK.1 1 rfl (fun C h => by cases h) hP hD hS hA (fun _ => rfl) (by decide +kernel) (by decide +kernel) (by decide +kernel) (Nat.le_of_ble_eq_true rfl) (Nat.le_of_ble_eq_true rfl) d_SK_init_48 (fun q_7 H hP hD hS => ?_)
  have hP : va_P (dC, dI) classes [(h0, .inr (10, [.int 0, .int 0, .null, .ref q_1, .ref q_2, .ref q_3, .ref q_4, .ref q_5, .ref q_6, .null, .null, .int 0, .null, .null, .null, .null])), (q_7, .inl (ca 1, 1, .inl (fun _ => 0)))] H := hP
  have hD : va_D A [(h0, .inr (10, [.int 0, .int 0, .null, .ref q_1, .ref q_2, .ref q_3, .ref q_4, .ref q_5, .ref q_6, .null, .null, .int 0, .null, .null, .null, .null])), (q_7, .inl (ca 1, 1, .inl (fun _ => 0)))] := hD
  refine W.widen (k := 7) (n := 8) (Nat.le_of_ble_eq_true rfl) (Nat.le_of_ble_eq_true rfl) ?_
  refine va_put (D := (dC, dI)) (ci := 10) (v := .ref q_7) (ty := .array (.int)) (C := R_SK) (T := F_SK) (N := 16) hx hb hts i_SK t_SK t_SK_ok n_SK hown hK.1 hP hD hS 0 rfl rfl 9 (by decide) (hts _ xs_65) (fun _ h9 => h9) rfl (by decide +kernel) rfl rfl (Nat.le_of_ble_eq_true rfl) d_SK_init_50 (fun H locs hP hD hS => ?_)
  have hP : va_P (dC, dI) classes [(h0, .inr (10, [.int 0, .int 0, .null, .ref q_1, .ref q_2, .ref q_3, .ref q_4, .ref q_5, .ref q_6, .ref q_7, .null, .int 0, .null, .null, .null, .null])), (q_7, .inl (ca 1, 1, .inl (fun _ => 0)))] H := hP
  have hD : va_D A [(h0, .inr (10, [.int 0, .int 0, .null, .ref q_1, .ref q_2, .ref q_3, .ref q_4, .ref q_5, .ref q_6, .ref q_7, .null, .int 0, .null, .null, .null, .null])), (q_7, .inl (ca 1, 1, .inl (fun _ => 0)))] := hD
  have hP := hP.sub (ws' := [(h0, .inr (10, [.int 0, .int 0, .null, .ref q_1, .ref q_2, .ref q_3, .ref q_4, .ref q_5, .ref q_6, .ref q_7, .null, .int 0, .null, .null, .null, .null]))]) [0] rfl
  have hD := hD.sub (ws' := [(h0, .inr (10, [.int 0, .int 0, .null, .ref q_1, .ref q_2, .ref q_3, .ref q_4, .ref q_5, .ref q_6, .ref q_7, .null, .int 0, .null, .null, .null, .null]))]) [0] (by decide) rfl
  refine lv_aload_n hx hb d_SK_init_53 rfl (lv_at hl 0 rfl) ?_
  refine lv_iconst (v := 1) hx hb d_SK_init_54 (by decide) ?_
  refine ax_newa (atype := .int) (ty := .int) (n := 1) (N' := 1) (a0 := (1, .inl (fun _ => 0))) hx hb (hts _ xs_35) rfl hK.1 1 rfl (fun C h => by cases h) hP hD hS hA (fun _ => rfl) (by decide +kernel) (by decide +kernel) (by decide +kernel) (Nat.le_of_ble_eq_true rfl) (Nat.le_of_ble_eq_true rfl) d_SK_init_55 (fun q_8 H hP hD hS => ?_)
  have hP : va_P (dC, dI) classes [(h0, .inr (10, [.int 0, .int 0, .null, .ref q_1, .ref q_2, .ref q_3, .ref q_4, .ref q_5, .ref q_6, .ref q_7, .null, .int 0, .null, .null, .null, .null])), (q_8, .inl (ca 1, 1, .inl (fun _ => 0)))] H := hP
  have hD : va_D A [(h0, .inr (10, [.int 0, .int 0, .null, .ref q_1, .ref q_2, .ref q_3, .ref q_4, .ref q_5, .ref q_6, .ref q_7, .null, .int 0, .null, .null, .null, .null])), (q_8, .inl (ca 1, 1, .inl (fun _ => 0)))] := hD
  refine W.widen (k := 8) (n := 9) (Nat.le_of_ble_eq_true rfl) (Nat.le_of_ble_eq_true rfl) ?_
  refine va_put (D := (dC, dI)) (ci := 10) (v := .ref q_8) (ty := .array (.int)) (C := R_SK) (T := F_SK) (N := 16) hx hb hts i_SK t_SK t_SK_ok n_SK hown hK.1 hP hD hS 0 rfl rfl 10 (by decide) (hts _ xs_66) (fun _ h9 => h9) rfl (by decide +kernel) rfl rfl (Nat.le_of_ble_eq_true rfl) d_SK_init_57 (fun H locs hP hD hS => ?_)
  have hP : va_P (dC, dI) classes [(h0, .inr (10, [.int 0, .int 0, .null, .ref q_1, .ref q_2, .ref q_3, .ref q_4, .ref q_5, .ref q_6, .ref q_7, .ref q_8, .int 0, .null, .null, .null, .null])), (q_8, .inl (ca 1, 1, .inl (fun _ => 0)))] H := hP
  have hD : va_D A [(h0, .inr (10, [.int 0, .int 0, .null, .ref q_1, .ref q_2, .ref q_3, .ref q_4, .ref q_5, .ref q_6, .ref q_7, .ref q_8, .int 0, .null, .null, .null, .null])), (q_8, .inl (ca 1, 1, .inl (fun _ => 0)))] := hD
  have hP := hP.sub (ws' := [(h0, .inr (10, [.int 0, .int 0, .null, .ref q_1, .ref q_2, .ref q_3, .ref q_4, .ref q_5, .ref q_6, .ref q_7, .ref q_8, .int 0, .null, .null, .null, .null]))]) [0] rfl
  have hD := hD.sub (ws' := [(h0, .inr (10, [.int 0, .int 0, .null, .ref q_1, .ref q_2, .ref q_3, .ref q_4, .ref q_5, .ref q_6, .ref q_7, .ref q_8, .int 0, .null, .null, .null, .null]))]) [0] (by decide) rfl
  refine lv_aload_n hx hb d_SK_init_60 rfl (lv_at hl 0 rfl) ?_
  refine lv_iconst (v := 1) hx hb d_SK_init_61 (by decide) ?_
  refine ax_newa (atype := .int) (ty := .int) (n := 1) (N' := 1) (a0 := (1, .inl (fun _ => 0))) hx hb (hts _ xs_35) rfl hK.1 1 rfl (fun C h => by cases h) hP hD hS hA (fun _ => rfl) (by decide +kernel) (by decide +kernel) (by decide +kernel) (Nat.le_of_ble_eq_true rfl) (Nat.le_of_ble_eq_true rfl) d_SK_init_62 (fun q_9 H hP hD hS => ?_)
  have hP : va_P (dC, dI) classes [(h0, .inr (10, [.int 0, .int 0, .null, .ref q_1, .ref q_2, .ref q_3, .ref q_4, .ref q_5, .ref q_6, .ref q_7, .ref q_8, .int 0, .null, .null, .null, .null])), (q_9, .inl (ca 1, 1, .inl (fun _ => 0)))] H := hP
  have hD : va_D A [(h0, .inr (10, [.int 0, .int 0, .null, .ref q_1, .ref q_2, .ref q_3, .ref q_4, .ref q_5, .ref q_6, .ref q_7, .ref q_8, .int 0, .null, .null, .null, .null])), (q_9, .inl (ca 1, 1, .inl (fun _ => 0)))] := hD
  refine W.widen (k := 9) (n := 10) (Nat.le_of_ble_eq_true rfl) (Nat.le_of_ble_eq_true rfl) ?_
  refine va_put (D := (dC, dI)) (ci := 10) (v := .ref q_9) (ty := .array (.int)) (C := R_SK) (T := F_SK) (N := 16) hx hb hts i_SK t_SK t_SK_ok n_SK hown hK.1 hP hD hS 0 rfl rfl 12 (by decide) (hts _ xs_67) (fun _ h9 => h9) rfl (by decide +kernel) rfl rfl (Nat.le_of_ble_eq_true rfl) d_SK_init_64 (fun H locs hP hD hS => ?_)
  have hP : va_P (dC, dI) classes [(h0, .inr (10, [.int 0, .int 0, .null, .ref q_1, .ref q_2, .ref q_3, .ref q_4, .ref q_5, .ref q_6, .ref q_7, .ref q_8, .int 0, .ref q_9, .null, .null, .null])), (q_9, .inl (ca 1, 1, .inl (fun _ => 0)))] H := hP
  have hD : va_D A [(h0, .inr (10, [.int 0, .int 0, .null, .ref q_1, .ref q_2, .ref q_3, .ref q_4, .ref q_5, .ref q_6, .ref q_7, .ref q_8, .int 0, .ref q_9, .null, .null, .null])), (q_9, .inl (ca 1, 1, .inl (fun _ => 0)))] := hD
  have hP := hP.sub (ws' := [(h0, .inr (10, [.int 0, .int 0, .null, .ref q_1, .ref q_2, .ref q_3, .ref q_4, .ref q_5, .ref q_6, .ref q_7, .ref q_8, .int 0, .ref q_9, .null, .null, .null]))]) [0] rfl
  have hD := hD.sub (ws' := [(h0, .inr (10, [.int 0, .int 0, .null, .ref q_1, .ref q_2, .ref q_3, .ref q_4, .ref q_5, .ref q_6, .ref q_7, .ref q_8, .int 0, .ref q_9, .null, .null, .null]))]) [0] (by decide) rfl
  refine lv_aload_n hx hb d_SK_init_67 rfl (lv_at hl 0 rfl) ?_
  refine lv_iconst (v := 1) hx hb d_SK_init_68 (by decide) ?_
  refine ax_newa (atype := .int) (ty := .int) (n := 1) (N' := 1) (a0 := (1, .inl (fun _ => 0))) hx hb (hts _ xs_35) rfl hK.1 1 rfl (fun C h => by cases h) hP hD hS hA (fun _ => rfl) (by decide +kernel) (by decide +kernel) (by decide +kernel) (Nat.le_of_ble_eq_true rfl) (Nat.le_of_ble_eq_true rfl) d_SK_init_69 (fun q_10 H hP hD hS => ?_)
  have hP : va_P (dC, dI) classes [(h0, .inr (10, [.int 0, .int 0, .null, .ref q_1, .ref q_2, .ref q_3, .ref q_4, .ref q_5, .ref q_6, .ref q_7, .ref q_8, .int 0, .ref q_9, .null, .null, .null])), (q_10, .inl (ca 1, 1, .inl (fun _ => 0)))] H := hP
  have hD : va_D A [(h0, .inr (10, [.int 0, .int 0, .null, .ref q_1, .ref q_2, .ref q_3, .ref q_4, .ref q_5, .ref q_6, .ref q_7, .ref q_8, .int 0, .ref q_9, .null, .null, .null])), (q_10, .inl (ca 1, 1, .inl (fun _ => 0)))] := hD
  refine W.widen (k := 10) (n := 11) (Nat.le_of_ble_eq_true rfl) (Nat.le_of_ble_eq_true rfl) ?_
  refine va_put (D := (dC, dI)) (ci := 10) (v := .ref q_10) (ty := .array (.int)) (C := R_SK) (T := F_SK) (N := 16) hx hb hts i_SK t_SK t_SK_ok n_SK hown hK.1 hP hD hS 0 rfl rfl 13 (by decide) (hts _ xs_68) (fun _ h9 => h9) rfl (by decide +kernel) rfl rfl (Nat.le_of_ble_eq_true rfl) d_SK_init_71 (fun H locs hP hD hS => ?_)
  have hP : va_P (dC, dI) classes [(h0, .inr (10, [.int 0, .int 0, .null, .ref q_1, .ref q_2, .ref q_3, .ref q_4, .ref q_5, .ref q_6, .ref q_7, .ref q_8, .int 0, .ref q_9, .ref q_10, .null, .null])), (q_10, .inl (ca 1, 1, .inl (fun _ => 0)))] H := hP
  have hD : va_D A [(h0, .inr (10, [.int 0, .int 0, .null, .ref q_1, .ref q_2, .ref q_3, .ref q_4, .ref q_5, .ref q_6, .ref q_7, .ref q_8, .int 0, .ref q_9, .ref q_10, .null, .null])), (q_10, .inl (ca 1, 1, .inl (fun _ => 0)))] := hD
  have hP := hP.sub (ws' := [(h0, .inr (10, [.int 0, .int 0, .null, .ref q_1, .ref q_2, .ref q_3, .ref q_4, .ref q_5, .ref q_6, .ref q_7, .ref q_8, .int 0, .ref q_9, .ref q_10, .null, .null]))]) [0] rfl
  have hD := hD.sub (ws' := [(h0, .inr (10, [.int 0, .int 0, .null, .ref q_1, .ref q_2, .ref q_3, .ref q_4, .ref q_5, .ref q_6, .ref q_7, .ref q_8, .int 0, .ref q_9, .ref q_10, .null, .null]))]) [0] (by decide) rfl
  refine lv_aload_n hx hb d_SK_init_74 rfl (lv_at hl 0 rfl) ?_
  refine lv_iconst (v := 1) hx hb d_SK_init_75 (by decide) ?_
  refine ax_newa (atype := .int) (ty := .int) (n := 1) (N' := 1) (a0 := (1, .inl (fun _ => 0))) hx hb (hts _ xs_35) rfl hK.1 1 rfl (fun C h => by cases h) hP hD hS hA (fun _ => rfl) (by decide +kernel) (by decide +kernel) (by decide +kernel) (Nat.le_of_ble_eq_true rfl) (Nat.le_of_ble_eq_true rfl) d_SK_init_76 (fun q_11 H hP hD hS => ?_)
  have hP : va_P (dC, dI) classes [(h0, .inr (10, [.int 0, .int 0, .null, .ref q_1, .ref q_2, .ref q_3, .ref q_4, .ref q_5, .ref q_6, .ref q_7, .ref q_8, .int 0, .ref q_9, .ref q_10, .null, .null])), (q_11, .inl (ca 1, 1, .inl (fun _ => 0)))] H := hP
  have hD : va_D A [(h0, .inr (10, [.int 0, .int 0, .null, .ref q_1, .ref q_2, .ref q_3, .ref q_4, .ref q_5, .ref q_6, .ref q_7, .ref q_8, .int 0, .ref q_9, .ref q_10, .null, .null])), (q_11, .inl (ca 1, 1, .inl (fun _ => 0)))] := hD
  refine W.widen (k := 11) (n := 12) (Nat.le_of_ble_eq_true rfl) (Nat.le_of_ble_eq_true rfl) ?_
  refine va_put (D := (dC, dI)) (ci := 10) (v := .ref q_11) (ty := .array (.int)) (C := R_SK) (T := F_SK) (N := 16) hx hb hts i_SK t_SK t_SK_ok n_SK hown hK.1 hP hD hS 0 rfl rfl 14 (by decide) (hts _ xs_69) (fun _ h9 => h9) rfl (by decide +kernel) rfl rfl (Nat.le_of_ble_eq_true rfl) d_SK_init_78 (fun H locs hP hD hS => ?_)
  have hP : va_P (dC, dI) classes [(h0, .inr (10, [.int 0, .int 0, .null, .ref q_1, .ref q_2, .ref q_3, .ref q_4, .ref q_5, .ref q_6, .ref q_7, .ref q_8, .int 0, .ref q_9, .ref q_10, .ref q_11, .null])), (q_11, .inl (ca 1, 1, .inl (fun _ => 0)))] H := hP
  have hD : va_D A [(h0, .inr (10, [.int 0, .int 0, .null, .ref q_1, .ref q_2, .ref q_3, .ref q_4, .ref q_5, .ref q_6, .ref q_7, .ref q_8, .int 0, .ref q_9, .ref q_10, .ref q_11, .null])), (q_11, .inl (ca 1, 1, .inl (fun _ => 0)))] := hD
  have hP := hP.sub (ws' := [(h0, .inr (10, [.int 0, .int 0, .null, .ref q_1, .ref q_2, .ref q_3, .ref q_4, .ref q_5, .ref q_6, .ref q_7, .ref q_8, .int 0, .ref q_9, .ref q_10, .ref q_11, .null]))]) [0] rfl
  have hD := hD.sub (ws' := [(h0, .inr (10, [.int 0, .int 0, .null, .ref q_1, .ref q_2, .ref q_3, .ref q_4, .ref q_5, .ref q_6, .ref q_7, .ref q_8, .int 0, .ref q_9, .ref q_10, .ref q_11, .null]))]) [0] (by decide) rfl
  refine lv_aload_n hx hb d_SK_init_81 rfl (lv_at hl 0 rfl) ?_
  refine lv_iconst (v := 1) hx hb d_SK_init_82 (by decide) ?_
  refine ax_newa (atype := .int) (ty := .int) (n := 1) (N' := 1) (a0 := (1, .inl (fun _ => 0))) hx hb (hts _ xs_35) rfl hK.1 1 rfl (fun C h => by cases h) hP hD hS hA (fun _ => rfl) (by decide +kernel) (by decide +kernel) (by decide +kernel) (Nat.le_of_ble_eq_true rfl) (Nat.le_of_ble_eq_true rfl) d_SK_init_83 (fun q_12 H hP hD hS => ?_)
  have hP : va_P (dC, dI) classes [(h0, .inr (10, [.int 0, .int 0, .null, .ref q_1, .ref q_2, .ref q_3, .ref q_4, .ref q_5, .ref q_6, .ref q_7, .ref q_8, .int 0, .ref q_9, .ref q_10, .ref q_11, .null])), (q_12, .inl (ca 1, 1, .inl (fun _ => 0)))] H := hP
  have hD : va_D A [(h0, .inr (10, [.int 0, .int 0, .null, .ref q_1, .ref q_2, .ref q_3, .ref q_4, .ref q_5, .ref q_6, .ref q_7, .ref q_8, .int 0, .ref q_9, .ref q_10, .ref q_11, .null])), (q_12, .inl (ca 1, 1, .inl (fun _ => 0)))] := hD
  refine W.widen (k := 12) (n := 13) (Nat.le_of_ble_eq_true rfl) (Nat.le_of_ble_eq_true rfl) ?_
  refine va_put (D := (dC, dI)) (ci := 10) (v := .ref q_12) (ty := .array (.int)) (C := R_SK) (T := F_SK) (N := 16) hx hb hts i_SK t_SK t_SK_ok n_SK hown hK.1 hP hD hS 0 rfl rfl 15 (by decide) (hts _ xs_70) (fun _ h9 => h9) rfl (by decide +kernel) rfl rfl (Nat.le_of_ble_eq_true rfl) d_SK_init_85 (fun H locs hP hD hS => ?_)
  have hP : va_P (dC, dI) classes [(h0, .inr (10, [.int 0, .int 0, .null, .ref q_1, .ref q_2, .ref q_3, .ref q_4, .ref q_5, .ref q_6, .ref q_7, .ref q_8, .int 0, .ref q_9, .ref q_10, .ref q_11, .ref q_12])), (q_12, .inl (ca 1, 1, .inl (fun _ => 0)))] H := hP
  have hD : va_D A [(h0, .inr (10, [.int 0, .int 0, .null, .ref q_1, .ref q_2, .ref q_3, .ref q_4, .ref q_5, .ref q_6, .ref q_7, .ref q_8, .int 0, .ref q_9, .ref q_10, .ref q_11, .ref q_12])), (q_12, .inl (ca 1, 1, .inl (fun _ => 0)))] := hD
  have hP := hP.sub (ws' := [(h0, .inr (10, [.int 0, .int 0, .null, .ref q_1, .ref q_2, .ref q_3, .ref q_4, .ref q_5, .ref q_6, .ref q_7, .ref q_8, .int 0, .ref q_9, .ref q_10, .ref q_11, .ref q_12]))]) [0] rfl
  have hD := hD.sub (ws' := [(h0, .inr (10, [.int 0, .int 0, .null, .ref q_1, .ref q_2, .ref q_3, .ref q_4, .ref q_5, .ref q_6, .ref q_7, .ref q_8, .int 0, .ref q_9, .ref q_10, .ref q_11, .ref q_12]))]) [0] (by decide) rfl
  exact ax_vret hx hb hr hlocks hP hD hS [.int 0, .int 0, .null, .ref q_1, .ref q_2, .ref q_3, .ref q_4, .ref q_5, .ref q_6, .ref q_7, .ref q_8, .int 0, .ref q_9, .ref q_10, .ref q_11, .ref q_12] rfl [0] rfl (by decide) rfl (Nat.le_of_ble_eq_true rfl) (Nat.le_of_ble_eq_true rfl) d_SK_init_88
theorem d_SN_init_0 : decode b_SN_init 0 = .ok (.aload_n 0, 1) := by decide +kernel
theorem d_SN_init_1 : decode b_SN_init 1 = .ok (.invokespecial 3, 3) := by decide +kernel
theorem d_SN_init_4 : decode b_SN_init 4 = .ok (.aload_n 0, 1) := by decide +kernel
theorem d_SN_init_5 : decode b_SN_init 5 = .ok (.sipush 128, 3) := by decide +kernel
theorem d_SN_init_8 : decode b_SN_init 8 = .ok (.newarray .int, 2) := by decide +kernel
theorem d_SN_init_10 : decode b_SN_init 10 = .ok (.putfield 11, 3) := by decide +kernel
theorem d_SN_init_13 : decode b_SN_init 13 = .ok (.return_, 1) := by decide +kernel
set_option maxHeartbeats 4000000 in
set_option maxRecDepth 100000 in
theorem c_SN_init (l : Launch) (dC : Nat → ClassId) (dI : Nat → Nat → Nat) (ca : Nat → ClassId) (h0 : Nat) : CT l classes (dC, dI) (sK dC dI ca) sk y_SN_init b_SN_init 1 none 1 12 1 128 [.ref h0] [(h0, .inr (11, [.null, .int 0]))] (fun (v : Option Value) (_ : List Value) => v = none) (fun (fs : List Value) => [(h0, .inr (11, fs))]) := by
  refine ax_of (by decide) (Nat.le_of_ble_eq_true rfl) ?_
  intro p e s m below meth c A ls hAt hK hP hD hS hA hl
  obtain ⟨hx, hb, hr, hml, hown, hts, hlocks, hin⟩ := hAt
  have hin : meth.name = "<init>" := hin
  have hl : lv_has ls 1 [(0, .ref h0)] := hl
  refine lv_aload_n hx hb d_SN_init_0 rfl (lv_at hl 0 rfl) ?_
  refine W.objInit hx hb hown (hts _ xs_75) (hts _ xs_22) (hts _ xs_23) rfl (by rw [hml]; exact hl.1) rfl d_SN_init_1 (Nat.le_of_ble_eq_true rfl) (Nat.le_of_ble_eq_true rfl) ?_
  refine W.eq (g2 := F0 m 4 ls []) rfl ?_
  refine lv_aload_n hx hb d_SN_init_4 rfl (lv_at hl 0 rfl) ?_
  refine lv_sipush (v := 128) hx hb d_SN_init_5 (by decide +kernel) ?_
  refine ax_newa (atype := .int) (ty := .int) (n := 128) (N' := 128) (a0 := (128, .inl (fun _ => 0))) hx hb (hts _ xs_35) rfl hK.1 1 rfl (fun C h => by cases h) hP hD hS hA (fun _ => rfl) (by decide +kernel) (by decide +kernel) (by decide +kernel) (Nat.le_of_ble_eq_true rfl) (Nat.le_of_ble_eq_true rfl) d_SN_init_8 (fun q_1 H hP hD hS => ?_)
  have hP : va_P (dC, dI) classes [(h0, .inr (11, [.null, .int 0])), (q_1, .inl (ca 1, 128, .inl (fun _ => 0)))] H := hP
  have hD : va_D A [(h0, .inr (11, [.null, .int 0])), (q_1, .inl (ca 1, 128, .inl (fun _ => 0)))] := hD
  refine W.widen (k := 1) (n := 128) (Nat.le_of_ble_eq_true rfl) (Nat.le_of_ble_eq_true rfl) ?_
  refine va_put (D := (dC, dI)) (ci := 11) (v := .ref q_1) (ty := .array (.int)) (C := R_SN) (T := F_SN) (N := 2) hx hb hts i_SN t_SN t_SN_ok n_SN hown hK.1 hP hD hS 0 rfl rfl 0 (by decide) (hts _ xs_76) (fun _ h9 => h9) rfl (by decide +kernel) rfl rfl (Nat.le_of_ble_eq_true rfl) d_SN_init_10 (fun H locs hP hD hS => ?_)
  have hP : va_P (dC, dI) classes [(h0, .inr (11, [.ref q_1, .int 0])), (q_1, .inl (ca 1, 128, .inl (fun _ => 0)))] H := hP
  have hD : va_D A [(h0, .inr (11, [.ref q_1, .int 0])), (q_1, .inl (ca 1, 128, .inl (fun _ => 0)))] := hD
  have hP := hP.sub (ws' := [(h0, .inr (11, [.ref q_1, .int 0]))]) [0] rfl
  have hD := hD.sub (ws' := [(h0, .inr (11, [.ref q_1, .int 0]))]) [0] (by decide) rfl
  exact ax_vret hx hb hr hlocks hP hD hS [.ref q_1, .int 0] rfl [0] rfl (by decide) rfl (Nat.le_of_ble_eq_true rfl) (Nat.le_of_ble_eq_true rfl) d_SN_init_13
theorem d_SM_init_0 : decode b_SM_init 0 = .ok (.aload_n 0, 1) := by decide +kernel
theorem d_SM_init_1 : decode b_SM_init 1 = .ok (.invokespecial 3, 3) := by decide +kernel
theorem d_SM_init_4 : decode b_SM_init 4 = .ok (.aload_n 0, 1) := by decide +kernel
theorem d_SM_init_5 : decode b_SM_init 5 = .ok (.bipush 48, 2) := by decide +kernel
theorem d_SM_init_7 : decode b_SM_init 7 = .ok (.newarray .int, 2) := by decide +kernel
theorem d_SM_init_9 : decode b_SM_init 9 = .ok (.putfield 11, 3) := by decide +kernel
theorem d_SM_init_12 : decode b_SM_init 12 = .ok (.aload_n 0, 1) := by decide +kernel
theorem d_SM_init_13 : decode b_SM_init 13 = .ok (.bipush 17, 2) := by decide +kernel
theorem d_SM_init_15 : decode b_SM_init 15 = .ok (.newarray .int, 2) := by decide +kernel
theorem d_SM_init_17 : decode b_SM_init 17 = .ok (.putfield 15, 3) := by decide +kernel
theorem d_SM_init_20 : decode b_SM_init 20 = .ok (.aload_n 0, 1) := by decide +kernel
theorem d_SM_init_21 : decode b_SM_init 21 = .ok (.bipush 16, 2) := by decide +kernel
theorem d_SM_init_23 : decode b_SM_init 23 = .ok (.newarray .int, 2) := by decide +kernel
theorem d_SM_init_25 : decode b_SM_init 25 = .ok (.putfield 18, 3) := by decide +kernel
theorem d_SM_init_28 : decode b_SM_init 28 = .ok (.aload_n 0, 1) := by decide +kernel
theorem d_SM_init_29 : decode b_SM_init 29 = .ok (.bipush 24, 2) := by decide +kernel
theorem d_SM_init_31 : decode b_SM_init 31 = .ok (.newarray .int, 2) := by decide +kernel
theorem d_SM_init_33 : decode b_SM_init 33 = .ok (.putfield 21, 3) := by decide +kernel
theorem d_SM_init_36 : decode b_SM_init 36 = .ok (.aload_n 0, 1) := by decide +kernel
theorem d_SM_init_37 : decode b_SM_init 37 = .ok (.bipush 8, 2) := by decide +kernel
theorem d_SM_init_39 : decode b_SM_init 39 = .ok (.newarray .long, 2) := by decide +kernel
theorem d_SM_init_41 : decode b_SM_init 41 = .ok (.putfield 24, 3) := by decide +kernel
theorem d_SM_init_44 : decode b_SM_init 44 = .ok (.aload_n 0, 1) := by decide +kernel
theorem d_SM_init_45 : decode b_SM_init 45 = .ok (.bipush 64, 2) := by decide +kernel
theorem d_SM_init_47 : decode b_SM_init 47 = .ok (.newarray .byte, 2) := by decide +kernel
theorem d_SM_init_49 : decode b_SM_init 49 = .ok (.putfield 28, 3) := by decide +kernel
theorem d_SM_init_52 : decode b_SM_init 52 = .ok (.aload_n 0, 1) := by decide +kernel
theorem d_SM_init_53 : decode b_SM_init 53 = .ok (.bipush 64, 2) := by decide +kernel
theorem d_SM_init_55 : decode b_SM_init 55 = .ok (.newarray .byte, 2) := by decide +kernel
theorem d_SM_init_57 : decode b_SM_init 57 = .ok (.putfield 32, 3) := by decide +kernel
theorem d_SM_init_60 : decode b_SM_init 60 = .ok (.aload_n 0, 1) := by decide +kernel
theorem d_SM_init_61 : decode b_SM_init 61 = .ok (.bipush 16, 2) := by decide +kernel
theorem d_SM_init_63 : decode b_SM_init 63 = .ok (.newarray .int, 2) := by decide +kernel
theorem d_SM_init_65 : decode b_SM_init 65 = .ok (.putfield 35, 3) := by decide +kernel
theorem d_SM_init_68 : decode b_SM_init 68 = .ok (.aload_n 0, 1) := by decide +kernel
theorem d_SM_init_69 : decode b_SM_init 69 = .ok (.bipush 64, 2) := by decide +kernel
theorem d_SM_init_71 : decode b_SM_init 71 = .ok (.newarray .byte, 2) := by decide +kernel
theorem d_SM_init_73 : decode b_SM_init 73 = .ok (.putfield 38, 3) := by decide +kernel
theorem d_SM_init_76 : decode b_SM_init 76 = .ok (.return_, 1) := by decide +kernel
set_option maxHeartbeats 4000000 in
set_option maxRecDepth 100000 in
theorem c_SM_init (l : Launch) (dC : Nat → ClassId) (dI : Nat → Nat → Nat) (ca : Nat → ClassId) (h0 : Nat) : CT l classes (dC, dI) (sK dC dI ca) sk y_SM_init b_SM_init 1 none 1 12 9 321 [.ref h0] [(h0, .inr (14, [.null, .int 0, .null, .null, .int 0, .null, .int 0, .int 0, .null, .int 0, .null, .int 0, .int 0, .int 0, .null, .int 0, .null, .int 0, .null, .int 0]))] (fun (v : Option Value) (_ : List Value) => v = none) (fun (fs : List Value) => [(h0, .inr (14, fs))]) := by
  refine ax_of (by decide) (Nat.le_of_ble_eq_true rfl) ?_
  intro p e s m below meth c A ls hAt hK hP hD hS hA hl
  obtain ⟨hx, hb, hr, hml, hown, hts, hlocks, hin⟩ := hAt
  have hin : meth.name = "<init>" := hin
  have hl : lv_has ls 1 [(0, .ref h0)] := hl
  refine lv_aload_n hx hb d_SM_init_0 rfl (lv_at hl 0 rfl) ?_
  refine W.objInit hx hb hown (hts _ xs_101) (hts _ xs_22) (hts _ xs_23) rfl (by rw [hml]; exact hl.1) rfl d_SM_init_1 (Nat.le_of_ble_eq_true rfl) (Nat.le_of_ble_eq_true rfl) ?_
  refine W.eq (g2 := F0 m 4 ls []) rfl ?_
  refine lv_aload_n hx hb d_SM_init_4 rfl (lv_at hl 0 rfl) ?_
  refine lv_bipush (v := 48) hx hb d_SM_init_5 (by decide +kernel) ?_
  refine ax_newa (atype := .int) (ty := .int) (n := 48) (N' := 48) (a0 := (48, .inl (fun _ => 0))) hx hb (hts _ xs_35) rfl hK.1 1 rfl (fun C h => by cases h) hP hD hS hA (fun _ => rfl) (by decide +kernel) (by decide +kernel) (by decide +kernel) (Nat.le_of_ble_eq_true rfl) (Nat.le_of_ble_eq_true rfl) d_SM_init_7 (fun q_1 H hP hD hS => ?_)
  have hP : va_P (dC, dI) classes [(h0, .inr (14, [.null, .int 0, .null, .null, .int 0, .null, .int 0, .int 0, .null, .int 0, .null, .int 0, .int 0, .int 0, .null, .int 0, .null, .int 0, .null, .int 0])), (q_1, .inl (ca 1, 48, .inl (fun _ => 0)))] H := hP
  have hD : va_D A [(h0, .inr (14, [.null, .int 0, .null, .null, .int 0, .null, .int 0, .int 0, .null, .int 0, .null, .int 0, .int 0, .int 0, .null, .int 0, .null, .int 0, .null, .int 0])), (q_1, .inl (ca 1, 48, .inl (fun _ => 0)))] := hD
  refine W.widen (k := 1) (n := 48) (Nat.le_of_ble_eq_true rfl) (Nat.le_of_ble_eq_true rfl) ?_
  refine va_put (D := (dC, dI)) (ci := 14) (v := .ref q_1) (ty := .array (.int)) (C := R_SM) (T := F_SM) (N := 20) hx hb hts i_SM t_SM t_SM_ok n_SM hown hK.1 hP hD hS 0 rfl rfl 0 (by decide) (hts _ xs_102) (fun _ h9 => h9) rfl (by decide +kernel) rfl rfl (Nat.le_of_ble_eq_true rfl) d_SM_init_9 (fun H locs hP hD hS => ?_)
  have hP : va_P (dC, dI) classes [(h0, .inr (14, [.ref q_1, .int 0, .null, .null, .int 0, .null, .int 0, .int 0, .null, .int 0, .null, .int 0, .int 0, .int 0, .null, .int 0, .null, .int 0, .null, .int 0])), (q_1, .inl (ca 1, 48, .inl (fun _ => 0)))] H := hP
  have hD : va_D A [(h0, .inr (14, [.ref q_1, .int 0, .null, .null, .int 0, .null, .int 0, .int 0, .null, .int 0, .null, .int 0, .int 0, .int 0, .null, .int 0, .null, .int 0, .null, .int 0])), (q_1, .inl (ca 1, 48, .inl (fun _ => 0)))] := hD
  have hP := hP.sub (ws' := [(h0, .inr (14, [.ref q_1, .int 0, .null, .null, .int 0, .null, .int 0, .int 0, .null, .int 0, .null, .int 0, .int 0, .int 0, .null, .int 0, .null, .int 0, .null, .int 0]))]) [0] rfl
  have hD := hD.sub (ws' := [(h0, .inr (14, [.ref q_1, .int 0, .null, .null, .int 0, .null, .int 0, .int 0, .null, .int 0, .null, .int 0, .int 0, .int 0, .null, .int 0, .null, .int 0, .null, .int 0]))]) [0] (by decide) rfl
  refine lv_aload_n hx hb d_SM_init_12 rfl (lv_at hl 0 rfl) ?_
  refine lv_bipush (v := 17) hx hb d_SM_init_13 (by decide +kernel) ?_
  refine ax_newa (atype := .int) (ty := .int) (n := 17) (N' := 17) (a0 := (17, .inl (fun _ => 0))) hx hb (hts _ xs_35) rfl hK.1 1 rfl (fun C h => by cases h) hP hD hS hA (fun _ => rfl) (by decide +kernel) (by decide +kernel) (by decide +kernel) (Nat.le_of_ble_eq_true rfl) (Nat.le_of_ble_eq_true rfl) d_SM_init_15 (fun q_2 H hP hD hS => ?_)
  have hP : va_P (dC, dI) classes [(h0, .inr (14, [.ref q_1, .int 0, .null, .null, .int 0, .null, .int 0, .int 0, .null, .int 0, .null, .int 0, .int 0, .int 0, .null, .int 0, .null, .int 0, .null, .int 0])), (q_2, .inl (ca 1, 17, .inl (fun _ => 0)))] H := hP
  have hD : va_D A [(h0, .inr (14, [.ref q_1, .int 0, .null, .null, .int 0, .null, .int 0, .int 0, .null, .int 0, .null, .int 0, .int 0, .int 0, .null, .int 0, .null, .int 0, .null, .int 0])), (q_2, .inl (ca 1, 17, .inl (fun _ => 0)))] := hD
  refine W.widen (k := 2) (n := 65) (Nat.le_of_ble_eq_true rfl) (Nat.le_of_ble_eq_true rfl) ?_
  refine va_put (D := (dC, dI)) (ci := 14) (v := .ref q_2) (ty := .array (.int)) (C := R_SM) (T := F_SM) (N := 20) hx hb hts i_SM t_SM t_SM_ok n_SM hown hK.1 hP hD hS 0 rfl rfl 2 (by decide) (hts _ xs_103) (fun _ h9 => h9) rfl (by decide +kernel) rfl rfl (Nat.le_of_ble_eq_true rfl) d_SM_init_17 (fun H locs hP hD hS => ?_)
  have hP : va_P (dC, dI) classes [(h0, .inr (14, [.ref q_1, .int 0, .ref q_2, .null, .int 0, .null, .int 0, .int 0, .null, .int 0, .null, .int 0, .int 0, .int 0, .null, .int 0, .null, .int 0, .null, .int 0])), (q_2, .inl (ca 1, 17, .inl (fun _ => 0)))] H := hP
  have hD : va_D A [(h0, .inr (14, [.ref q_1, .int 0, .ref q_2, .null, .int 0, .null, .int 0, .int 0, .null, .int 0, .null, .int 0, .int 0, .int 0, .null, .int 0, .null, .int 0, .null, .int 0])), (q_2, .inl (ca 1, 17, .inl (fun _ => 0)))] := hD
  have hP := hP.sub (ws' := [(h0, .inr (14, [.ref q_1, .int 0, .ref q_2, .null, .int 0, .null, .int 0, .int 0, .null, .int 0, .null, .int 0, .int 0, .int 0, .null, .int 0, .null, .int 0, .null, .int 0]))]) [0] rfl
  have hD := hD.sub (ws' := [(h0, .inr (14, [.ref q_1, .int 0, .ref q_2, .null, .int 0, .null, .int 0, .int 0, .null, .int 0, .null, .int 0, .int 0, .int 0, .null, .int 0, .null, .int 0, .null, .int 0]))]) [0] (by decide) rfl
  refine lv_aload_n hx hb d_SM_init_20 rfl (lv_at hl 0 rfl) ?_
  refine lv_bipush (v := 16) hx hb d_SM_init_21 (by decide +kernel) ?_
  refine ax_newa (atype := .int) (ty := .int) (n := 16) (N' := 16) (a0 := (16, .inl (fun _ => 0))) hx hb (hts _ xs_35) rfl hK.1 1 rfl (fun C h => by cases h) hP hD hS hA (fun _ => rfl) (by decide +kernel) (by decide +kernel) (by decide +kernel) (Nat.le_of_ble_eq_true rfl) (Nat.le_of_ble_eq_true rfl) d_SM_init_23 (fun q_3 H hP hD hS => ?_)
  have hP : va_P (dC, dI) classes [(h0, .inr (14, [.ref q_1, .int 0, .ref q_2, .null, .int 0, .null, .int 0, .int 0, .null, .int 0, .null, .int 0, .int 0, .int 0, .null, .int 0, .null, .int 0, .null, .int 0])), (q_3, .inl (ca 1, 16, .inl (fun _ => 0)))] H := hP
  have hD : va_D A [(h0, .inr (14, [.ref q_1, .int 0, .ref q_2, .null, .int 0, .null, .int 0, .int 0, .null, .int 0, .null, .int 0, .int 0, .int 0, .null, .int 0, .null, .int 0, .null, .int 0])), (q_3, .inl (ca 1, 16, .inl (fun _ => 0)))] := hD
  refine W.widen (k := 3) (n := 81) (Nat.le_of_ble_eq_true rfl) (Nat.le_of_ble_eq_true rfl) ?_
  refine va_put (D := (dC, dI)) (ci := 14) (v := .ref q_3) (ty := .array (.int)) (C := R_SM) (T := F_SM) (N := 20) hx hb hts i_SM t_SM t_SM_ok n_SM hown hK.1 hP hD hS 0 rfl rfl 3 (by decide) (hts _ xs_104) (fun _ h9 => h9) rfl (by decide +kernel) rfl rfl (Nat.le_of_ble_eq_true rfl) d_SM_init_25 (fun H locs hP hD hS => ?_)
  have hP : va_P (dC, dI) classes [(h0, .inr (14, [.ref q_1, .int 0, .ref q_2, .ref q_3, .int 0, .null, .int 0, .int 0, .null, .int 0, .null, .int 0, .int 0, .int 0, .null, .int 0, .null, .int 0, .null, .int 0])), (q_3, .inl (ca 1, 16, .inl (fun _ => 0)))] H := hP
  have hD : va_D A [(h0, .inr (14, [.ref q_1, .int 0, .ref q_2, .ref q_3, .int 0, .null, .int 0, .int 0, .null, .int 0, .null, .int 0, .int 0, .int 0, .null, .int 0, .null, .int 0, .null, .int 0])), (q_3, .inl (ca 1, 16, .inl (fun _ => 0)))] := hD
  have hP := hP.sub (ws' := [(h0, .inr (14, [.ref q_1, .int 0, .ref q_2, .ref q_3, .int 0, .null, .int 0, .int 0, .null, .int 0, .null, .int 0, .int 0, .int 0, .null, .int 0, .null, .int 0, .null, .int 0]))]) [0] rfl
  have hD := hD.sub (ws' := [(h0, .inr (14, [.ref q_1, .int 0, .ref q_2, .ref q_3, .int 0, .null, .int 0, .int 0, .null, .int 0, .null, .int 0, .int 0, .int 0, .null, .int 0, .null, .int 0, .null, .int 0]))]) [0] (by decide) rfl
  refine lv_aload_n hx hb d_SM_init_28 rfl (lv_at hl 0 rfl) ?_
  refine lv_bipush (v := 24) hx hb d_SM_init_29 (by decide +kernel) ?_
  refine ax_newa (atype := .int) (ty := .int) (n := 24) (N' := 24) (a0 := (24, .inl (fun _ => 0))) hx hb (hts _ xs_35) rfl hK.1 1 rfl (fun C h => by cases h) hP hD hS hA (fun _ => rfl) (by decide +kernel) (by decide +kernel) (by decide +kernel) (Nat.le_of_ble_eq_true rfl) (Nat.le_of_ble_eq_true rfl) d_SM_init_31 (fun q_4 H hP hD hS => ?_)
  have hP : va_P (dC, dI) classes [(h0, .inr (14, [.ref q_1, .int 0, .ref q_2, .ref q_3, .int 0, .null, .int 0, .int 0, .null, .int 0, .null, .int 0, .int 0, .int 0, .null, .int 0, .null, .int 0, .null, .int 0])), (q_4, .inl (ca 1, 24, .inl (fun _ => 0)))] H := hP
  have hD : va_D A [(h0, .inr (14, [.ref q_1, .int 0, .ref q_2, .ref q_3, .int 0, .null, .int 0, .int 0, .null, .int 0, .null, .int 0, .int 0, .int 0, .null, .int 0, .null, .int 0, .null, .int 0])), (q_4, .inl (ca 1, 24, .inl (fun _ => 0)))] := hD
  refine W.widen (k := 4) (n := 105) (Nat.le_of_ble_eq_true rfl) (Nat.le_of_ble_eq_true rfl) ?_
  refine va_put (D := (dC, dI)) (ci := 14) (v := .ref q_4) (ty := .array (.int)) (C := R_SM) (T := F_SM) (N := 20) hx hb hts i_SM t_SM t_SM_ok n_SM hown hK.1 hP hD hS 0 rfl rfl 5 (by decide) (hts _ xs_105) (fun _ h9 => h9) rfl (by decide +kernel) rfl rfl (Nat.le_of_ble_eq_true rfl) d_SM_init_33 (fun H locs hP hD hS => ?_)
  have hP : va_P (dC, dI) classes [(h0, .inr (14, [.ref q_1, .int 0, .ref q_2, .ref q_3, .int 0, .ref q_4, .int 0, .int 0, .null, .int 0, .null, .int 0, .int 0, .int 0, .null, .int 0, .null, .int 0, .null, .int 0])), (q_4, .inl (ca 1, 24, .inl (fun _ => 0)))] H := hP
  have hD : va_D A [(h0, .inr (14, [.ref q_1, .int 0, .ref q_2, .ref q_3, .int 0, .ref q_4, .int 0, .int 0, .null, .int 0, .null, .int 0, .int 0, .int 0, .null, .int 0, .null, .int 0, .null, .int 0])), (q_4, .inl (ca 1, 24, .inl (fun _ => 0)))] := hD
  have hP := hP.sub (ws' := [(h0, .inr (14, [.ref q_1, .int 0, .ref q_2, .ref q_3, .int 0, .ref q_4, .int 0, .int 0, .null, .int 0, .null, .int 0, .int 0, .int 0, .null, .int 0, .null, .int 0, .null, .int 0]))]) [0] rfl
  have hD := hD.sub (ws' := [(h0, .inr (14, [.ref q_1, .int 0, .ref q_2, .ref q_3, .int 0, .ref q_4, .int 0, .int 0, .null, .int 0, .null, .int 0, .int 0, .int 0, .null, .int 0, .null, .int 0, .null, .int 0]))]) [0] (by decide) rfl
  refine lv_aload_n hx hb d_SM_init_36 rfl (lv_at hl 0 rfl) ?_
  refine lv_bipush (v := 8) hx hb d_SM_init_37 (by decide +kernel) ?_
  refine ax_newa (atype := .long) (ty := .long) (n := 8) (N' := 8) (a0 := (8, .inr (.inl (fun _ => 0)))) hx hb (hts _ xs_51) rfl hK.1 2 rfl (fun C h => by cases h) hP hD hS hA (fun _ => rfl) (by decide +kernel) (by decide +kernel) (by decide +kernel) (Nat.le_of_ble_eq_true rfl) (Nat.le_of_ble_eq_true rfl) d_SM_init_39 (fun q_5 H hP hD hS => ?_)
  have hP : va_P (dC, dI) classes [(h0, .inr (14, [.ref q_1, .int 0, .ref q_2, .ref q_3, .int 0, .ref q_4, .int 0, .int 0, .null, .int 0, .null, .int 0, .int 0, .int 0, .null, .int 0, .null, .int 0, .null, .int 0])), (q_5, .inl (ca 2, 8, .inr (.inl (fun _ => 0))))] H := hP
  have hD : va_D A [(h0, .inr (14, [.ref q_1, .int 0, .ref q_2, .ref q_3, .int 0, .ref q_4, .int 0, .int 0, .null, .int 0, .null, .int 0, .int 0, .int 0, .null, .int 0, .null, .int 0, .null, .int 0])), (q_5, .inl (ca 2, 8, .inr (.inl (fun _ => 0))))] := hD
  refine W.widen (k := 5) (n := 113) (Nat.le_of_ble_eq_true rfl) (Nat.le_of_ble_eq_true rfl) ?_
  refine va_put (D := (dC, dI)) (ci := 14) (v := .ref q_5) (ty := .array (.long)) (C := R_SM) (T := F_SM) (N := 20) hx hb hts i_SM t_SM t_SM_ok n_SM hown hK.1 hP hD hS 0 rfl rfl 8 (by decide) (hts _ xs_106) (fun _ h9 => h9) rfl (by decide +kernel) rfl rfl (Nat.le_of_ble_eq_true rfl) d_SM_init_41 (fun H locs hP hD hS => ?_)
  have hP : va_P (dC, dI) classes [(h0, .inr (14, [.ref q_1, .int 0, .ref q_2, .ref q_3, .int 0, .ref q_4, .int 0, .int 0, .ref q_5, .int 0, .null, .int 0, .int 0, .int 0, .null, .int 0, .null, .int 0, .null, .int 0])), (q_5, .inl (ca 2, 8, .inr (.inl (fun _ => 0))))] H := hP
  have hD : va_D A [(h0, .inr (14, [.ref q_1, .int 0, .ref q_2, .ref q_3, .int 0, .ref q_4, .int 0, .int 0, .ref q_5, .int 0, .null, .int 0, .int 0, .int 0, .null, .int 0, .null, .int 0, .null, .int 0])), (q_5, .inl (ca 2, 8, .inr (.inl (fun _ => 0))))] := hD
  have hP := hP.sub (ws' := [(h0, .inr (14, [.ref q_1, .int 0, .ref q_2, .ref q_3, .int 0, .ref q_4, .int 0, .int 0, .ref q_5, .int 0, .null, .int 0, .int 0, .int 0, .null, .int 0, .null, .int 0, .null, .int 0]))]) [0] rfl
  have hD := hD.sub (ws' := [(h0, .inr (14, [.ref q_1, .int 0, .ref q_2, .ref q_3, .int 0, .ref q_4, .int 0, .int 0, .ref q_5, .int 0, .null, .int 0, .int 0, .int 0, .null, .int 0, .null, .int 0, .null, .int 0]))]) [0] (by decide) rfl
  refine lv_aload_n hx hb d_SM_init_44 rfl (lv_at hl 0 rfl) ?_
  refine lv_bipush (v := 64) hx hb d_SM_init_45 (by decide +kernel) ?_
  refine ax_newa (atype := .byte) (ty := .byte) (n := 64) (N' := 64) (a0 := (64, .inl (fun _ => 0))) hx hb (hts _ xs_34) rfl hK.1 0 rfl (fun C h => by cases h) hP hD hS hA (fun _ => rfl) (by decide +kernel) (by decide +kernel) (by decide +kernel) (Nat.le_of_ble_eq_true rfl) (Nat.le_of_ble_eq_true rfl) d_SM_init_47 (fun q_6 H hP hD hS => ?_)
  have hP : va_P (dC, dI) classes [(h0, .inr (14, [.ref q_1, .int 0, .ref q_2, .ref q_3, .int 0, .ref q_4, .int 0, .int 0, .ref q_5, .int 0, .null, .int 0, .int 0, .int 0, .null, .int 0, .null, .int 0, .null, .int 0])), (q_6, .inl (ca 0, 64, .inl (fun _ => 0)))] H := hP
  have hD : va_D A [(h0, .inr (14, [.ref q_1, .int 0, .ref q_2, .ref q_3, .int 0, .ref q_4, .int 0, .int 0, .ref q_5, .int 0, .null, .int 0, .int 0, .int 0, .null, .int 0, .null, .int 0, .null, .int 0])), (q_6, .inl (ca 0, 64, .inl (fun _ => 0)))] := hD
  refine W.widen (k := 6) (n := 177) (Nat.le_of_ble_eq_true rfl) (Nat.le_of_ble_eq_true rfl) ?_
  refine va_put (D := (dC, dI)) (ci := 14) (v := .ref q_6) (ty := .array (.byte)) (C := R_SM) (T := F_SM) (N := 20) hx hb hts i_SM t_SM t_SM_ok n_SM hown hK.1 hP hD hS 0 rfl rfl 10 (by decide) (hts _ xs_107) (fun _ h9 => h9) rfl (by decide +kernel) rfl rfl (Nat.le_of_ble_eq_true rfl) d_SM_init_49 (fun H locs hP hD hS => ?_)
  have hP : va_P (dC, dI) classes [(h0, .inr (14, [.ref q_1, .int 0, .ref q_2, .ref q_3, .int 0, .ref q_4, .int 0, .int 0, .ref q_5, .int 0, .ref q_6, .int 0, .int 0, .int 0, .null, .int 0, .null, .int 0, .null, .int 0])), (q_6, .inl (ca 0, 64, .inl (fun _ => 0)))] H := hP
  have hD : va_D A [(h0, .inr (14, [.ref q_1, .int 0, .ref q_2, .ref q_3, .int 0, .ref q_4, .int 0, .int 0, .ref q_5, .int 0, .ref q_6, .int 0, .int 0, .int 0, .null, .int 0, .null, .int 0, .null, .int 0])), (q_6, .inl (ca 0, 64, .inl (fun _ => 0)))] := hD
  have hP := hP.sub (ws' := [(h0, .inr (14, [.ref q_1, .int 0, .ref q_2, .ref q_3, .int 0, .ref q_4, .int 0, .int 0, .ref q_5, .int 0, .ref q_6, .int 0, .int 0, .int 0, .null, .int 0, .null, .int 0, .null, .int 0]))]) [0] rfl
  have hD := hD.sub (ws' := [(h0, .inr (14, [.ref q_1, .int 0, .ref q_2, .ref q_3, .int 0, .ref q_4, .int 0, .int 0, .ref q_5, .int 0, .ref q_6, .int 0, .int 0, .int 0, .null, .int 0, .null, .int 0, .null, .int 0]))]) [0] (by decide) rfl
  refine lv_aload_n hx hb d_SM_init_52 rfl (lv_at hl 0 rfl) ?_
  refine lv_bipush (v := 64) hx hb d_SM_init_53 (by decide +kernel) ?_
  refine ax_newa (atype := .byte) (ty := .byte) (n := 64) (N' := 64) (a0 := (64, .inl (fun _ => 0))) hx hb (hts _ xs_34) rfl hK.1 0 rfl (fun C h => by cases h) hP hD hS hA (fun _ => rfl) (by decide +kernel) (by decide +kernel) (by decide +kernel) (Nat.le_of_ble_eq_true rfl) (Nat.le_of_ble_eq_true rfl) d_SM_init_55 (fun q_7 H hP hD hS => ?_)
  have hP : va_P (dC, dI) classes [(h0, .inr (14, [.ref q_1, .int 0, .ref q_2, .ref q_3, .int 0, .ref q_4, .int 0, .int 0, .ref q_5, .int 0, .ref q_6, .int 0, .int 0, .int 0, .null, .int 0, .null, .int 0, .null, .int 0])), (q_7, .inl (ca 0, 64, .inl (fun _ => 0)))] H := hP
  have hD : va_D A [(h0, .inr (14, [.ref q_1, .int 0, .ref q_2, .ref q_3, .int 0, .ref q_4, .int 0, .int 0, .ref q_5, .int 0, .ref q_6, .int 0, .int 0, .int 0, .null, .int 0, .null, .int 0, .null, .int 0])), (q_7, .inl (ca 0, 64, .inl (fun _ => 0)))] := hD
  refine W.widen (k := 7) (n := 241) (Nat.le_of_ble_eq_true rfl) (Nat.le_of_ble_eq_true rfl) ?_
  refine va_put (D := (dC, dI)) (ci := 14) (v := .ref q_7) (ty := .array (.byte)) (C := R_SM) (T := F_SM) (N := 20) hx hb hts i_SM t_SM t_SM_ok n_SM hown hK.1 hP hD hS 0 rfl rfl 14 (by decide) (hts _ xs_108) (fun _ h9 => h9) rfl (by decide +kernel) rfl rfl (Nat.le_of_ble_eq_true rfl) d_SM_init_57 (fun H locs hP hD hS => ?_)
  have hP : va_P (dC, dI) classes [(h0, .inr (14, [.ref q_1, .int 0, .ref q_2, .ref q_3, .int 0, .ref q_4, .int 0, .int 0, .ref q_5, .int 0, .ref q_6, .int 0, .int 0, .int 0, .ref q_7, .int 0, .null, .int 0, .null, .int 0])), (q_7, .inl (ca 0, 64, .inl (fun _ => 0)))] H := hP
  have hD : va_D A [(h0, .inr (14, [.ref q_1, .int 0, .ref q_2, .ref q_3, .int 0, .ref q_4, .int 0, .int 0, .ref q_5, .int 0, .ref q_6, .int 0, .int 0, .int 0, .ref q_7, .int 0, .null, .int 0, .null, .int 0])), (q_7, .inl (ca 0, 64, .inl (fun _ => 0)))] := hD
  have hP := hP.sub (ws' := [(h0, .inr (14, [.ref q_1, .int 0, .ref q_2, .ref q_3, .int 0, .ref q_4, .int 0, .int 0, .ref q_5, .int 0, .ref q_6, .int 0, .int 0, .int 0, .ref q_7, .int 0, .null, .int 0, .null, .int 0]))]) [0] rfl
  have hD := hD.sub (ws' := [(h0, .inr (14, [.ref q_1, .int 0, .ref q_2, .ref q_3, .int 0, .ref q_4, .int 0, .int 0, .ref q_5, .int 0, .ref q_6, .int 0, .int 0, .int 0, .ref q_7, .int 0, .null, .int 0, .null, .int 0]))]) [0] (by decide) rfl
  refine lv_aload_n hx hb d_SM_init_60 rfl (lv_at hl 0 rfl) ?_
  refine lv_bipush (v := 16) hx hb d_SM_init_61 (by decide +kernel) ?_
  refine ax_newa (atype := .int) (ty := .int) (n := 16) (N' := 16) (a0 := (16, .inl (fun _ => 0))) hx hb (hts _ xs_35) rfl hK.1 1 rfl (fun C h => by cases h) hP hD hS hA (fun _ => rfl) (by decide +kernel) (by decide +kernel) (by decide +kernel) (Nat.le_of_ble_eq_true rfl) (Nat.le_of_ble_eq_true rfl) d_SM_init_63 (fun q_8 H hP hD hS => ?_)
  have hP : va_P (dC, dI) classes [(h0, .inr (14, [.ref q_1, .int 0, .ref q_2, .ref q_3, .int 0, .ref q_4, .int 0, .int 0, .ref q_5, .int 0, .ref q_6, .int 0, .int 0, .int 0, .ref q_7, .int 0, .null, .int 0, .null, .int 0])), (q_8, .inl (ca 1, 16, .inl (fun _ => 0)))] H := hP
  have hD : va_D A [(h0, .inr (14, [.ref q_1, .int 0, .ref q_2, .ref q_3, .int 0, .ref q_4, .int 0, .int 0, .ref q_5, .int 0, .ref q_6, .int 0, .int 0, .int 0, .ref q_7, .int 0, .null, .int 0, .null, .int 0])), (q_8, .inl (ca 1, 16, .inl (fun _ => 0)))] := hD
  refine W.widen (k := 8) (n := 257) (Nat.le_of_ble_eq_true rfl) (Nat.le_of_ble_eq_true rfl) ?_
  refine va_put (D := (dC, dI)) (ci := 14) (v := .ref q_8) (ty := .array (.int)) (C := R_SM) (T := F_SM) (N := 20) hx hb hts i_SM t_SM t_SM_ok n_SM hown hK.1 hP hD hS 0 rfl rfl 16 (by decide) (hts _ xs_109) (fun _ h9 => h9) rfl (by decide +kernel) rfl rfl (Nat.le_of_ble_eq_true rfl) d_SM_init_65 (fun H locs hP hD hS => ?_)
  have hP : va_P (dC, dI) classes [(h0, .inr (14, [.ref q_1, .int 0, .ref q_2, .ref q_3, .int 0, .ref q_4, .int 0, .int 0, .ref q_5, .int 0, .ref q_6, .int 0, .int 0, .int 0, .ref q_7, .int 0, .ref q_8, .int 0, .null, .int 0])), (q_8, .inl (ca 1, 16, .inl (fun _ => 0)))] H := hP
  have hD : va_D A [(h0, .inr (14, [.ref q_1, .int 0, .ref q_2, .ref q_3, .int 0, .ref q_4, .int 0, .int 0, .ref q_5, .int 0, .ref q_6, .int 0, .int 0, .int 0, .ref q_7, .int 0, .ref q_8, .int 0, .null, .int 0])), (q_8, .inl (ca 1, 16, .inl (fun _ => 0)))] := hD
  have hP := hP.sub (ws' := [(h0, .inr (14, [.ref q_1, .int 0, .ref q_2, .ref q_3, .int 0, .ref q_4, .int 0, .int 0, .ref q_5, .int 0, .ref q_6, .int 0, .int 0, .int 0, .ref q_7, .int 0, .ref q_8, .int 0, .null, .int 0]))]) [0] rfl
  have hD := hD.sub (ws' := [(h0, .inr (14, [.ref q_1, .int 0, .ref q_2, .ref q_3, .int 0, .ref q_4, .int 0, .int 0, .ref q_5, .int 0, .ref q_6, .int 0, .int 0, .int 0, .ref q_7, .int 0, .ref q_8, .int 0, .null, .int 0]))]) [0] (by decide) rfl
  refine lv_aload_n hx hb d_SM_init_68 rfl (lv_at hl 0 rfl) ?_
  refine lv_bipush (v := 64) hx hb d_SM_init_69 (by decide +kernel) ?_
  refine ax_newa (atype := .byte) (ty := .byte) (n := 64) (N' := 64) (a0 := (64, .inl (fun _ => 0))) hx hb (hts _ xs_34) rfl hK.1 0 rfl (fun C h => by cases h) hP hD hS hA (fun _ => rfl) (by decide +kernel) (by decide +kernel) (by decide +kernel) (Nat.le_of_ble_eq_true rfl) (Nat.le_of_ble_eq_true rfl) d_SM_init_71 (fun q_9 H hP hD hS => ?_)
  have hP : va_P (dC, dI) classes [(h0, .inr (14, [.ref q_1, .int 0, .ref q_2, .ref q_3, .int 0, .ref q_4, .int 0, .int 0, .ref q_5, .int 0, .ref q_6, .int 0, .int 0, .int 0, .ref q_7, .int 0, .ref q_8, .int 0, .null, .int 0])), (q_9, .inl (ca 0, 64, .inl (fun _ => 0)))] H := hP
  have hD : va_D A [(h0, .inr (14, [.ref q_1, .int 0, .ref q_2, .ref q_3, .int 0, .ref q_4, .int 0, .int 0, .ref q_5, .int 0, .ref q_6, .int 0, .int 0, .int 0, .ref q_7, .int 0, .ref q_8, .int 0, .null, .int 0])), (q_9, .inl (ca 0, 64, .inl (fun _ => 0)))] := hD
  refine W.widen (k := 9) (n := 321) (Nat.le_of_ble_eq_true rfl) (Nat.le_of_ble_eq_true rfl) ?_
  refine va_put (D := (dC, dI)) (ci := 14) (v := .ref q_9) (ty := .array (.byte)) (C := R_SM) (T := F_SM) (N := 20) hx hb hts i_SM t_SM t_SM_ok n_SM hown hK.1 hP hD hS 0 rfl rfl 18 (by decide) (hts _ xs_111) (fun _ h9 => h9) rfl (by decide +kernel) rfl rfl (Nat.le_of_ble_eq_true rfl) d_SM_init_73 (fun H locs hP hD hS => ?_)
  have hP : va_P (dC, dI) classes [(h0, .inr (14, [.ref q_1, .int 0, .ref q_2, .ref q_3, .int 0, .ref q_4, .int 0, .int 0, .ref q_5, .int 0, .ref q_6, .int 0, .int 0, .int 0, .ref q_7, .int 0, .ref q_8, .int 0, .ref q_9, .int 0])), (q_9, .inl (ca 0, 64, .inl (fun _ => 0)))] H := hP
  have hD : va_D A [(h0, .inr (14, [.ref q_1, .int 0, .ref q_2, .ref q_3, .int 0, .ref q_4, .int 0, .int 0, .ref q_5, .int 0, .ref q_6, .int 0, .int 0, .int 0, .ref q_7, .int 0, .ref q_8, .int 0, .ref q_9, .int 0])), (q_9, .inl (ca 0, 64, .inl (fun _ => 0)))] := hD
  have hP := hP.sub (ws' := [(h0, .inr (14, [.ref q_1, .int 0, .ref q_2, .ref q_3, .int 0, .ref q_4, .int 0, .int 0, .ref q_5, .int 0, .ref q_6, .int 0, .int 0, .int 0, .ref q_7, .int 0, .ref q_8, .int 0, .ref q_9, .int 0]))]) [0] rfl
  have hD := hD.sub (ws' := [(h0, .inr (14, [.ref q_1, .int 0, .ref q_2, .ref q_3, .int 0, .ref q_4, .int 0, .int 0, .ref q_5, .int 0, .ref q_6, .int 0, .int 0, .int 0, .ref q_7, .int 0, .ref q_8, .int 0, .ref q_9, .int 0]))]) [0] (by decide) rfl
  exact ax_vret hx hb hr hlocks hP hD hS [.ref q_1, .int 0, .ref q_2, .ref q_3, .int 0, .ref q_4, .int 0, .int 0, .ref q_5, .int 0, .ref q_6, .int 0, .int 0, .int 0, .ref q_7, .int 0, .ref q_8, .int 0, .ref q_9, .int 0] rfl [0] rfl (by decide) rfl (Nat.le_of_ble_eq_true rfl) (Nat.le_of_ble_eq_true rfl) d_SM_init_76
theorem d_SO_init_0 : decode b_SO_init 0 = .ok (.aload_n 0, 1) := by decide +kernel
theorem d_SO_init_1 : decode b_SO_init 1 = .ok (.invokespecial 3, 3) := by decide +kernel
theorem d_SO_init_4 : decode b_SO_init 4 = .ok (.aload_n 0, 1) := by decide +kernel
theorem d_SO_init_5 : decode b_SO_init 5 = .ok (.iconst 0, 1) := by decide +kernel
theorem d_SO_init_6 : decode b_SO_init 6 = .ok (.newarray .byte, 2) := by decide +kernel
theorem d_SO_init_8 : decode b_SO_init 8 = .ok (.putfield 9, 3) := by decide +kernel
theorem d_SO_init_11 : decode b_SO_init 11 = .ok (.return_, 1) := by decide +kernel
set_option maxHeartbeats 4000000 in
set_option maxRecDepth 100000 in
theorem c_SO_init (l : Launch) (dC : Nat → ClassId) (dI : Nat → Nat → Nat) (ca : Nat → ClassId) (h0 : Nat) : CT l classes (dC, dI) (sK dC dI ca) sk y_SO_init b_SO_init 1 none 1 12 1 0 [.ref h0] [(h0, .inr (16, [.null, .int 0, .int 0, .int 0, .int 0]))] (fun (v : Option Value) (_ : List Value) => v = none) (fun (fs : List Value) => [(h0, .inr (16, fs))]) := by
  refine ax_of (by decide) (Nat.le_of_ble_eq_true rfl) ?_
  intro p e s m below meth c A ls hAt hK hP hD hS hA hl
  obtain ⟨hx, hb, hr, hml, hown, hts, hlocks, hin⟩ := hAt
  have hin : meth.name = "<init>" := hin
  have hl : lv_has ls 1 [(0, .ref h0)] := hl
  refine lv_aload_n hx hb d_SO_init_0 rfl (lv_at hl 0 rfl) ?_
  refine W.objInit hx hb hown (hts _ xs_122) (hts _ xs_22) (hts _ xs_23) rfl (by rw [hml]; exact hl.1) rfl d_SO_init_1 (Nat.le_of_ble_eq_true rfl) (Nat.le_of_ble_eq_true rfl) ?_
  refine W.eq (g2 := F0 m 4 ls []) rfl ?_
  refine lv_aload_n hx hb d_SO_init_4 rfl (lv_at hl 0 rfl) ?_
  refine lv_iconst (v := 0) hx hb d_SO_init_5 (by decide) ?_
  refine ax_newa (atype := .byte) (ty := .byte) (n := 0) (N' := 0) (a0 := (0, .inl (fun _ => 0))) hx hb (hts _ xs_34) rfl hK.1 0 rfl (fun C h => by cases h) hP hD hS hA (fun _ => rfl) (by decide +kernel) (by decide +kernel) (by decide +kernel) (Nat.le_of_ble_eq_true rfl) (Nat.le_of_ble_eq_true rfl) d_SO_init_6 (fun q_1 H hP hD hS => ?_)
  have hP : va_P (dC, dI) classes [(h0, .inr (16, [.null, .int 0, .int 0, .int 0, .int 0])), (q_1, .inl (ca 0, 0, .inl (fun _ => 0)))] H := hP
  have hD : va_D A [(h0, .inr (16, [.null, .int 0, .int 0, .int 0, .int 0])), (q_1, .inl (ca 0, 0, .inl (fun _ => 0)))] := hD
  refine W.widen (k := 1) (n := 0) (Nat.le_of_ble_eq_true rfl) (Nat.le_of_ble_eq_true rfl) ?_
  refine va_put (D := (dC, dI)) (ci := 16) (v := .ref q_1) (ty := .array (.byte)) (C := R_SO) (T := F_SO) (N := 5) hx hb hts i_SO t_SO t_SO_ok n_SO hown hK.1 hP hD hS 0 rfl rfl 0 (by decide) (hts _ xs_123) (fun _ h9 => h9) rfl (by decide +kernel) rfl rfl (Nat.le_of_ble_eq_true rfl) d_SO_init_8 (fun H locs hP hD hS => ?_)
  have hP : va_P (dC, dI) classes [(h0, .inr (16, [.ref q_1, .int 0, .int 0, .int 0, .int 0])), (q_1, .inl (ca 0, 0, .inl (fun _ => 0)))] H := hP
  have hD : va_D A [(h0, .inr (16, [.ref q_1, .int 0, .int 0, .int 0, .int 0])), (q_1, .inl (ca 0, 0, .inl (fun _ => 0)))] := hD
  have hP := hP.sub (ws' := [(h0, .inr (16, [.ref q_1, .int 0, .int 0, .int 0, .int 0]))]) [0] rfl
  have hD := hD.sub (ws' := [(h0, .inr (16, [.ref q_1, .int 0, .int 0, .int 0, .int 0]))]) [0] (by decide) rfl
  exact ax_vret hx hb hr hlocks hP hD hS [.ref q_1, .int 0, .int 0, .int 0, .int 0] rfl [0] rfl (by decide) rfl (Nat.le_of_ble_eq_true rfl) (Nat.le_of_ble_eq_true rfl) d_SO_init_11
theorem d_ST_init_0 : decode b_ST_init 0 = .ok (.aload_n 0, 1) := by decide +kernel
theorem d_ST_init_1 : decode b_ST_init 1 = .ok (.invokespecial 3, 3) := by decide +kernel
theorem d_ST_init_4 : decode b_ST_init 4 = .ok (.aload_n 0, 1) := by decide +kernel
theorem d_ST_init_5 : decode b_ST_init 5 = .ok (.bipush 62, 2) := by decide +kernel
theorem d_ST_init_7 : decode b_ST_init 7 = .ok (.newarray .int, 2) := by decide +kernel
theorem d_ST_init_9 : decode b_ST_init 9 = .ok (.putfield 9, 3) := by decide +kernel
theorem d_ST_init_12 : decode b_ST_init 12 = .ok (.aload_n 0, 1) := by decide +kernel
theorem d_ST_init_13 : decode b_ST_init 13 = .ok (.iconst 1, 1) := by decide +kernel
theorem d_ST_init_14 : decode b_ST_init 14 = .ok (.newarray .int, 2) := by decide +kernel
theorem d_ST_init_16 : decode b_ST_init 16 = .ok (.putfield 15, 3) := by decide +kernel
theorem d_ST_init_19 : decode b_ST_init 19 = .ok (.aload_n 0, 1) := by decide +kernel
theorem d_ST_init_20 : decode b_ST_init 20 = .ok (.iconst 1, 1) := by decide +kernel
theorem d_ST_init_21 : decode b_ST_init 21 = .ok (.newarray .int, 2) := by decide +kernel
theorem d_ST_init_23 : decode b_ST_init 23 = .ok (.putfield 18, 3) := by decide +kernel
theorem d_ST_init_26 : decode b_ST_init 26 = .ok (.aload_n 0, 1) := by decide +kernel
theorem d_ST_init_27 : decode b_ST_init 27 = .ok (.iconst 3, 1) := by decide +kernel
theorem d_ST_init_28 : decode b_ST_init 28 = .ok (.newarray .int, 2) := by decide +kernel
theorem d_ST_init_30 : decode b_ST_init 30 = .ok (.putfield 21, 3) := by decide +kernel
theorem d_ST_init_33 : decode b_ST_init 33 = .ok (.aload_n 0, 1) := by decide +kernel
theorem d_ST_init_34 : decode b_ST_init 34 = .ok (.aload_n 1, 1) := by decide +kernel
theorem d_ST_init_35 : decode b_ST_init 35 = .ok (.putfield 24, 3) := by decide +kernel
theorem d_ST_init_38 : decode b_ST_init 38 = .ok (.return_, 1) := by decide +kernel
set_option maxHeartbeats 4000000 in
set_option maxRecDepth 100000 in
theorem c_ST_init (l : Launch) (dC : Nat → ClassId) (dI : Nat → Nat → Nat) (ca : Nat → ClassId) (h0 : Nat) (n0 : Nat) : CT l classes (dC, dI) (sK dC dI ca) sk y_ST_init b_ST_init 2 none 1 12 4 67 [.ref h0, .ref n0] [(h0, .inr (12, [.null, .null, .null, .long 0, .long 0, .int 0, .int 0, .int 0, .int 0, .null, .int 0, .int 0, .null, .null, .null, .int 0, .int 0, .int 0]))] (fun (v : Option Value) (_ : List Value) => v = none) (fun (fs : List Value) => [(h0, .inr (12, fs))]) := by
  refine ax_of (by decide) (Nat.le_of_ble_eq_true rfl) ?_
  intro p e s m below meth c A ls hAt hK hP hD hS hA hl
  obtain ⟨hx, hb, hr, hml, hown, hts, hlocks, hin⟩ := hAt
  have hin : meth.name = "<init>" := hin
  have hl : lv_has ls 2 [(0, .ref h0), (1, .ref n0)] := hl
  refine lv_aload_n hx hb d_ST_init_0 rfl (lv_at hl 0 rfl) ?_
  refine W.objInit hx hb hown (hts _ xs_82) (hts _ xs_22) (hts _ xs_23) rfl (by rw [hml]; exact hl.1) rfl d_ST_init_1 (Nat.le_of_ble_eq_true rfl) (Nat.le_of_ble_eq_true rfl) ?_
  refine W.eq (g2 := F0 m 4 ls []) rfl ?_
  refine lv_aload_n hx hb d_ST_init_4 rfl (lv_at hl 0 rfl) ?_
  refine lv_bipush (v := 62) hx hb d_ST_init_5 (by decide +kernel) ?_
  refine ax_newa (atype := .int) (ty := .int) (n := 62) (N' := 62) (a0 := (62, .inl (fun _ => 0))) hx hb (hts _ xs_35) rfl hK.1 1 rfl (fun C h => by cases h) hP hD hS hA (fun _ => rfl) (by decide +kernel) (by decide +kernel) (by decide +kernel) (Nat.le_of_ble_eq_true rfl) (Nat.le_of_ble_eq_true rfl) d_ST_init_7 (fun q_1 H hP hD hS => ?_)
  have hP : va_P (dC, dI) classes [(h0, .inr (12, [.null, .null, .null, .long 0, .long 0, .int 0, .int 0, .int 0, .int 0, .null, .int 0, .int 0, .null, .null, .null, .int 0, .int 0, .int 0])), (q_1, .inl (ca 1, 62, .inl (fun _ => 0)))] H := hP
  have hD : va_D A [(h0, .inr (12, [.null, .null, .null, .long 0, .long 0, .int 0, .int 0, .int 0, .int 0, .null, .int 0, .int 0, .null, .null, .null, .int 0, .int 0, .int 0])), (q_1, .inl (ca 1, 62, .inl (fun _ => 0)))] := hD
  refine W.widen (k := 1) (n := 62) (Nat.le_of_ble_eq_true rfl) (Nat.le_of_ble_eq_true rfl) ?_
  refine va_putF (D := (dC, dI)) (ci := 12) (v := .ref q_1) (ty := .array (.int)) (C := R_ST) (T := F_ST) (N := 18) hx hb hts i_ST t_ST t_ST_ok n_ST hown hK.1 hP hD hS 0 rfl rfl 9 (by decide) (hts _ xs_84) (fun _ h9 => h9) rfl hin rfl (by decide +kernel) rfl rfl (Nat.le_of_ble_eq_true rfl) d_ST_init_9 (fun H locs hP hD hS => ?_)
  have hP : va_P (dC, dI) classes [(h0, .inr (12, [.null, .null, .null, .long 0, .long 0, .int 0, .int 0, .int 0, .int 0, .ref q_1, .int 0, .int 0, .null, .null, .null, .int 0, .int 0, .int 0])), (q_1, .inl (ca 1, 62, .inl (fun _ => 0)))] H := hP
  have hD : va_D A [(h0, .inr (12, [.null, .null, .null, .long 0, .long 0, .int 0, .int 0, .int 0, .int 0, .ref q_1, .int 0, .int 0, .null, .null, .null, .int 0, .int 0, .int 0])), (q_1, .inl (ca 1, 62, .inl (fun _ => 0)))] := hD
  have hP := hP.sub (ws' := [(h0, .inr (12, [.null, .null, .null, .long 0, .long 0, .int 0, .int 0, .int 0, .int 0, .ref q_1, .int 0, .int 0, .null, .null, .null, .int 0, .int 0, .int 0]))]) [0] rfl
  have hD := hD.sub (ws' := [(h0, .inr (12, [.null, .null, .null, .long 0, .long 0, .int 0, .int 0, .int 0, .int 0, .ref q_1, .int 0, .int 0, .null, .null, .null, .int 0, .int 0, .int 0]))]) [0] (by decide) rfl
  refine lv_aload_n hx hb d_ST_init_12 rfl (lv_at hl 0 rfl) ?_
  refine lv_iconst (v := 1) hx hb d_ST_init_13 (by decide) ?_
  refine ax_newa (atype := .int) (ty := .int) (n := 1) (N' := 1) (a0 := (1, .inl (fun _ => 0))) hx hb (hts _ xs_35) rfl hK.1 1 rfl (fun C h => by cases h) hP hD hS hA (fun _ => rfl) (by decide +kernel) (by decide +kernel) (by decide +kernel) (Nat.le_of_ble_eq_true rfl) (Nat.le_of_ble_eq_true rfl) d_ST_init_14 (fun q_2 H hP hD hS => ?_)
  have hP : va_P (dC, dI) classes [(h0, .inr (12, [.null, .null, .null, .long 0, .long 0, .int 0, .int 0, .int 0, .int 0, .ref q_1, .int 0, .int 0, .null, .null, .null, .int 0, .int 0, .int 0])), (q_2, .inl (ca 1, 1, .inl (fun _ => 0)))] H := hP
  have hD : va_D A [(h0, .inr (12, [.null, .null, .null, .long 0, .long 0, .int 0, .int 0, .int 0, .int 0, .ref q_1, .int 0, .int 0, .null, .null, .null, .int 0, .int 0, .int 0])), (q_2, .inl (ca 1, 1, .inl (fun _ => 0)))] := hD
  refine W.widen (k := 2) (n := 63) (Nat.le_of_ble_eq_true rfl) (Nat.le_of_ble_eq_true rfl) ?_
  refine va_put (D := (dC, dI)) (ci := 12) (v := .ref q_2) (ty := .array (.int)) (C := R_ST) (T := F_ST) (N := 18) hx hb hts i_ST t_ST t_ST_ok n_ST hown hK.1 hP hD hS 0 rfl rfl 12 (by decide) (hts _ xs_85) (fun _ h9 => h9) rfl (by decide +kernel) rfl rfl (Nat.le_of_ble_eq_true rfl) d_ST_init_16 (fun H locs hP hD hS => ?_)
  have hP : va_P (dC, dI) classes [(h0, .inr (12, [.null, .null, .null, .long 0, .long 0, .int 0, .int 0, .int 0, .int 0, .ref q_1, .int 0, .int 0, .ref q_2, .null, .null, .int 0, .int 0, .int 0])), (q_2, .inl (ca 1, 1, .inl (fun _ => 0)))] H := hP
  have hD : va_D A [(h0, .inr (12, [.null, .null, .null, .long 0, .long 0, .int 0, .int 0, .int 0, .int 0, .ref q_1, .int 0, .int 0, .ref q_2, .null, .null, .int 0, .int 0, .int 0])), (q_2, .inl (ca 1, 1, .inl (fun _ => 0)))] := hD
  have hP := hP.sub (ws' := [(h0, .inr (12, [.null, .null, .null, .long 0, .long 0, .int 0, .int 0, .int 0, .int 0, .ref q_1, .int 0, .int 0, .ref q_2, .null, .null, .int 0, .int 0, .int 0]))]) [0] rfl
  have hD := hD.sub (ws' := [(h0, .inr (12, [.null, .null, .null, .long 0, .long 0, .int 0, .int 0, .int 0, .int 0, .ref q_1, .int 0, .int 0, .ref q_2, .null, .null, .int 0, .int 0, .int 0]))]) [0] (by decide) rfl
  refine lv_aload_n hx hb d_ST_init_19 rfl (lv_at hl 0 rfl) ?_
  refine lv_iconst (v := 1) hx hb d_ST_init_20 (by decide) ?_
  refine ax_newa (atype := .int) (ty := .int) (n := 1) (N' := 1) (a0 := (1, .inl (fun _ => 0))) hx hb (hts _ xs_35) rfl hK.1 1 rfl (fun C h => by cases h) hP hD hS hA (fun _ => rfl) (by decide +kernel) (by decide +kernel) (by decide +kernel) (Nat.le_of_ble_eq_true rfl) (Nat.le_of_ble_eq_true rfl) d_ST_init_21 (fun q_3 H hP hD hS => ?_)
  have hP : va_P (dC, dI) classes [(h0, .inr (12, [.null, .null, .null, .long 0, .long 0, .int 0, .int 0, .int 0, .int 0, .ref q_1, .int 0, .int 0, .ref q_2, .null, .null, .int 0, .int 0, .int 0])), (q_3, .inl (ca 1, 1, .inl (fun _ => 0)))] H := hP
  have hD : va_D A [(h0, .inr (12, [.null, .null, .null, .long 0, .long 0, .int 0, .int 0, .int 0, .int 0, .ref q_1, .int 0, .int 0, .ref q_2, .null, .null, .int 0, .int 0, .int 0])), (q_3, .inl (ca 1, 1, .inl (fun _ => 0)))] := hD
  refine W.widen (k := 3) (n := 64) (Nat.le_of_ble_eq_true rfl) (Nat.le_of_ble_eq_true rfl) ?_
  refine va_put (D := (dC, dI)) (ci := 12) (v := .ref q_3) (ty := .array (.int)) (C := R_ST) (T := F_ST) (N := 18) hx hb hts i_ST t_ST t_ST_ok n_ST hown hK.1 hP hD hS 0 rfl rfl 13 (by decide) (hts _ xs_86) (fun _ h9 => h9) rfl (by decide +kernel) rfl rfl (Nat.le_of_ble_eq_true rfl) d_ST_init_23 (fun H locs hP hD hS => ?_)
  have hP : va_P (dC, dI) classes [(h0, .inr (12, [.null, .null, .null, .long 0, .long 0, .int 0, .int 0, .int 0, .int 0, .ref q_1, .int 0, .int 0, .ref q_2, .ref q_3, .null, .int 0, .int 0, .int 0])), (q_3, .inl (ca 1, 1, .inl (fun _ => 0)))] H := hP
  have hD : va_D A [(h0, .inr (12, [.null, .null, .null, .long 0, .long 0, .int 0, .int 0, .int 0, .int 0, .ref q_1, .int 0, .int 0, .ref q_2, .ref q_3, .null, .int 0, .int 0, .int 0])), (q_3, .inl (ca 1, 1, .inl (fun _ => 0)))] := hD
  have hP := hP.sub (ws' := [(h0, .inr (12, [.null, .null, .null, .long 0, .long 0, .int 0, .int 0, .int 0, .int 0, .ref q_1, .int 0, .int 0, .ref q_2, .ref q_3, .null, .int 0, .int 0, .int 0]))]) [0] rfl
  have hD := hD.sub (ws' := [(h0, .inr (12, [.null, .null, .null, .long 0, .long 0, .int 0, .int 0, .int 0, .int 0, .ref q_1, .int 0, .int 0, .ref q_2, .ref q_3, .null, .int 0, .int 0, .int 0]))]) [0] (by decide) rfl
  refine lv_aload_n hx hb d_ST_init_26 rfl (lv_at hl 0 rfl) ?_
  refine lv_iconst (v := 3) hx hb d_ST_init_27 (by decide) ?_
  refine ax_newa (atype := .int) (ty := .int) (n := 3) (N' := 3) (a0 := (3, .inl (fun _ => 0))) hx hb (hts _ xs_35) rfl hK.1 1 rfl (fun C h => by cases h) hP hD hS hA (fun _ => rfl) (by decide +kernel) (by decide +kernel) (by decide +kernel) (Nat.le_of_ble_eq_true rfl) (Nat.le_of_ble_eq_true rfl) d_ST_init_28 (fun q_4 H hP hD hS => ?_)
  have hP : va_P (dC, dI) classes [(h0, .inr (12, [.null, .null, .null, .long 0, .long 0, .int 0, .int 0, .int 0, .int 0, .ref q_1, .int 0, .int 0, .ref q_2, .ref q_3, .null, .int 0, .int 0, .int 0])), (q_4, .inl (ca 1, 3, .inl (fun _ => 0)))] H := hP
  have hD : va_D A [(h0, .inr (12, [.null, .null, .null, .long 0, .long 0, .int 0, .int 0, .int 0, .int 0, .ref q_1, .int 0, .int 0, .ref q_2, .ref q_3, .null, .int 0, .int 0, .int 0])), (q_4, .inl (ca 1, 3, .inl (fun _ => 0)))] := hD
  refine W.widen (k := 4) (n := 67) (Nat.le_of_ble_eq_true rfl) (Nat.le_of_ble_eq_true rfl) ?_
  refine va_put (D := (dC, dI)) (ci := 12) (v := .ref q_4) (ty := .array (.int)) (C := R_ST) (T := F_ST) (N := 18) hx hb hts i_ST t_ST t_ST_ok n_ST hown hK.1 hP hD hS 0 rfl rfl 14 (by decide) (hts _ xs_87) (fun _ h9 => h9) rfl (by decide +kernel) rfl rfl (Nat.le_of_ble_eq_true rfl) d_ST_init_30 (fun H locs hP hD hS => ?_)
  have hP : va_P (dC, dI) classes [(h0, .inr (12, [.null, .null, .null, .long 0, .long 0, .int 0, .int 0, .int 0, .int 0, .ref q_1, .int 0, .int 0, .ref q_2, .ref q_3, .ref q_4, .int 0, .int 0, .int 0])), (q_4, .inl (ca 1, 3, .inl (fun _ => 0)))] H := hP
  have hD : va_D A [(h0, .inr (12, [.null, .null, .null, .long 0, .long 0, .int 0, .int 0, .int 0, .int 0, .ref q_1, .int 0, .int 0, .ref q_2, .ref q_3, .ref q_4, .int 0, .int 0, .int 0])), (q_4, .inl (ca 1, 3, .inl (fun _ => 0)))] := hD
  have hP := hP.sub (ws' := [(h0, .inr (12, [.null, .null, .null, .long 0, .long 0, .int 0, .int 0, .int 0, .int 0, .ref q_1, .int 0, .int 0, .ref q_2, .ref q_3, .ref q_4, .int 0, .int 0, .int 0]))]) [0] rfl
  have hD := hD.sub (ws' := [(h0, .inr (12, [.null, .null, .null, .long 0, .long 0, .int 0, .int 0, .int 0, .int 0, .ref q_1, .int 0, .int 0, .ref q_2, .ref q_3, .ref q_4, .int 0, .int 0, .int 0]))]) [0] (by decide) rfl
  refine lv_aload_n hx hb d_ST_init_33 rfl (lv_at hl 0 rfl) ?_
  refine lv_aload_n hx hb d_ST_init_34 rfl (lv_at hl 1 rfl) ?_
  refine va_putF (D := (dC, dI)) (ci := 12) (v := .ref n0) (ty := .object "SourceBack$Nodes") (C := R_ST) (T := F_ST) (N := 18) hx hb hts i_ST t_ST t_ST_ok n_ST hown hK.1 hP hD hS 0 rfl rfl 0 (by decide) (hts _ xs_83) (fun _ h9 => h9) rfl hin rfl (by decide +kernel) rfl rfl (Nat.le_of_ble_eq_true rfl) d_ST_init_35 (fun H locs hP hD hS => ?_)
  have hP : va_P (dC, dI) classes [(h0, .inr (12, [.ref n0, .null, .null, .long 0, .long 0, .int 0, .int 0, .int 0, .int 0, .ref q_1, .int 0, .int 0, .ref q_2, .ref q_3, .ref q_4, .int 0, .int 0, .int 0]))] H := hP
  have hD : va_D A [(h0, .inr (12, [.ref n0, .null, .null, .long 0, .long 0, .int 0, .int 0, .int 0, .int 0, .ref q_1, .int 0, .int 0, .ref q_2, .ref q_3, .ref q_4, .int 0, .int 0, .int 0]))] := hD
  exact ax_vret hx hb hr hlocks hP hD hS [.ref n0, .null, .null, .long 0, .long 0, .int 0, .int 0, .int 0, .int 0, .ref q_1, .int 0, .int 0, .ref q_2, .ref q_3, .ref q_4, .int 0, .int 0, .int 0] rfl [0] rfl (by decide) rfl (Nat.le_of_ble_eq_true rfl) (Nat.le_of_ble_eq_true rfl) d_ST_init_38
theorem d_SP_init_0 : decode b_SP_init 0 = .ok (.aload_n 0, 1) := by decide +kernel
theorem d_SP_init_1 : decode b_SP_init 1 = .ok (.invokespecial 3, 3) := by decide +kernel
theorem d_SP_init_4 : decode b_SP_init 4 = .ok (.aload_n 0, 1) := by decide +kernel
theorem d_SP_init_5 : decode b_SP_init 5 = .ok (.sipush 128, 3) := by decide +kernel
theorem d_SP_init_8 : decode b_SP_init 8 = .ok (.newarray .byte, 2) := by decide +kernel
theorem d_SP_init_10 : decode b_SP_init 10 = .ok (.putfield 9, 3) := by decide +kernel
theorem d_SP_init_13 : decode b_SP_init 13 = .ok (.aload_n 0, 1) := by decide +kernel
theorem d_SP_init_14 : decode b_SP_init 14 = .ok (.bipush 16, 2) := by decide +kernel
theorem d_SP_init_16 : decode b_SP_init 16 = .ok (.newarray .int, 2) := by decide +kernel
theorem d_SP_init_18 : decode b_SP_init 18 = .ok (.putfield 15, 3) := by decide +kernel
theorem d_SP_init_21 : decode b_SP_init 21 = .ok (.aload_n 0, 1) := by decide +kernel
theorem d_SP_init_22 : decode b_SP_init 22 = .ok (.aload_n 1, 1) := by decide +kernel
theorem d_SP_init_23 : decode b_SP_init 23 = .ok (.putfield 19, 3) := by decide +kernel
theorem d_SP_init_26 : decode b_SP_init 26 = .ok (.return_, 1) := by decide +kernel
set_option maxHeartbeats 4000000 in
set_option maxRecDepth 100000 in
theorem c_SP_init (l : Launch) (dC : Nat → ClassId) (dI : Nat → Nat → Nat) (ca : Nat → ClassId) (h0 : Nat) (n0 : Nat) : CT l classes (dC, dI) (sK dC dI ca) sk y_SP_init b_SP_init 2 none 1 12 2 144 [.ref h0, .ref n0] [(h0, .inr (13, [.null, .int 0, .null, .null, .null, .null, .int 0]))] (fun (v : Option Value) (_ : List Value) => v = none) (fun (fs : List Value) => [(h0, .inr (13, fs))]) := by
  refine ax_of (by decide) (Nat.le_of_ble_eq_true rfl) ?_
  intro p e s m below meth c A ls hAt hK hP hD hS hA hl
  obtain ⟨hx, hb, hr, hml, hown, hts, hlocks, hin⟩ := hAt
  have hin : meth.name = "<init>" := hin
  have hl : lv_has ls 2 [(0, .ref h0), (1, .ref n0)] := hl
  refine lv_aload_n hx hb d_SP_init_0 rfl (lv_at hl 0 rfl) ?_
  refine W.objInit hx hb hown (hts _ xs_93) (hts _ xs_22) (hts _ xs_23) rfl (by rw [hml]; exact hl.1) rfl d_SP_init_1 (Nat.le_of_ble_eq_true rfl) (Nat.le_of_ble_eq_true rfl) ?_
  refine W.eq (g2 := F0 m 4 ls []) rfl ?_
  refine lv_aload_n hx hb d_SP_init_4 rfl (lv_at hl 0 rfl) ?_
  refine lv_sipush (v := 128) hx hb d_SP_init_5 (by decide +kernel) ?_
  refine ax_newa (atype := .byte) (ty := .byte) (n := 128) (N' := 128) (a0 := (128, .inl (fun _ => 0))) hx hb (hts _ xs_34) rfl hK.1 0 rfl (fun C h => by cases h) hP hD hS hA (fun _ => rfl) (by decide +kernel) (by decide +kernel) (by decide +kernel) (Nat.le_of_ble_eq_true rfl) (Nat.le_of_ble_eq_true rfl) d_SP_init_8 (fun q_1 H hP hD hS => ?_)
  have hP : va_P (dC, dI) classes [(h0, .inr (13, [.null, .int 0, .null, .null, .null, .null, .int 0])), (q_1, .inl (ca 0, 128, .inl (fun _ => 0)))] H := hP
  have hD : va_D A [(h0, .inr (13, [.null, .int 0, .null, .null, .null, .null, .int 0])), (q_1, .inl (ca 0, 128, .inl (fun _ => 0)))] := hD
  refine W.widen (k := 1) (n := 128) (Nat.le_of_ble_eq_true rfl) (Nat.le_of_ble_eq_true rfl) ?_
  refine va_put (D := (dC, dI)) (ci := 13) (v := .ref q_1) (ty := .array (.byte)) (C := R_SP) (T := F_SP) (N := 7) hx hb hts i_SP t_SP t_SP_ok n_SP hown hK.1 hP hD hS 0 rfl rfl 0 (by decide) (hts _ xs_94) (fun _ h9 => h9) rfl (by decide +kernel) rfl rfl (Nat.le_of_ble_eq_true rfl) d_SP_init_10 (fun H locs hP hD hS => ?_)
  have hP : va_P (dC, dI) classes [(h0, .inr (13, [.ref q_1, .int 0, .null, .null, .null, .null, .int 0])), (q_1, .inl (ca 0, 128, .inl (fun _ => 0)))] H := hP
  have hD : va_D A [(h0, .inr (13, [.ref q_1, .int 0, .null, .null, .null, .null, .int 0])), (q_1, .inl (ca 0, 128, .inl (fun _ => 0)))] := hD
  have hP := hP.sub (ws' := [(h0, .inr (13, [.ref q_1, .int 0, .null, .null, .null, .null, .int 0]))]) [0] rfl
  have hD := hD.sub (ws' := [(h0, .inr (13, [.ref q_1, .int 0, .null, .null, .null, .null, .int 0]))]) [0] (by decide) rfl
  refine lv_aload_n hx hb d_SP_init_13 rfl (lv_at hl 0 rfl) ?_
  refine lv_bipush (v := 16) hx hb d_SP_init_14 (by decide +kernel) ?_
  refine ax_newa (atype := .int) (ty := .int) (n := 16) (N' := 16) (a0 := (16, .inl (fun _ => 0))) hx hb (hts _ xs_35) rfl hK.1 1 rfl (fun C h => by cases h) hP hD hS hA (fun _ => rfl) (by decide +kernel) (by decide +kernel) (by decide +kernel) (Nat.le_of_ble_eq_true rfl) (Nat.le_of_ble_eq_true rfl) d_SP_init_16 (fun q_2 H hP hD hS => ?_)
  have hP : va_P (dC, dI) classes [(h0, .inr (13, [.ref q_1, .int 0, .null, .null, .null, .null, .int 0])), (q_2, .inl (ca 1, 16, .inl (fun _ => 0)))] H := hP
  have hD : va_D A [(h0, .inr (13, [.ref q_1, .int 0, .null, .null, .null, .null, .int 0])), (q_2, .inl (ca 1, 16, .inl (fun _ => 0)))] := hD
  refine W.widen (k := 2) (n := 144) (Nat.le_of_ble_eq_true rfl) (Nat.le_of_ble_eq_true rfl) ?_
  refine va_put (D := (dC, dI)) (ci := 13) (v := .ref q_2) (ty := .array (.int)) (C := R_SP) (T := F_SP) (N := 7) hx hb hts i_SP t_SP t_SP_ok n_SP hown hK.1 hP hD hS 0 rfl rfl 5 (by decide) (hts _ xs_96) (fun _ h9 => h9) rfl (by decide +kernel) rfl rfl (Nat.le_of_ble_eq_true rfl) d_SP_init_18 (fun H locs hP hD hS => ?_)
  have hP : va_P (dC, dI) classes [(h0, .inr (13, [.ref q_1, .int 0, .null, .null, .null, .ref q_2, .int 0])), (q_2, .inl (ca 1, 16, .inl (fun _ => 0)))] H := hP
  have hD : va_D A [(h0, .inr (13, [.ref q_1, .int 0, .null, .null, .null, .ref q_2, .int 0])), (q_2, .inl (ca 1, 16, .inl (fun _ => 0)))] := hD
  have hP := hP.sub (ws' := [(h0, .inr (13, [.ref q_1, .int 0, .null, .null, .null, .ref q_2, .int 0]))]) [0] rfl
  have hD := hD.sub (ws' := [(h0, .inr (13, [.ref q_1, .int 0, .null, .null, .null, .ref q_2, .int 0]))]) [0] (by decide) rfl
  refine lv_aload_n hx hb d_SP_init_21 rfl (lv_at hl 0 rfl) ?_
  refine lv_aload_n hx hb d_SP_init_22 rfl (lv_at hl 1 rfl) ?_
  refine va_putF (D := (dC, dI)) (ci := 13) (v := .ref n0) (ty := .object "SourceBack$Nodes") (C := R_SP) (T := F_SP) (N := 7) hx hb hts i_SP t_SP t_SP_ok n_SP hown hK.1 hP hD hS 0 rfl rfl 2 (by decide) (hts _ xs_95) (fun _ h9 => h9) rfl hin rfl (by decide +kernel) rfl rfl (Nat.le_of_ble_eq_true rfl) d_SP_init_23 (fun H locs hP hD hS => ?_)
  have hP : va_P (dC, dI) classes [(h0, .inr (13, [.ref q_1, .int 0, .ref n0, .null, .null, .ref q_2, .int 0]))] H := hP
  have hD : va_D A [(h0, .inr (13, [.ref q_1, .int 0, .ref n0, .null, .null, .ref q_2, .int 0]))] := hD
  exact ax_vret hx hb hr hlocks hP hD hS [.ref q_1, .int 0, .ref n0, .null, .null, .ref q_2, .int 0] rfl [0] rfl (by decide) rfl (Nat.le_of_ble_eq_true rfl) (Nat.le_of_ble_eq_true rfl) d_SP_init_26
theorem d_SJ_init_0 : decode b_SJ_init 0 = .ok (.aload_n 0, 1) := by decide +kernel
theorem d_SJ_init_1 : decode b_SJ_init 1 = .ok (.invokespecial 3, 3) := by decide +kernel
theorem d_SJ_init_4 : decode b_SJ_init 4 = .ok (.aload_n 0, 1) := by decide +kernel
theorem d_SJ_init_5 : decode b_SJ_init 5 = .ok (.new 9, 3) := by decide +kernel
theorem d_SJ_init_8 : decode b_SJ_init 8 = .ok (.dup, 1) := by decide +kernel
theorem d_SJ_init_9 : decode b_SJ_init 9 = .ok (.invokespecial 11, 3) := by decide +kernel
theorem d_SJ_init_12 : decode b_SJ_init 12 = .ok (.putfield 12, 3) := by decide +kernel
theorem d_SJ_init_15 : decode b_SJ_init 15 = .ok (.aload_n 0, 1) := by decide +kernel
theorem d_SJ_init_16 : decode b_SJ_init 16 = .ok (.sipush 2140, 3) := by decide +kernel
theorem d_SJ_init_19 : decode b_SJ_init 19 = .ok (.newarray .int, 2) := by decide +kernel
theorem d_SJ_init_21 : decode b_SJ_init 21 = .ok (.putfield 18, 3) := by decide +kernel
theorem d_SJ_init_24 : decode b_SJ_init 24 = .ok (.aload_n 0, 1) := by decide +kernel
theorem d_SJ_init_25 : decode b_SJ_init 25 = .ok (.sipush 488, 3) := by decide +kernel
theorem d_SJ_init_28 : decode b_SJ_init 28 = .ok (.newarray .int, 2) := by decide +kernel
theorem d_SJ_init_30 : decode b_SJ_init 30 = .ok (.putfield 22, 3) := by decide +kernel
theorem d_SJ_init_33 : decode b_SJ_init 33 = .ok (.aload_n 0, 1) := by decide +kernel
theorem d_SJ_init_34 : decode b_SJ_init 34 = .ok (.bipush 60, 2) := by decide +kernel
theorem d_SJ_init_36 : decode b_SJ_init 36 = .ok (.newarray .int, 2) := by decide +kernel
theorem d_SJ_init_38 : decode b_SJ_init 38 = .ok (.putfield 25, 3) := by decide +kernel
theorem d_SJ_init_41 : decode b_SJ_init 41 = .ok (.aload_n 0, 1) := by decide +kernel
theorem d_SJ_init_42 : decode b_SJ_init 42 = .ok (.aload_n 1, 1) := by decide +kernel
theorem d_SJ_init_43 : decode b_SJ_init 43 = .ok (.putfield 28, 3) := by decide +kernel
theorem d_SJ_init_46 : decode b_SJ_init 46 = .ok (.return_, 1) := by decide +kernel
set_option maxHeartbeats 4000000 in
set_option maxRecDepth 100000 in
theorem c_SJ_init (l : Launch) (dC : Nat → ClassId) (dI : Nat → Nat → Nat) (ca : Nat → ClassId) (h0 : Nat) (n0 : Nat) : CT l classes (dC, dI) (sK dC dI ca) sk y_SJ_init b_SJ_init 2 none 2 32 5 2693 [.ref h0, .ref n0] [(h0, .inr (15, [.null, .null, .null, .int 0, .int 0, .int 0, .int 0, .int 0, .int 0, .int 0, .null, .int 0, .int 0, .null, .int 0, .null, .int 0, .int 0, .int 0, .int 0, .int 0]))] (fun (v : Option Value) (_ : List Value) => v = none) (fun (fs : List Value) => [(h0, .inr (15, fs))]) := by
  refine ax_of (by decide) (Nat.le_of_ble_eq_true rfl) ?_
  intro p e s m below meth c A ls hAt hK hP hD hS hA hl
  obtain ⟨hx, hb, hr, hml, hown, hts, hlocks, hin⟩ := hAt
  have hin : meth.name = "<init>" := hin
  have hl : lv_has ls 2 [(0, .ref h0), (1, .ref n0)] := hl
  refine lv_aload_n hx hb d_SJ_init_0 rfl (lv_at hl 0 rfl) ?_
  refine W.objInit hx hb hown (hts _ xs_117) (hts _ xs_22) (hts _ xs_23) rfl (by rw [hml]; exact hl.1) rfl d_SJ_init_1 (Nat.le_of_ble_eq_true rfl) (Nat.le_of_ble_eq_true rfl) ?_
  refine W.eq (g2 := F0 m 4 ls []) rfl ?_
  refine lv_aload_n hx hb d_SJ_init_4 rfl (lv_at hl 0 rfl) ?_
  refine va_new (ci := 16) (fs := [.null, .int 0, .int 0, .int 0, .int 0]) (C := R_SO) (T := F_SO) (N := 5) hx hb hts i_SO t_SO t_SO_ok hown (hts _ xs_118) (hts _ xs_119) (hts _ xs_9) hK.1 hP hD hS hA rfl (by decide +kernel) (Nat.le_of_ble_eq_true rfl) (Nat.le_of_ble_eq_true rfl) d_SJ_init_5 (fun q_1 H hP hD hS => ?_)
  have hP : va_P (dC, dI) classes [(h0, .inr (15, [.null, .null, .null, .int 0, .int 0, .int 0, .int 0, .int 0, .int 0, .int 0, .null, .int 0, .int 0, .null, .int 0, .null, .int 0, .int 0, .int 0, .int 0, .int 0])), (q_1, .inr (16, [.null, .int 0, .int 0, .int 0, .int 0]))] H := hP
  have hD : va_D A [(h0, .inr (15, [.null, .null, .null, .int 0, .int 0, .int 0, .int 0, .int 0, .int 0, .int 0, .null, .int 0, .int 0, .null, .int 0, .null, .int 0, .int 0, .int 0, .int 0, .int 0])), (q_1, .inr (16, [.null, .int 0, .int 0, .int 0, .int 0]))] := hD
  refine W.widen (k := 1) (n := 5) (Nat.le_of_ble_eq_true rfl) (Nat.le_of_ble_eq_true rfl) ?_
  refine lv_dup hx hb d_SJ_init_8 rfl ?_
  refine ax_IN (k := 0) (As := []) (rest := [.ref q_1, .ref h0]) (wr := [(h0, .inr (15, [.null, .null, .null, .int 0, .int 0, .int 0, .int 0, .int 0, .int 0, .int 0, .null, .int 0, .int 0, .null, .int 0, .null, .int 0, .int 0, .int 0, .int 0, .int 0]))]) rfl hx hb hml hown hts g_sk (sK_bl dC dI ca) (c_SO_init l dC dI ca q_1) rfl (hK.2.1 _ zs_5) xs_120 xs_9 xs_121 (by decide +kernel) rfl (Nat.le_of_ble_eq_true rfl) (Nat.le_of_ble_eq_true rfl) hl.1 (Nat.le_of_ble_eq_true rfl) (sK_up hK) hP hD hS hA [1] [0] rfl (by decide) rfl rfl (by decide) (by decide) (Nat.le_of_ble_eq_true rfl) (Nat.le_of_ble_eq_true rfl) d_SJ_init_9 (fun v fs_2 H locs hp hP hD hS => ?_)
  obtain rfl : v = none := hp
  have hP : va_P (dC, dI) classes [(h0, .inr (15, [.null, .null, .null, .int 0, .int 0, .int 0, .int 0, .int 0, .int 0, .int 0, .null, .int 0, .int 0, .null, .int 0, .null, .int 0, .int 0, .int 0, .int 0, .int 0])), (q_1, .inr (16, fs_2))] H := hP
  have hD : va_D A [(h0, .inr (15, [.null, .null, .null, .int 0, .int 0, .int 0, .int 0, .int 0, .int 0, .int 0, .null, .int 0, .int 0, .null, .int 0, .null, .int 0, .int 0, .int 0, .int 0, .int 0])), (q_1, .inr (16, fs_2))] := hD
  refine W.eq (g2 := F0 m 12 ls [.ref q_1, .ref h0]) rfl ?_
  refine W.widen (k := 2) (n := 5) (Nat.le_of_ble_eq_true rfl) (Nat.le_of_ble_eq_true rfl) ?_
  refine va_putF (D := (dC, dI)) (ci := 15) (v := .ref q_1) (ty := .object "SourceBack$Tokens") (C := R_SJ) (T := F_SJ) (N := 21) hx hb hts i_SJ t_SJ t_SJ_ok n_SJ hown hK.1 hP hD hS 0 rfl rfl 0 (by decide) (hts _ xs_124) (fun _ h9 => h9) rfl hin rfl (by decide +kernel) rfl rfl (Nat.le_of_ble_eq_true rfl) d_SJ_init_12 (fun H locs hP hD hS => ?_)
  have hP : va_P (dC, dI) classes [(h0, .inr (15, [.ref q_1, .null, .null, .int 0, .int 0, .int 0, .int 0, .int 0, .int 0, .int 0, .null, .int 0, .int 0, .null, .int 0, .null, .int 0, .int 0, .int 0, .int 0, .int 0])), (q_1, .inr (16, fs_2))] H := hP
  have hD : va_D A [(h0, .inr (15, [.ref q_1, .null, .null, .int 0, .int 0, .int 0, .int 0, .int 0, .int 0, .int 0, .null, .int 0, .int 0, .null, .int 0, .null, .int 0, .int 0, .int 0, .int 0, .int 0])), (q_1, .inr (16, fs_2))] := hD
  have hP := hP.sub (ws' := [(h0, .inr (15, [.ref q_1, .null, .null, .int 0, .int 0, .int 0, .int 0, .int 0, .int 0, .int 0, .null, .int 0, .int 0, .null, .int 0, .null, .int 0, .int 0, .int 0, .int 0, .int 0]))]) [0] rfl
  have hD := hD.sub (ws' := [(h0, .inr (15, [.ref q_1, .null, .null, .int 0, .int 0, .int 0, .int 0, .int 0, .int 0, .int 0, .null, .int 0, .int 0, .null, .int 0, .null, .int 0, .int 0, .int 0, .int 0, .int 0]))]) [0] (by decide) rfl
  refine lv_aload_n hx hb d_SJ_init_15 rfl (lv_at hl 0 rfl) ?_
  refine lv_sipush (v := 2140) hx hb d_SJ_init_16 (by decide +kernel) ?_
  refine ax_newa (atype := .int) (ty := .int) (n := 2140) (N' := 2140) (a0 := (2140, .inl (fun _ => 0))) hx hb (hts _ xs_35) rfl hK.1 1 rfl (fun C h => by cases h) hP hD hS hA (fun _ => rfl) (by decide +kernel) (by decide +kernel) (by decide +kernel) (Nat.le_of_ble_eq_true rfl) (Nat.le_of_ble_eq_true rfl) d_SJ_init_19 (fun q_3 H hP hD hS => ?_)
  have hP : va_P (dC, dI) classes [(h0, .inr (15, [.ref q_1, .null, .null, .int 0, .int 0, .int 0, .int 0, .int 0, .int 0, .int 0, .null, .int 0, .int 0, .null, .int 0, .null, .int 0, .int 0, .int 0, .int 0, .int 0])), (q_3, .inl (ca 1, 2140, .inl (fun _ => 0)))] H := hP
  have hD : va_D A [(h0, .inr (15, [.ref q_1, .null, .null, .int 0, .int 0, .int 0, .int 0, .int 0, .int 0, .int 0, .null, .int 0, .int 0, .null, .int 0, .null, .int 0, .int 0, .int 0, .int 0, .int 0])), (q_3, .inl (ca 1, 2140, .inl (fun _ => 0)))] := hD
  refine W.widen (k := 3) (n := 2145) (Nat.le_of_ble_eq_true rfl) (Nat.le_of_ble_eq_true rfl) ?_
  refine va_putF (D := (dC, dI)) (ci := 15) (v := .ref q_3) (ty := .array (.int)) (C := R_SJ) (T := F_SJ) (N := 21) hx hb hts i_SJ t_SJ t_SJ_ok n_SJ hown hK.1 hP hD hS 0 rfl rfl 10 (by decide) (hts _ xs_126) (fun _ h9 => h9) rfl hin rfl (by decide +kernel) rfl rfl (Nat.le_of_ble_eq_true rfl) d_SJ_init_21 (fun H locs hP hD hS => ?_)
  have hP : va_P (dC, dI) classes [(h0, .inr (15, [.ref q_1, .null, .null, .int 0, .int 0, .int 0, .int 0, .int 0, .int 0, .int 0, .ref q_3, .int 0, .int 0, .null, .int 0, .null, .int 0, .int 0, .int 0, .int 0, .int 0])), (q_3, .inl (ca 1, 2140, .inl (fun _ => 0)))] H := hP
  have hD : va_D A [(h0, .inr (15, [.ref q_1, .null, .null, .int 0, .int 0, .int 0, .int 0, .int 0, .int 0, .int 0, .ref q_3, .int 0, .int 0, .null, .int 0, .null, .int 0, .int 0, .int 0, .int 0, .int 0])), (q_3, .inl (ca 1, 2140, .inl (fun _ => 0)))] := hD
  have hP := hP.sub (ws' := [(h0, .inr (15, [.ref q_1, .null, .null, .int 0, .int 0, .int 0, .int 0, .int 0, .int 0, .int 0, .ref q_3, .int 0, .int 0, .null, .int 0, .null, .int 0, .int 0, .int 0, .int 0, .int 0]))]) [0] rfl
  have hD := hD.sub (ws' := [(h0, .inr (15, [.ref q_1, .null, .null, .int 0, .int 0, .int 0, .int 0, .int 0, .int 0, .int 0, .ref q_3, .int 0, .int 0, .null, .int 0, .null, .int 0, .int 0, .int 0, .int 0, .int 0]))]) [0] (by decide) rfl
  refine lv_aload_n hx hb d_SJ_init_24 rfl (lv_at hl 0 rfl) ?_
  refine lv_sipush (v := 488) hx hb d_SJ_init_25 (by decide +kernel) ?_
  refine ax_newa (atype := .int) (ty := .int) (n := 488) (N' := 488) (a0 := (488, .inl (fun _ => 0))) hx hb (hts _ xs_35) rfl hK.1 1 rfl (fun C h => by cases h) hP hD hS hA (fun _ => rfl) (by decide +kernel) (by decide +kernel) (by decide +kernel) (Nat.le_of_ble_eq_true rfl) (Nat.le_of_ble_eq_true rfl) d_SJ_init_28 (fun q_4 H hP hD hS => ?_)
  have hP : va_P (dC, dI) classes [(h0, .inr (15, [.ref q_1, .null, .null, .int 0, .int 0, .int 0, .int 0, .int 0, .int 0, .int 0, .ref q_3, .int 0, .int 0, .null, .int 0, .null, .int 0, .int 0, .int 0, .int 0, .int 0])), (q_4, .inl (ca 1, 488, .inl (fun _ => 0)))] H := hP
  have hD : va_D A [(h0, .inr (15, [.ref q_1, .null, .null, .int 0, .int 0, .int 0, .int 0, .int 0, .int 0, .int 0, .ref q_3, .int 0, .int 0, .null, .int 0, .null, .int 0, .int 0, .int 0, .int 0, .int 0])), (q_4, .inl (ca 1, 488, .inl (fun _ => 0)))] := hD
  refine W.widen (k := 4) (n := 2633) (Nat.le_of_ble_eq_true rfl) (Nat.le_of_ble_eq_true rfl) ?_
  refine va_putF (D := (dC, dI)) (ci := 15) (v := .ref q_4) (ty := .array (.int)) (C := R_SJ) (T := F_SJ) (N := 21) hx hb hts i_SJ t_SJ t_SJ_ok n_SJ hown hK.1 hP hD hS 0 rfl rfl 13 (by decide) (hts _ xs_127) (fun _ h9 => h9) rfl hin rfl (by decide +kernel) rfl rfl (Nat.le_of_ble_eq_true rfl) d_SJ_init_30 (fun H locs hP hD hS => ?_)
  have hP : va_P (dC, dI) classes [(h0, .inr (15, [.ref q_1, .null, .null, .int 0, .int 0, .int 0, .int 0, .int 0, .int 0, .int 0, .ref q_3, .int 0, .int 0, .ref q_4, .int 0, .null, .int 0, .int 0, .int 0, .int 0, .int 0])), (q_4, .inl (ca 1, 488, .inl (fun _ => 0)))] H := hP
  have hD : va_D A [(h0, .inr (15, [.ref q_1, .null, .null, .int 0, .int 0, .int 0, .int 0, .int 0, .int 0, .int 0, .ref q_3, .int 0, .int 0, .ref q_4, .int 0, .null, .int 0, .int 0, .int 0, .int 0, .int 0])), (q_4, .inl (ca 1, 488, .inl (fun _ => 0)))] := hD
  have hP := hP.sub (ws' := [(h0, .inr (15, [.ref q_1, .null, .null, .int 0, .int 0, .int 0, .int 0, .int 0, .int 0, .int 0, .ref q_3, .int 0, .int 0, .ref q_4, .int 0, .null, .int 0, .int 0, .int 0, .int 0, .int 0]))]) [0] rfl
  have hD := hD.sub (ws' := [(h0, .inr (15, [.ref q_1, .null, .null, .int 0, .int 0, .int 0, .int 0, .int 0, .int 0, .int 0, .ref q_3, .int 0, .int 0, .ref q_4, .int 0, .null, .int 0, .int 0, .int 0, .int 0, .int 0]))]) [0] (by decide) rfl
  refine lv_aload_n hx hb d_SJ_init_33 rfl (lv_at hl 0 rfl) ?_
  refine lv_bipush (v := 60) hx hb d_SJ_init_34 (by decide +kernel) ?_
  refine ax_newa (atype := .int) (ty := .int) (n := 60) (N' := 60) (a0 := (60, .inl (fun _ => 0))) hx hb (hts _ xs_35) rfl hK.1 1 rfl (fun C h => by cases h) hP hD hS hA (fun _ => rfl) (by decide +kernel) (by decide +kernel) (by decide +kernel) (Nat.le_of_ble_eq_true rfl) (Nat.le_of_ble_eq_true rfl) d_SJ_init_36 (fun q_5 H hP hD hS => ?_)
  have hP : va_P (dC, dI) classes [(h0, .inr (15, [.ref q_1, .null, .null, .int 0, .int 0, .int 0, .int 0, .int 0, .int 0, .int 0, .ref q_3, .int 0, .int 0, .ref q_4, .int 0, .null, .int 0, .int 0, .int 0, .int 0, .int 0])), (q_5, .inl (ca 1, 60, .inl (fun _ => 0)))] H := hP
  have hD : va_D A [(h0, .inr (15, [.ref q_1, .null, .null, .int 0, .int 0, .int 0, .int 0, .int 0, .int 0, .int 0, .ref q_3, .int 0, .int 0, .ref q_4, .int 0, .null, .int 0, .int 0, .int 0, .int 0, .int 0])), (q_5, .inl (ca 1, 60, .inl (fun _ => 0)))] := hD
  refine W.widen (k := 5) (n := 2693) (Nat.le_of_ble_eq_true rfl) (Nat.le_of_ble_eq_true rfl) ?_
  refine va_putF (D := (dC, dI)) (ci := 15) (v := .ref q_5) (ty := .array (.int)) (C := R_SJ) (T := F_SJ) (N := 21) hx hb hts i_SJ t_SJ t_SJ_ok n_SJ hown hK.1 hP hD hS 0 rfl rfl 15 (by decide) (hts _ xs_128) (fun _ h9 => h9) rfl hin rfl (by decide +kernel) rfl rfl (Nat.le_of_ble_eq_true rfl) d_SJ_init_38 (fun H locs hP hD hS => ?_)
  have hP : va_P (dC, dI) classes [(h0, .inr (15, [.ref q_1, .null, .null, .int 0, .int 0, .int 0, .int 0, .int 0, .int 0, .int 0, .ref q_3, .int 0, .int 0, .ref q_4, .int 0, .ref q_5, .int 0, .int 0, .int 0, .int 0, .int 0])), (q_5, .inl (ca 1, 60, .inl (fun _ => 0)))] H := hP
  have hD : va_D A [(h0, .inr (15, [.ref q_1, .null, .null, .int 0, .int 0, .int 0, .int 0, .int 0, .int 0, .int 0, .ref q_3, .int 0, .int 0, .ref q_4, .int 0, .ref q_5, .int 0, .int 0, .int 0, .int 0, .int 0])), (q_5, .inl (ca 1, 60, .inl (fun _ => 0)))] := hD
  have hP := hP.sub (ws' := [(h0, .inr (15, [.ref q_1, .null, .null, .int 0, .int 0, .int 0, .int 0, .int 0, .int 0, .int 0, .ref q_3, .int 0, .int 0, .ref q_4, .int 0, .ref q_5, .int 0, .int 0, .int 0, .int 0, .int 0]))]) [0] rfl
  have hD := hD.sub (ws' := [(h0, .inr (15, [.ref q_1, .null, .null, .int 0, .int 0, .int 0, .int 0, .int 0, .int 0, .int 0, .ref q_3, .int 0, .int 0, .ref q_4, .int 0, .ref q_5, .int 0, .int 0, .int 0, .int 0, .int 0]))]) [0] (by decide) rfl
  refine lv_aload_n hx hb d_SJ_init_41 rfl (lv_at hl 0 rfl) ?_
  refine lv_aload_n hx hb d_SJ_init_42 rfl (lv_at hl 1 rfl) ?_
  refine va_putF (D := (dC, dI)) (ci := 15) (v := .ref n0) (ty := .object "SourceBack$Maker") (C := R_SJ) (T := F_SJ) (N := 21) hx hb hts i_SJ t_SJ t_SJ_ok n_SJ hown hK.1 hP hD hS 0 rfl rfl 1 (by decide) (hts _ xs_125) (fun _ h9 => h9) rfl hin rfl (by decide +kernel) rfl rfl (Nat.le_of_ble_eq_true rfl) d_SJ_init_43 (fun H locs hP hD hS => ?_)
  have hP : va_P (dC, dI) classes [(h0, .inr (15, [.ref q_1, .ref n0, .null, .int 0, .int 0, .int 0, .int 0, .int 0, .int 0, .int 0, .ref q_3, .int 0, .int 0, .ref q_4, .int 0, .ref q_5, .int 0, .int 0, .int 0, .int 0, .int 0]))] H := hP
  have hD : va_D A [(h0, .inr (15, [.ref q_1, .ref n0, .null, .int 0, .int 0, .int 0, .int 0, .int 0, .int 0, .int 0, .ref q_3, .int 0, .int 0, .ref q_4, .int 0, .ref q_5, .int 0, .int 0, .int 0, .int 0, .int 0]))] := hD
  exact ax_vret hx hb hr hlocks hP hD hS [.ref q_1, .ref n0, .null, .int 0, .int 0, .int 0, .int 0, .int 0, .int 0, .int 0, .ref q_3, .int 0, .int 0, .ref q_4, .int 0, .ref q_5, .int 0, .int 0, .int 0, .int 0, .int 0] rfl [0] rfl (by decide) rfl (Nat.le_of_ble_eq_true rfl) (Nat.le_of_ble_eq_true rfl) d_SJ_init_46
theorem d_SD_init_0 : decode b_SD_init 0 = .ok (.aload_n 0, 1) := by decide +kernel
theorem d_SD_init_1 : decode b_SD_init 1 = .ok (.invokespecial 3, 3) := by decide +kernel
theorem d_SD_init_4 : decode b_SD_init 4 = .ok (.aload_n 0, 1) := by decide +kernel
theorem d_SD_init_5 : decode b_SD_init 5 = .ok (.bipush 16, 2) := by decide +kernel
theorem d_SD_init_7 : decode b_SD_init 7 = .ok (.anewarray 9, 3) := by decide +kernel
theorem d_SD_init_10 : decode b_SD_init 10 = .ok (.putfield 11, 3) := by decide +kernel
theorem d_SD_init_13 : decode b_SD_init 13 = .ok (.aload_n 0, 1) := by decide +kernel
theorem d_SD_init_14 : decode b_SD_init 14 = .ok (.bipush 16, 2) := by decide +kernel
theorem d_SD_init_16 : decode b_SD_init 16 = .ok (.anewarray 17, 3) := by decide +kernel
theorem d_SD_init_19 : decode b_SD_init 19 = .ok (.putfield 19, 3) := by decide +kernel
theorem d_SD_init_22 : decode b_SD_init 22 = .ok (.aload_n 0, 1) := by decide +kernel
theorem d_SD_init_23 : decode b_SD_init 23 = .ok (.iconst 4, 1) := by decide +kernel
theorem d_SD_init_24 : decode b_SD_init 24 = .ok (.newarray .int, 2) := by decide +kernel
theorem d_SD_init_26 : decode b_SD_init 26 = .ok (.putfield 23, 3) := by decide +kernel
theorem d_SD_init_29 : decode b_SD_init 29 = .ok (.aload_n 0, 1) := by decide +kernel
theorem d_SD_init_30 : decode b_SD_init 30 = .ok (.bipush 16, 2) := by decide +kernel
theorem d_SD_init_32 : decode b_SD_init 32 = .ok (.newarray .long, 2) := by decide +kernel
theorem d_SD_init_34 : decode b_SD_init 34 = .ok (.putfield 27, 3) := by decide +kernel
theorem d_SD_init_37 : decode b_SD_init 37 = .ok (.aload_n 0, 1) := by decide +kernel
theorem d_SD_init_38 : decode b_SD_init 38 = .ok (.sipush 240, 3) := by decide +kernel
theorem d_SD_init_41 : decode b_SD_init 41 = .ok (.newarray .int, 2) := by decide +kernel
theorem d_SD_init_43 : decode b_SD_init 43 = .ok (.putfield 30, 3) := by decide +kernel
theorem d_SD_init_46 : decode b_SD_init 46 = .ok (.aload_n 0, 1) := by decide +kernel
theorem d_SD_init_47 : decode b_SD_init 47 = .ok (.bipush 124, 2) := by decide +kernel
theorem d_SD_init_49 : decode b_SD_init 49 = .ok (.newarray .long, 2) := by decide +kernel
theorem d_SD_init_51 : decode b_SD_init 51 = .ok (.putfield 33, 3) := by decide +kernel
theorem d_SD_init_54 : decode b_SD_init 54 = .ok (.return_, 1) := by decide +kernel
set_option maxHeartbeats 4000000 in
set_option maxRecDepth 100000 in
theorem c_SD_init (l : Launch) (dC : Nat → ClassId) (dI : Nat → Nat → Nat) (ca : Nat → ClassId) (h0 : Nat) : CT l classes (dC, dI) (sK dC dI ca) sk y_SD_init b_SD_init 1 none 1 12 6 416 [.ref h0] [(h0, .inr (17, [.null, .int 0, .null, .int 0, .null, .null, .null, .int 0, .null, .int 0, .int 0, .long 0, .long 0, .int 0]))] (fun (v : Option Value) (_ : Nat × Nat × Nat × Nat × Nat × Nat) => v = none) (fun (u : Nat × Nat × Nat × Nat × Nat × Nat) => match u with | (q_1, q_2, q_3, q_4, q_5, q_6) => [(h0, .inr (17, [.ref q_1, .int 0, .ref q_2, .int 0, .ref q_3, .ref q_4, .ref q_5, .int 0, .ref q_6, .int 0, .int 0, .long 0, .long 0, .int 0]))]) := by
  refine ax_of (by decide) (Nat.le_of_ble_eq_true rfl) ?_
  intro p e s m below meth c A ls hAt hK hP hD hS hA hl
  obtain ⟨hx, hb, hr, hml, hown, hts, hlocks, hin⟩ := hAt
  have hin : meth.name = "<init>" := hin
  have hl : lv_has ls 1 [(0, .ref h0)] := hl
  refine lv_aload_n hx hb d_SD_init_0 rfl (lv_at hl 0 rfl) ?_
  refine W.objInit hx hb hown (hts _ xs_133) (hts _ xs_22) (hts _ xs_23) rfl (by rw [hml]; exact hl.1) rfl d_SD_init_1 (Nat.le_of_ble_eq_true rfl) (Nat.le_of_ble_eq_true rfl) ?_
  refine W.eq (g2 := F0 m 4 ls []) rfl ?_
  refine lv_aload_n hx hb d_SD_init_4 rfl (lv_at hl 0 rfl) ?_
  refine lv_bipush (v := 16) hx hb d_SD_init_5 (by decide +kernel) ?_
  refine ax_newqK (n := 16) (N' := 16) hx hb hown (hts _ xs_134) (hK.2.2.1 _ (List.mem_of_getElem? (i := 0) rfl)) hK.1 6 rfl hP hD hS hA (by decide +kernel) (by decide +kernel) (by decide +kernel) (Nat.le_of_ble_eq_true rfl) (Nat.le_of_ble_eq_true rfl) d_SD_init_7 (fun q_1 H hP hD hS => ?_)
  have hP : va_P (dC, dI) classes [(h0, .inr (17, [.null, .int 0, .null, .int 0, .null, .null, .null, .int 0, .null, .int 0, .int 0, .long 0, .long 0, .int 0])), (q_1, .inl (ca 6, 16, .inr (.inr (.inr (.inr (fun _ => none))))))] H := hP
  have hD : va_D A [(h0, .inr (17, [.null, .int 0, .null, .int 0, .null, .null, .null, .int 0, .null, .int 0, .int 0, .long 0, .long 0, .int 0])), (q_1, .inl (ca 6, 16, .inr (.inr (.inr (.inr (fun _ => none))))))] := hD
  refine W.widen (k := 1) (n := 16) (Nat.le_of_ble_eq_true rfl) (Nat.le_of_ble_eq_true rfl) ?_
  refine va_putF (D := (dC, dI)) (ci := 17) (v := .ref q_1) (ty := .array (.object "SourceBack$Form")) (C := R_SD) (T := F_SD) (N := 14) hx hb hts i_SD t_SD t_SD_ok n_SD hown hK.1 hP hD hS 0 rfl rfl 0 (by decide) (hts _ xs_136) (fun _ h9 => h9) rfl hin rfl (by decide +kernel) rfl rfl (Nat.le_of_ble_eq_true rfl) d_SD_init_10 (fun H locs hP hD hS => ?_)
  have hP : va_P (dC, dI) classes [(h0, .inr (17, [.ref q_1, .int 0, .null, .int 0, .null, .null, .null, .int 0, .null, .int 0, .int 0, .long 0, .long 0, .int 0])), (q_1, .inl (ca 6, 16, .inr (.inr (.inr (.inr (fun _ => none))))))] H := hP
  have hD : va_D A [(h0, .inr (17, [.ref q_1, .int 0, .null, .int 0, .null, .null, .null, .int 0, .null, .int 0, .int 0, .long 0, .long 0, .int 0])), (q_1, .inl (ca 6, 16, .inr (.inr (.inr (.inr (fun _ => none))))))] := hD
  have hP := hP.sub (ws' := [(h0, .inr (17, [.ref q_1, .int 0, .null, .int 0, .null, .null, .null, .int 0, .null, .int 0, .int 0, .long 0, .long 0, .int 0]))]) [0] rfl
  have hD := hD.sub (ws' := [(h0, .inr (17, [.ref q_1, .int 0, .null, .int 0, .null, .null, .null, .int 0, .null, .int 0, .int 0, .long 0, .long 0, .int 0]))]) [0] (by decide) rfl
  refine lv_aload_n hx hb d_SD_init_13 rfl (lv_at hl 0 rfl) ?_
  refine lv_bipush (v := 16) hx hb d_SD_init_14 (by decide +kernel) ?_
  refine ax_newqA (ty := .long) (n := 16) (N' := 16) hx hb hown (hts _ xs_135) hK.2.2.2.2 hP hD hS (by decide +kernel) (by decide +kernel) (by decide +kernel) (Nat.le_of_ble_eq_true rfl) (Nat.le_of_ble_eq_true rfl) d_SD_init_16 (fun q_2 H hP hD hS => ?_)
  have hP : va_P (dC, dI) classes [(h0, .inr (17, [.ref q_1, .int 0, .null, .int 0, .null, .null, .null, .int 0, .null, .int 0, .int 0, .long 0, .long 0, .int 0]))] H := hP
  have hD : va_D A [(h0, .inr (17, [.ref q_1, .int 0, .null, .int 0, .null, .null, .null, .int 0, .null, .int 0, .int 0, .long 0, .long 0, .int 0]))] := hD
  refine W.widen (k := 2) (n := 32) (Nat.le_of_ble_eq_true rfl) (Nat.le_of_ble_eq_true rfl) ?_
  refine va_putF (D := (dC, dI)) (ci := 17) (v := .ref q_2) (ty := .array (.array (.long))) (C := R_SD) (T := F_SD) (N := 14) hx hb hts i_SD t_SD t_SD_ok n_SD hown hK.1 hP hD hS 0 rfl rfl 2 (by decide) (hts _ xs_139) (fun _ h9 => h9) rfl hin rfl (by decide +kernel) rfl rfl (Nat.le_of_ble_eq_true rfl) d_SD_init_19 (fun H locs hP hD hS => ?_)
  have hP : va_P (dC, dI) classes [(h0, .inr (17, [.ref q_1, .int 0, .ref q_2, .int 0, .null, .null, .null, .int 0, .null, .int 0, .int 0, .long 0, .long 0, .int 0]))] H := hP
  have hD : va_D A [(h0, .inr (17, [.ref q_1, .int 0, .ref q_2, .int 0, .null, .null, .null, .int 0, .null, .int 0, .int 0, .long 0, .long 0, .int 0]))] := hD
  refine lv_aload_n hx hb d_SD_init_22 rfl (lv_at hl 0 rfl) ?_
  refine lv_iconst (v := 4) hx hb d_SD_init_23 (by decide) ?_
  refine ax_newa (atype := .int) (ty := .int) (n := 4) (N' := 4) (a0 := (4, .inl (fun _ => 0))) hx hb (hts _ xs_35) rfl hK.1 1 rfl (fun C h => by cases h) hP hD hS hA (fun _ => rfl) (by decide +kernel) (by decide +kernel) (by decide +kernel) (Nat.le_of_ble_eq_true rfl) (Nat.le_of_ble_eq_true rfl) d_SD_init_24 (fun q_3 H hP hD hS => ?_)
  have hP : va_P (dC, dI) classes [(h0, .inr (17, [.ref q_1, .int 0, .ref q_2, .int 0, .null, .null, .null, .int 0, .null, .int 0, .int 0, .long 0, .long 0, .int 0])), (q_3, .inl (ca 1, 4, .inl (fun _ => 0)))] H := hP
  have hD : va_D A [(h0, .inr (17, [.ref q_1, .int 0, .ref q_2, .int 0, .null, .null, .null, .int 0, .null, .int 0, .int 0, .long 0, .long 0, .int 0])), (q_3, .inl (ca 1, 4, .inl (fun _ => 0)))] := hD
  refine W.widen (k := 3) (n := 36) (Nat.le_of_ble_eq_true rfl) (Nat.le_of_ble_eq_true rfl) ?_
  refine va_put (D := (dC, dI)) (ci := 17) (v := .ref q_3) (ty := .array (.int)) (C := R_SD) (T := F_SD) (N := 14) hx hb hts i_SD t_SD t_SD_ok n_SD hown hK.1 hP hD hS 0 rfl rfl 4 (by decide) (hts _ xs_142) (fun _ h9 => h9) rfl (by decide +kernel) rfl rfl (Nat.le_of_ble_eq_true rfl) d_SD_init_26 (fun H locs hP hD hS => ?_)
  have hP : va_P (dC, dI) classes [(h0, .inr (17, [.ref q_1, .int 0, .ref q_2, .int 0, .ref q_3, .null, .null, .int 0, .null, .int 0, .int 0, .long 0, .long 0, .int 0])), (q_3, .inl (ca 1, 4, .inl (fun _ => 0)))] H := hP
  have hD : va_D A [(h0, .inr (17, [.ref q_1, .int 0, .ref q_2, .int 0, .ref q_3, .null, .null, .int 0, .null, .int 0, .int 0, .long 0, .long 0, .int 0])), (q_3, .inl (ca 1, 4, .inl (fun _ => 0)))] := hD
  have hP := hP.sub (ws' := [(h0, .inr (17, [.ref q_1, .int 0, .ref q_2, .int 0, .ref q_3, .null, .null, .int 0, .null, .int 0, .int 0, .long 0, .long 0, .int 0]))]) [0] rfl
  have hD := hD.sub (ws' := [(h0, .inr (17, [.ref q_1, .int 0, .ref q_2, .int 0, .ref q_3, .null, .null, .int 0, .null, .int 0, .int 0, .long 0, .long 0, .int 0]))]) [0] (by decide) rfl
  refine lv_aload_n hx hb d_SD_init_29 rfl (lv_at hl 0 rfl) ?_
  refine lv_bipush (v := 16) hx hb d_SD_init_30 (by decide +kernel) ?_
  refine ax_newa (atype := .long) (ty := .long) (n := 16) (N' := 16) (a0 := (16, .inr (.inl (fun _ => 0)))) hx hb (hts _ xs_51) rfl hK.1 2 rfl (fun C h => by cases h) hP hD hS hA (fun _ => rfl) (by decide +kernel) (by decide +kernel) (by decide +kernel) (Nat.le_of_ble_eq_true rfl) (Nat.le_of_ble_eq_true rfl) d_SD_init_32 (fun q_4 H hP hD hS => ?_)
  have hP : va_P (dC, dI) classes [(h0, .inr (17, [.ref q_1, .int 0, .ref q_2, .int 0, .ref q_3, .null, .null, .int 0, .null, .int 0, .int 0, .long 0, .long 0, .int 0])), (q_4, .inl (ca 2, 16, .inr (.inl (fun _ => 0))))] H := hP
  have hD : va_D A [(h0, .inr (17, [.ref q_1, .int 0, .ref q_2, .int 0, .ref q_3, .null, .null, .int 0, .null, .int 0, .int 0, .long 0, .long 0, .int 0])), (q_4, .inl (ca 2, 16, .inr (.inl (fun _ => 0))))] := hD
  refine W.widen (k := 4) (n := 52) (Nat.le_of_ble_eq_true rfl) (Nat.le_of_ble_eq_true rfl) ?_
  refine va_put (D := (dC, dI)) (ci := 17) (v := .ref q_4) (ty := .array (.long)) (C := R_SD) (T := F_SD) (N := 14) hx hb hts i_SD t_SD t_SD_ok n_SD hown hK.1 hP hD hS 0 rfl rfl 5 (by decide) (hts _ xs_143) (fun _ h9 => h9) rfl (by decide +kernel) rfl rfl (Nat.le_of_ble_eq_true rfl) d_SD_init_34 (fun H locs hP hD hS => ?_)
  have hP : va_P (dC, dI) classes [(h0, .inr (17, [.ref q_1, .int 0, .ref q_2, .int 0, .ref q_3, .ref q_4, .null, .int 0, .null, .int 0, .int 0, .long 0, .long 0, .int 0])), (q_4, .inl (ca 2, 16, .inr (.inl (fun _ => 0))))] H := hP
  have hD : va_D A [(h0, .inr (17, [.ref q_1, .int 0, .ref q_2, .int 0, .ref q_3, .ref q_4, .null, .int 0, .null, .int 0, .int 0, .long 0, .long 0, .int 0])), (q_4, .inl (ca 2, 16, .inr (.inl (fun _ => 0))))] := hD
  have hP := hP.sub (ws' := [(h0, .inr (17, [.ref q_1, .int 0, .ref q_2, .int 0, .ref q_3, .ref q_4, .null, .int 0, .null, .int 0, .int 0, .long 0, .long 0, .int 0]))]) [0] rfl
  have hD := hD.sub (ws' := [(h0, .inr (17, [.ref q_1, .int 0, .ref q_2, .int 0, .ref q_3, .ref q_4, .null, .int 0, .null, .int 0, .int 0, .long 0, .long 0, .int 0]))]) [0] (by decide) rfl
  refine lv_aload_n hx hb d_SD_init_37 rfl (lv_at hl 0 rfl) ?_
  refine lv_sipush (v := 240) hx hb d_SD_init_38 (by decide +kernel) ?_
  refine ax_newa (atype := .int) (ty := .int) (n := 240) (N' := 240) (a0 := (240, .inl (fun _ => 0))) hx hb (hts _ xs_35) rfl hK.1 1 rfl (fun C h => by cases h) hP hD hS hA (fun _ => rfl) (by decide +kernel) (by decide +kernel) (by decide +kernel) (Nat.le_of_ble_eq_true rfl) (Nat.le_of_ble_eq_true rfl) d_SD_init_41 (fun q_5 H hP hD hS => ?_)
  have hP : va_P (dC, dI) classes [(h0, .inr (17, [.ref q_1, .int 0, .ref q_2, .int 0, .ref q_3, .ref q_4, .null, .int 0, .null, .int 0, .int 0, .long 0, .long 0, .int 0])), (q_5, .inl (ca 1, 240, .inl (fun _ => 0)))] H := hP
  have hD : va_D A [(h0, .inr (17, [.ref q_1, .int 0, .ref q_2, .int 0, .ref q_3, .ref q_4, .null, .int 0, .null, .int 0, .int 0, .long 0, .long 0, .int 0])), (q_5, .inl (ca 1, 240, .inl (fun _ => 0)))] := hD
  refine W.widen (k := 5) (n := 292) (Nat.le_of_ble_eq_true rfl) (Nat.le_of_ble_eq_true rfl) ?_
  refine va_putF (D := (dC, dI)) (ci := 17) (v := .ref q_5) (ty := .array (.int)) (C := R_SD) (T := F_SD) (N := 14) hx hb hts i_SD t_SD t_SD_ok n_SD hown hK.1 hP hD hS 0 rfl rfl 6 (by decide) (hts _ xs_144) (fun _ h9 => h9) rfl hin rfl (by decide +kernel) rfl rfl (Nat.le_of_ble_eq_true rfl) d_SD_init_43 (fun H locs hP hD hS => ?_)
  have hP : va_P (dC, dI) classes [(h0, .inr (17, [.ref q_1, .int 0, .ref q_2, .int 0, .ref q_3, .ref q_4, .ref q_5, .int 0, .null, .int 0, .int 0, .long 0, .long 0, .int 0])), (q_5, .inl (ca 1, 240, .inl (fun _ => 0)))] H := hP
  have hD : va_D A [(h0, .inr (17, [.ref q_1, .int 0, .ref q_2, .int 0, .ref q_3, .ref q_4, .ref q_5, .int 0, .null, .int 0, .int 0, .long 0, .long 0, .int 0])), (q_5, .inl (ca 1, 240, .inl (fun _ => 0)))] := hD
  have hP := hP.sub (ws' := [(h0, .inr (17, [.ref q_1, .int 0, .ref q_2, .int 0, .ref q_3, .ref q_4, .ref q_5, .int 0, .null, .int 0, .int 0, .long 0, .long 0, .int 0]))]) [0] rfl
  have hD := hD.sub (ws' := [(h0, .inr (17, [.ref q_1, .int 0, .ref q_2, .int 0, .ref q_3, .ref q_4, .ref q_5, .int 0, .null, .int 0, .int 0, .long 0, .long 0, .int 0]))]) [0] (by decide) rfl
  refine lv_aload_n hx hb d_SD_init_46 rfl (lv_at hl 0 rfl) ?_
  refine lv_bipush (v := 124) hx hb d_SD_init_47 (by decide +kernel) ?_
  refine ax_newa (atype := .long) (ty := .long) (n := 124) (N' := 124) (a0 := (124, .inr (.inl (fun _ => 0)))) hx hb (hts _ xs_51) rfl hK.1 2 rfl (fun C h => by cases h) hP hD hS hA (fun _ => rfl) (by decide +kernel) (by decide +kernel) (by decide +kernel) (Nat.le_of_ble_eq_true rfl) (Nat.le_of_ble_eq_true rfl) d_SD_init_49 (fun q_6 H hP hD hS => ?_)
  have hP : va_P (dC, dI) classes [(h0, .inr (17, [.ref q_1, .int 0, .ref q_2, .int 0, .ref q_3, .ref q_4, .ref q_5, .int 0, .null, .int 0, .int 0, .long 0, .long 0, .int 0])), (q_6, .inl (ca 2, 124, .inr (.inl (fun _ => 0))))] H := hP
  have hD : va_D A [(h0, .inr (17, [.ref q_1, .int 0, .ref q_2, .int 0, .ref q_3, .ref q_4, .ref q_5, .int 0, .null, .int 0, .int 0, .long 0, .long 0, .int 0])), (q_6, .inl (ca 2, 124, .inr (.inl (fun _ => 0))))] := hD
  refine W.widen (k := 6) (n := 416) (Nat.le_of_ble_eq_true rfl) (Nat.le_of_ble_eq_true rfl) ?_
  refine va_put (D := (dC, dI)) (ci := 17) (v := .ref q_6) (ty := .array (.long)) (C := R_SD) (T := F_SD) (N := 14) hx hb hts i_SD t_SD t_SD_ok n_SD hown hK.1 hP hD hS 0 rfl rfl 8 (by decide) (hts _ xs_146) (fun _ h9 => h9) rfl (by decide +kernel) rfl rfl (Nat.le_of_ble_eq_true rfl) d_SD_init_51 (fun H locs hP hD hS => ?_)
  have hP : va_P (dC, dI) classes [(h0, .inr (17, [.ref q_1, .int 0, .ref q_2, .int 0, .ref q_3, .ref q_4, .ref q_5, .int 0, .ref q_6, .int 0, .int 0, .long 0, .long 0, .int 0])), (q_6, .inl (ca 2, 124, .inr (.inl (fun _ => 0))))] H := hP
  have hD : va_D A [(h0, .inr (17, [.ref q_1, .int 0, .ref q_2, .int 0, .ref q_3, .ref q_4, .ref q_5, .int 0, .ref q_6, .int 0, .int 0, .long 0, .long 0, .int 0])), (q_6, .inl (ca 2, 124, .inr (.inl (fun _ => 0))))] := hD
  have hP := hP.sub (ws' := [(h0, .inr (17, [.ref q_1, .int 0, .ref q_2, .int 0, .ref q_3, .ref q_4, .ref q_5, .int 0, .ref q_6, .int 0, .int 0, .long 0, .long 0, .int 0]))]) [0] rfl
  have hD := hD.sub (ws' := [(h0, .inr (17, [.ref q_1, .int 0, .ref q_2, .int 0, .ref q_3, .ref q_4, .ref q_5, .int 0, .ref q_6, .int 0, .int 0, .long 0, .long 0, .int 0]))]) [0] (by decide) rfl
  exact ax_vret hx hb hr hlocks hP hD hS (q_1, q_2, q_3, q_4, q_5, q_6) rfl [0] rfl (by decide) rfl (Nat.le_of_ble_eq_true rfl) (Nat.le_of_ble_eq_true rfl) d_SD_init_54
