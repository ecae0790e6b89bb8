/-- the fields of a form of which nothing is known -/
def fQ (r : Nat → Nat) : List Value := [.ref (r 0), .int 0, .int 0, .ref (r 3), .int 0, .int 0, .ref (r 6), .int 0, .ref (r 8), .ref (r 9), .ref (r 10), .ref (r 11), .ref (r 12), .int 0, .null, .int 0]
theorem d_SQ_init_0 : decode b_SQ_init 0 = .ok (.aload_n 0, 1) := by decide +kernel
theorem d_SQ_init_1 : decode b_SQ_init 1 = .ok (.invokespecial 3, 3) := by decide +kernel
theorem d_SQ_init_4 : decode b_SQ_init 4 = .ok (.aload_n 0, 1) := by decide +kernel
theorem d_SQ_init_5 : decode b_SQ_init 5 = .ok (.iconst 0, 1) := by decide +kernel
theorem d_SQ_init_6 : decode b_SQ_init 6 = .ok (.newarray .byte, 2) := by decide +kernel
theorem d_SQ_init_8 : decode b_SQ_init 8 = .ok (.putfield 9, 3) := by decide +kernel
theorem d_SQ_init_11 : decode b_SQ_init 11 = .ok (.aload_n 0, 1) := by decide +kernel
theorem d_SQ_init_12 : decode b_SQ_init 12 = .ok (.iconst 1, 1) := by decide +kernel
theorem d_SQ_init_13 : decode b_SQ_init 13 = .ok (.newarray .int, 2) := by decide +kernel
theorem d_SQ_init_15 : decode b_SQ_init 15 = .ok (.putfield 15, 3) := by decide +kernel
theorem d_SQ_init_18 : decode b_SQ_init 18 = .ok (.aload_n 0, 1) := by decide +kernel
theorem d_SQ_init_19 : decode b_SQ_init 19 = .ok (.iconst 0, 1) := by decide +kernel
theorem d_SQ_init_20 : decode b_SQ_init 20 = .ok (.newarray .int, 2) := by decide +kernel
theorem d_SQ_init_22 : decode b_SQ_init 22 = .ok (.putfield 19, 3) := by decide +kernel
theorem d_SQ_init_25 : decode b_SQ_init 25 = .ok (.aload_n 0, 1) := by decide +kernel
theorem d_SQ_init_26 : decode b_SQ_init 26 = .ok (.iconst 0, 1) := by decide +kernel
theorem d_SQ_init_27 : decode b_SQ_init 27 = .ok (.newarray .int, 2) := by decide +kernel
theorem d_SQ_init_29 : decode b_SQ_init 29 = .ok (.putfield 22, 3) := by decide +kernel
theorem d_SQ_init_32 : decode b_SQ_init 32 = .ok (.aload_n 0, 1) := by decide +kernel
theorem d_SQ_init_33 : decode b_SQ_init 33 = .ok (.iconst 0, 1) := by decide +kernel
theorem d_SQ_init_34 : decode b_SQ_init 34 = .ok (.anewarray 25, 3) := by decide +kernel
theorem d_SQ_init_37 : decode b_SQ_init 37 = .ok (.putfield 26, 3) := by decide +kernel
theorem d_SQ_init_40 : decode b_SQ_init 40 = .ok (.aload_n 0, 1) := by decide +kernel
theorem d_SQ_init_41 : decode b_SQ_init 41 = .ok (.iconst 0, 1) := by decide +kernel
theorem d_SQ_init_42 : decode b_SQ_init 42 = .ok (.newarray .byte, 2) := by decide +kernel
theorem d_SQ_init_44 : decode b_SQ_init 44 = .ok (.putfield 30, 3) := by decide +kernel
theorem d_SQ_init_47 : decode b_SQ_init 47 = .ok (.aload_n 0, 1) := by decide +kernel
theorem d_SQ_init_48 : decode b_SQ_init 48 = .ok (.iconst 0, 1) := by decide +kernel
theorem d_SQ_init_49 : decode b_SQ_init 49 = .ok (.newarray .byte, 2) := by decide +kernel
theorem d_SQ_init_51 : decode b_SQ_init 51 = .ok (.putfield 33, 3) := by decide +kernel
theorem d_SQ_init_54 : decode b_SQ_init 54 = .ok (.aload_n 0, 1) := by decide +kernel
theorem d_SQ_init_55 : decode b_SQ_init 55 = .ok (.iconst 0, 1) := by decide +kernel
theorem d_SQ_init_56 : decode b_SQ_init 56 = .ok (.newarray .int, 2) := by decide +kernel
theorem d_SQ_init_58 : decode b_SQ_init 58 = .ok (.putfield 36, 3) := by decide +kernel
theorem d_SQ_init_61 : decode b_SQ_init 61 = .ok (.return_, 1) := by decide +kernel
set_option maxHeartbeats 4000000 in
set_option maxRecDepth 100000 in
theorem c_SQ_init (l : Launch) (dC : Nat → ClassId) (dI : Nat → Nat → Nat) (ca : Nat → ClassId) (h0 : Nat) : CT l classes (dC, dI) (sK dC dI ca) sk y_SQ_init b_SQ_init 1 none 1 12 8 1 [.ref h0] [(h0, .inr (18, [.null, .int 0, .int 0, .null, .int 0, .int 0, .null, .int 0, .null, .null, .null, .null, .null, .int 0, .null, .int 0]))] (fun (v : Option Value) (u : Nat → Nat) => v = none) (fun (u : Nat → Nat) => [(h0, .inr (18, fQ u)), (u 0, .inl (ca 0, 0, .inl (fun _ => 0)))]) := by
  refine ax_of (by decide) (Nat.le_of_ble_eq_true rfl) ?_
  intro p e s m below meth c A ls hAt hK hP hD hS hA hl
  obtain ⟨hx, hb, hr, hml, hown, hts, hlocks, hin⟩ := hAt
  have hl : lv_has ls 1 [(0, .ref h0)] := hl
  have hin : meth.name = "<init>" := hin
  refine lv_aload_n hx hb d_SQ_init_0 rfl (lv_at hl 0 rfl) ?_
  refine W.objInit hx hb hown (hts _ xs_185) (hts _ xs_22) (hts _ xs_23) rfl (by rw [hml]; exact hl.1) rfl d_SQ_init_1 (Nat.le_of_ble_eq_true rfl) (Nat.le_of_ble_eq_true rfl) ?_
  refine W.eq (g2 := F0 m 4 ls []) rfl ?_
  refine lv_aload_n hx hb d_SQ_init_4 rfl (lv_at hl 0 rfl) ?_
  refine lv_iconst (v := 0) hx hb d_SQ_init_5 (by decide) ?_
  refine ax_newa (atype := .byte) (ty := .byte) (n := 0) (N' := 0) (a0 := (0, .inl (fun _ => 0))) hx hb (hts _ xs_34) rfl hK.1 0 rfl (fun C h => by cases h) hP hD hS hA (fun _ => rfl) (by decide +kernel) (by decide +kernel) (by decide +kernel) (Nat.le_of_ble_eq_true rfl) (Nat.le_of_ble_eq_true rfl) d_SQ_init_6 (fun q_1 H hP hD hS => ?_)
  have hP : va_P (dC, dI) classes [(h0, .inr (18, [.null, .int 0, .int 0, .null, .int 0, .int 0, .null, .int 0, .null, .null, .null, .null, .null, .int 0, .null, .int 0])), (q_1, .inl (ca 0, 0, .inl (fun _ => 0)))] H := hP
  have hD : va_D A [(h0, .inr (18, [.null, .int 0, .int 0, .null, .int 0, .int 0, .null, .int 0, .null, .null, .null, .null, .null, .int 0, .null, .int 0])), (q_1, .inl (ca 0, 0, .inl (fun _ => 0)))] := hD
  refine W.widen (k := 1) (n := 0) (Nat.le_of_ble_eq_true rfl) (Nat.le_of_ble_eq_true rfl) ?_
  refine va_put (D := (dC, dI)) (ci := 18) (v := .ref q_1) (ty := .array (.byte)) (C := R_SQ) (T := F_SQ) (N := 16) hx hb hts i_SQ t_SQ t_SQ_ok n_SQ hown hK.1 hP hD hS 0 rfl rfl 0 (by decide) (hts _ xs_187) (fun _ h9 => h9) rfl (by decide +kernel) rfl rfl (Nat.le_of_ble_eq_true rfl) d_SQ_init_8 (fun H locs hP hD hS => ?_)
  have hP : va_P (dC, dI) classes [(h0, .inr (18, [.ref q_1, .int 0, .int 0, .null, .int 0, .int 0, .null, .int 0, .null, .null, .null, .null, .null, .int 0, .null, .int 0])), (q_1, .inl (ca 0, 0, .inl (fun _ => 0)))] H := hP
  have hD : va_D A [(h0, .inr (18, [.ref q_1, .int 0, .int 0, .null, .int 0, .int 0, .null, .int 0, .null, .null, .null, .null, .null, .int 0, .null, .int 0])), (q_1, .inl (ca 0, 0, .inl (fun _ => 0)))] := hD
  refine lv_aload_n hx hb d_SQ_init_11 rfl (lv_at hl 0 rfl) ?_
  refine lv_iconst (v := 1) hx hb d_SQ_init_12 (by decide) ?_
  refine ax_newa (atype := .int) (ty := .int) (n := 1) (N' := 1) (a0 := (1, .inl (fun _ => 0))) hx hb (hts _ xs_35) rfl hK.1 1 rfl (fun C h => by cases h) hP hD hS hA (fun _ => rfl) (by decide +kernel) (by decide +kernel) (by decide +kernel) (Nat.le_of_ble_eq_true rfl) (Nat.le_of_ble_eq_true rfl) d_SQ_init_13 (fun q_2 H hP hD hS => ?_)
  have hP : va_P (dC, dI) classes [(h0, .inr (18, [.ref q_1, .int 0, .int 0, .null, .int 0, .int 0, .null, .int 0, .null, .null, .null, .null, .null, .int 0, .null, .int 0])), (q_1, .inl (ca 0, 0, .inl (fun _ => 0))), (q_2, .inl (ca 1, 1, .inl (fun _ => 0)))] H := hP
  have hD : va_D A [(h0, .inr (18, [.ref q_1, .int 0, .int 0, .null, .int 0, .int 0, .null, .int 0, .null, .null, .null, .null, .null, .int 0, .null, .int 0])), (q_1, .inl (ca 0, 0, .inl (fun _ => 0))), (q_2, .inl (ca 1, 1, .inl (fun _ => 0)))] := hD
  refine W.widen (k := 2) (n := 1) (Nat.le_of_ble_eq_true rfl) (Nat.le_of_ble_eq_true rfl) ?_
  refine va_put (D := (dC, dI)) (ci := 18) (v := .ref q_2) (ty := .array (.int)) (C := R_SQ) (T := F_SQ) (N := 16) hx hb hts i_SQ t_SQ t_SQ_ok n_SQ hown hK.1 hP hD hS 0 rfl rfl 3 (by decide) (hts _ xs_195) (fun _ h9 => h9) rfl (by decide +kernel) rfl rfl (Nat.le_of_ble_eq_true rfl) d_SQ_init_15 (fun H locs hP hD hS => ?_)
  have hP : va_P (dC, dI) classes [(h0, .inr (18, [.ref q_1, .int 0, .int 0, .ref q_2, .int 0, .int 0, .null, .int 0, .null, .null, .null, .null, .null, .int 0, .null, .int 0])), (q_1, .inl (ca 0, 0, .inl (fun _ => 0))), (q_2, .inl (ca 1, 1, .inl (fun _ => 0)))] H := hP
  have hD : va_D A [(h0, .inr (18, [.ref q_1, .int 0, .int 0, .ref q_2, .int 0, .int 0, .null, .int 0, .null, .null, .null, .null, .null, .int 0, .null, .int 0])), (q_1, .inl (ca 0, 0, .inl (fun _ => 0))), (q_2, .inl (ca 1, 1, .inl (fun _ => 0)))] := hD
  have hP := hP.sub (ws' := [(h0, .inr (18, [.ref q_1, .int 0, .int 0, .ref q_2, .int 0, .int 0, .null, .int 0, .null, .null, .null, .null, .null, .int 0, .null, .int 0])), (q_1, .inl (ca 0, 0, .inl (fun _ => 0)))]) [0, 1] rfl
  have hD := hD.sub (ws' := [(h0, .inr (18, [.ref q_1, .int 0, .int 0, .ref q_2, .int 0, .int 0, .null, .int 0, .null, .null, .null, .null, .null, .int 0, .null, .int 0])), (q_1, .inl (ca 0, 0, .inl (fun _ => 0)))]) [0, 1] (by decide) rfl
  refine lv_aload_n hx hb d_SQ_init_18 rfl (lv_at hl 0 rfl) ?_
  refine lv_iconst (v := 0) hx hb d_SQ_init_19 (by decide) ?_
  refine ax_newa (atype := .int) (ty := .int) (n := 0) (N' := 0) (a0 := (0, .inl (fun _ => 0))) hx hb (hts _ xs_35) rfl hK.1 1 rfl (fun C h => by cases h) hP hD hS hA (fun _ => rfl) (by decide +kernel) (by decide +kernel) (by decide +kernel) (Nat.le_of_ble_eq_true rfl) (Nat.le_of_ble_eq_true rfl) d_SQ_init_20 (fun q_3 H hP hD hS => ?_)
  have hP : va_P (dC, dI) classes [(h0, .inr (18, [.ref q_1, .int 0, .int 0, .ref q_2, .int 0, .int 0, .null, .int 0, .null, .null, .null, .null, .null, .int 0, .null, .int 0])), (q_1, .inl (ca 0, 0, .inl (fun _ => 0))), (q_3, .inl (ca 1, 0, .inl (fun _ => 0)))] H := hP
  have hD : va_D A [(h0, .inr (18, [.ref q_1, .int 0, .int 0, .ref q_2, .int 0, .int 0, .null, .int 0, .null, .null, .null, .null, .null, .int 0, .null, .int 0])), (q_1, .inl (ca 0, 0, .inl (fun _ => 0))), (q_3, .inl (ca 1, 0, .inl (fun _ => 0)))] := hD
  refine W.widen (k := 3) (n := 1) (Nat.le_of_ble_eq_true rfl) (Nat.le_of_ble_eq_true rfl) ?_
  refine va_put (D := (dC, dI)) (ci := 18) (v := .ref q_3) (ty := .array (.int)) (C := R_SQ) (T := F_SQ) (N := 16) hx hb hts i_SQ t_SQ t_SQ_ok n_SQ hown hK.1 hP hD hS 0 rfl rfl 6 (by decide) (hts _ xs_201) (fun _ h9 => h9) rfl (by decide +kernel) rfl rfl (Nat.le_of_ble_eq_true rfl) d_SQ_init_22 (fun H locs hP hD hS => ?_)
  have hP : va_P (dC, dI) classes [(h0, .inr (18, [.ref q_1, .int 0, .int 0, .ref q_2, .int 0, .int 0, .ref q_3, .int 0, .null, .null, .null, .null, .null, .int 0, .null, .int 0])), (q_1, .inl (ca 0, 0, .inl (fun _ => 0))), (q_3, .inl (ca 1, 0, .inl (fun _ => 0)))] H := hP
  have hD : va_D A [(h0, .inr (18, [.ref q_1, .int 0, .int 0, .ref q_2, .int 0, .int 0, .ref q_3, .int 0, .null, .null, .null, .null, .null, .int 0, .null, .int 0])), (q_1, .inl (ca 0, 0, .inl (fun _ => 0))), (q_3, .inl (ca 1, 0, .inl (fun _ => 0)))] := hD
  have hP := hP.sub (ws' := [(h0, .inr (18, [.ref q_1, .int 0, .int 0, .ref q_2, .int 0, .int 0, .ref q_3, .int 0, .null, .null, .null, .null, .null, .int 0, .null, .int 0])), (q_1, .inl (ca 0, 0, .inl (fun _ => 0)))]) [0, 1] rfl
  have hD := hD.sub (ws' := [(h0, .inr (18, [.ref q_1, .int 0, .int 0, .ref q_2, .int 0, .int 0, .ref q_3, .int 0, .null, .null, .null, .null, .null, .int 0, .null, .int 0])), (q_1, .inl (ca 0, 0, .inl (fun _ => 0)))]) [0, 1] (by decide) rfl
  refine lv_aload_n hx hb d_SQ_init_25 rfl (lv_at hl 0 rfl) ?_
  refine lv_iconst (v := 0) hx hb d_SQ_init_26 (by decide) ?_
  refine ax_newa (atype := .int) (ty := .int) (n := 0) (N' := 0) (a0 := (0, .inl (fun _ => 0))) hx hb (hts _ xs_35) rfl hK.1 1 rfl (fun C h => by cases h) hP hD hS hA (fun _ => rfl) (by decide +kernel) (by decide +kernel) (by decide +kernel) (Nat.le_of_ble_eq_true rfl) (Nat.le_of_ble_eq_true rfl) d_SQ_init_27 (fun q_4 H hP hD hS => ?_)
  have hP : va_P (dC, dI) classes [(h0, .inr (18, [.ref q_1, .int 0, .int 0, .ref q_2, .int 0, .int 0, .ref q_3, .int 0, .null, .null, .null, .null, .null, .int 0, .null, .int 0])), (q_1, .inl (ca 0, 0, .inl (fun _ => 0))), (q_4, .inl (ca 1, 0, .inl (fun _ => 0)))] H := hP
  have hD : va_D A [(h0, .inr (18, [.ref q_1, .int 0, .int 0, .ref q_2, .int 0, .int 0, .ref q_3, .int 0, .null, .null, .null, .null, .null, .int 0, .null, .int 0])), (q_1, .inl (ca 0, 0, .inl (fun _ => 0))), (q_4, .inl (ca 1, 0, .inl (fun _ => 0)))] := hD
  refine W.widen (k := 4) (n := 1) (Nat.le_of_ble_eq_true rfl) (Nat.le_of_ble_eq_true rfl) ?_
  refine va_put (D := (dC, dI)) (ci := 18) (v := .ref q_4) (ty := .array (.int)) (C := R_SQ) (T := F_SQ) (N := 16) hx hb hts i_SQ t_SQ t_SQ_ok n_SQ hown hK.1 hP hD hS 0 rfl rfl 8 (by decide) (hts _ xs_205) (fun _ h9 => h9) rfl (by decide +kernel) rfl rfl (Nat.le_of_ble_eq_true rfl) d_SQ_init_29 (fun H locs hP hD hS => ?_)
  have hP : va_P (dC, dI) classes [(h0, .inr (18, [.ref q_1, .int 0, .int 0, .ref q_2, .int 0, .int 0, .ref q_3, .int 0, .ref q_4, .null, .null, .null, .null, .int 0, .null, .int 0])), (q_1, .inl (ca 0, 0, .inl (fun _ => 0))), (q_4, .inl (ca 1, 0, .inl (fun _ => 0)))] H := hP
  have hD : va_D A [(h0, .inr (18, [.ref q_1, .int 0, .int 0, .ref q_2, .int 0, .int 0, .ref q_3, .int 0, .ref q_4, .null, .null, .null, .null, .int 0, .null, .int 0])), (q_1, .inl (ca 0, 0, .inl (fun _ => 0))), (q_4, .inl (ca 1, 0, .inl (fun _ => 0)))] := hD
  have hP := hP.sub (ws' := [(h0, .inr (18, [.ref q_1, .int 0, .int 0, .ref q_2, .int 0, .int 0, .ref q_3, .int 0, .ref q_4, .null, .null, .null, .null, .int 0, .null, .int 0])), (q_1, .inl (ca 0, 0, .inl (fun _ => 0)))]) [0, 1] rfl
  have hD := hD.sub (ws' := [(h0, .inr (18, [.ref q_1, .int 0, .int 0, .ref q_2, .int 0, .int 0, .ref q_3, .int 0, .ref q_4, .null, .null, .null, .null, .int 0, .null, .int 0])), (q_1, .inl (ca 0, 0, .inl (fun _ => 0)))]) [0, 1] (by decide) rfl
  refine lv_aload_n hx hb d_SQ_init_32 rfl (lv_at hl 0 rfl) ?_
  refine lv_iconst (v := 0) hx hb d_SQ_init_33 (by decide) ?_
  refine ax_newqA (ty := .byte) (n := 0) (N' := 0) hx hb hown (hts _ xs_186) hK.2.2.2.1 hP hD hS (by decide +kernel) (by decide +kernel) (by decide +kernel) (Nat.le_of_ble_eq_true rfl) (Nat.le_of_ble_eq_true rfl) d_SQ_init_34 (fun q_5 H hP hD hS => ?_)
  have hP : va_P (dC, dI) classes [(h0, .inr (18, [.ref q_1, .int 0, .int 0, .ref q_2, .int 0, .int 0, .ref q_3, .int 0, .ref q_4, .null, .null, .null, .null, .int 0, .null, .int 0])), (q_1, .inl (ca 0, 0, .inl (fun _ => 0)))] H := hP
  have hD : va_D A [(h0, .inr (18, [.ref q_1, .int 0, .int 0, .ref q_2, .int 0, .int 0, .ref q_3, .int 0, .ref q_4, .null, .null, .null, .null, .int 0, .null, .int 0])), (q_1, .inl (ca 0, 0, .inl (fun _ => 0)))] := hD
  refine W.widen (k := 5) (n := 1) (Nat.le_of_ble_eq_true rfl) (Nat.le_of_ble_eq_true rfl) ?_
  refine va_put (D := (dC, dI)) (ci := 18) (v := .ref q_5) (ty := .array (.array (.byte))) (C := R_SQ) (T := F_SQ) (N := 16) hx hb hts i_SQ t_SQ t_SQ_ok n_SQ hown hK.1 hP hD hS 0 rfl rfl 9 (by decide) (hts _ xs_207) (fun _ h9 => h9) rfl (by decide +kernel) rfl rfl (Nat.le_of_ble_eq_true rfl) d_SQ_init_37 (fun H locs hP hD hS => ?_)
  have hP : va_P (dC, dI) classes [(h0, .inr (18, [.ref q_1, .int 0, .int 0, .ref q_2, .int 0, .int 0, .ref q_3, .int 0, .ref q_4, .ref q_5, .null, .null, .null, .int 0, .null, .int 0])), (q_1, .inl (ca 0, 0, .inl (fun _ => 0)))] H := hP
  have hD : va_D A [(h0, .inr (18, [.ref q_1, .int 0, .int 0, .ref q_2, .int 0, .int 0, .ref q_3, .int 0, .ref q_4, .ref q_5, .null, .null, .null, .int 0, .null, .int 0])), (q_1, .inl (ca 0, 0, .inl (fun _ => 0)))] := hD
  refine lv_aload_n hx hb d_SQ_init_40 rfl (lv_at hl 0 rfl) ?_
  refine lv_iconst (v := 0) hx hb d_SQ_init_41 (by decide) ?_
  refine ax_newa (atype := .byte) (ty := .byte) (n := 0) (N' := 0) (a0 := (0, .inl (fun _ => 0))) hx hb (hts _ xs_34) rfl hK.1 0 rfl (fun C h => by cases h) hP hD hS hA (fun _ => rfl) (by decide +kernel) (by decide +kernel) (by decide +kernel) (Nat.le_of_ble_eq_true rfl) (Nat.le_of_ble_eq_true rfl) d_SQ_init_42 (fun q_6 H hP hD hS => ?_)
  have hP : va_P (dC, dI) classes [(h0, .inr (18, [.ref q_1, .int 0, .int 0, .ref q_2, .int 0, .int 0, .ref q_3, .int 0, .ref q_4, .ref q_5, .null, .null, .null, .int 0, .null, .int 0])), (q_1, .inl (ca 0, 0, .inl (fun _ => 0))), (q_6, .inl (ca 0, 0, .inl (fun _ => 0)))] H := hP
  have hD : va_D A [(h0, .inr (18, [.ref q_1, .int 0, .int 0, .ref q_2, .int 0, .int 0, .ref q_3, .int 0, .ref q_4, .ref q_5, .null, .null, .null, .int 0, .null, .int 0])), (q_1, .inl (ca 0, 0, .inl (fun _ => 0))), (q_6, .inl (ca 0, 0, .inl (fun _ => 0)))] := hD
  refine W.widen (k := 6) (n := 1) (Nat.le_of_ble_eq_true rfl) (Nat.le_of_ble_eq_true rfl) ?_
  refine va_put (D := (dC, dI)) (ci := 18) (v := .ref q_6) (ty := .array (.byte)) (C := R_SQ) (T := F_SQ) (N := 16) hx hb hts i_SQ t_SQ t_SQ_ok n_SQ hown hK.1 hP hD hS 0 rfl rfl 10 (by decide) (hts _ xs_209) (fun _ h9 => h9) rfl (by decide +kernel) rfl rfl (Nat.le_of_ble_eq_true rfl) d_SQ_init_44 (fun H locs hP hD hS => ?_)
  have hP : va_P (dC, dI) classes [(h0, .inr (18, [.ref q_1, .int 0, .int 0, .ref q_2, .int 0, .int 0, .ref q_3, .int 0, .ref q_4, .ref q_5, .ref q_6, .null, .null, .int 0, .null, .int 0])), (q_1, .inl (ca 0, 0, .inl (fun _ => 0))), (q_6, .inl (ca 0, 0, .inl (fun _ => 0)))] H := hP
  have hD : va_D A [(h0, .inr (18, [.ref q_1, .int 0, .int 0, .ref q_2, .int 0, .int 0, .ref q_3, .int 0, .ref q_4, .ref q_5, .ref q_6, .null, .null, .int 0, .null, .int 0])), (q_1, .inl (ca 0, 0, .inl (fun _ => 0))), (q_6, .inl (ca 0, 0, .inl (fun _ => 0)))] := hD
  have hP := hP.sub (ws' := [(h0, .inr (18, [.ref q_1, .int 0, .int 0, .ref q_2, .int 0, .int 0, .ref q_3, .int 0, .ref q_4, .ref q_5, .ref q_6, .null, .null, .int 0, .null, .int 0])), (q_1, .inl (ca 0, 0, .inl (fun _ => 0)))]) [0, 1] rfl
  have hD := hD.sub (ws' := [(h0, .inr (18, [.ref q_1, .int 0, .int 0, .ref q_2, .int 0, .int 0, .ref q_3, .int 0, .ref q_4, .ref q_5, .ref q_6, .null, .null, .int 0, .null, .int 0])), (q_1, .inl (ca 0, 0, .inl (fun _ => 0)))]) [0, 1] (by decide) rfl
  refine lv_aload_n hx hb d_SQ_init_47 rfl (lv_at hl 0 rfl) ?_
  refine lv_iconst (v := 0) hx hb d_SQ_init_48 (by decide) ?_
  refine ax_newa (atype := .byte) (ty := .byte) (n := 0) (N' := 0) (a0 := (0, .inl (fun _ => 0))) hx hb (hts _ xs_34) rfl hK.1 0 rfl (fun C h => by cases h) hP hD hS hA (fun _ => rfl) (by decide +kernel) (by decide +kernel) (by decide +kernel) (Nat.le_of_ble_eq_true rfl) (Nat.le_of_ble_eq_true rfl) d_SQ_init_49 (fun q_7 H hP hD hS => ?_)
  have hP : va_P (dC, dI) classes [(h0, .inr (18, [.ref q_1, .int 0, .int 0, .ref q_2, .int 0, .int 0, .ref q_3, .int 0, .ref q_4, .ref q_5, .ref q_6, .null, .null, .int 0, .null, .int 0])), (q_1, .inl (ca 0, 0, .inl (fun _ => 0))), (q_7, .inl (ca 0, 0, .inl (fun _ => 0)))] H := hP
  have hD : va_D A [(h0, .inr (18, [.ref q_1, .int 0, .int 0, .ref q_2, .int 0, .int 0, .ref q_3, .int 0, .ref q_4, .ref q_5, .ref q_6, .null, .null, .int 0, .null, .int 0])), (q_1, .inl (ca 0, 0, .inl (fun _ => 0))), (q_7, .inl (ca 0, 0, .inl (fun _ => 0)))] := hD
  refine W.widen (k := 7) (n := 1) (Nat.le_of_ble_eq_true rfl) (Nat.le_of_ble_eq_true rfl) ?_
  refine va_put (D := (dC, dI)) (ci := 18) (v := .ref q_7) (ty := .array (.byte)) (C := R_SQ) (T := F_SQ) (N := 16) hx hb hts i_SQ t_SQ t_SQ_ok n_SQ hown hK.1 hP hD hS 0 rfl rfl 11 (by decide) (hts _ xs_210) (fun _ h9 => h9) rfl (by decide +kernel) rfl rfl (Nat.le_of_ble_eq_true rfl) d_SQ_init_51 (fun H locs hP hD hS => ?_)
  have hP : va_P (dC, dI) classes [(h0, .inr (18, [.ref q_1, .int 0, .int 0, .ref q_2, .int 0, .int 0, .ref q_3, .int 0, .ref q_4, .ref q_5, .ref q_6, .ref q_7, .null, .int 0, .null, .int 0])), (q_1, .inl (ca 0, 0, .inl (fun _ => 0))), (q_7, .inl (ca 0, 0, .inl (fun _ => 0)))] H := hP
  have hD : va_D A [(h0, .inr (18, [.ref q_1, .int 0, .int 0, .ref q_2, .int 0, .int 0, .ref q_3, .int 0, .ref q_4, .ref q_5, .ref q_6, .ref q_7, .null, .int 0, .null, .int 0])), (q_1, .inl (ca 0, 0, .inl (fun _ => 0))), (q_7, .inl (ca 0, 0, .inl (fun _ => 0)))] := hD
  have hP := hP.sub (ws' := [(h0, .inr (18, [.ref q_1, .int 0, .int 0, .ref q_2, .int 0, .int 0, .ref q_3, .int 0, .ref q_4, .ref q_5, .ref q_6, .ref q_7, .null, .int 0, .null, .int 0])), (q_1, .inl (ca 0, 0, .inl (fun _ => 0)))]) [0, 1] rfl
  have hD := hD.sub (ws' := [(h0, .inr (18, [.ref q_1, .int 0, .int 0, .ref q_2, .int 0, .int 0, .ref q_3, .int 0, .ref q_4, .ref q_5, .ref q_6, .ref q_7, .null, .int 0, .null, .int 0])), (q_1, .inl (ca 0, 0, .inl (fun _ => 0)))]) [0, 1] (by decide) rfl
  refine lv_aload_n hx hb d_SQ_init_54 rfl (lv_at hl 0 rfl) ?_
  refine lv_iconst (v := 0) hx hb d_SQ_init_55 (by decide) ?_
  refine ax_newa (atype := .int) (ty := .int) (n := 0) (N' := 0) (a0 := (0, .inl (fun _ => 0))) hx hb (hts _ xs_35) rfl hK.1 1 rfl (fun C h => by cases h) hP hD hS hA (fun _ => rfl) (by decide +kernel) (by decide +kernel) (by decide +kernel) (Nat.le_of_ble_eq_true rfl) (Nat.le_of_ble_eq_true rfl) d_SQ_init_56 (fun q_8 H hP hD hS => ?_)
  have hP : va_P (dC, dI) classes [(h0, .inr (18, [.ref q_1, .int 0, .int 0, .ref q_2, .int 0, .int 0, .ref q_3, .int 0, .ref q_4, .ref q_5, .ref q_6, .ref q_7, .null, .int 0, .null, .int 0])), (q_1, .inl (ca 0, 0, .inl (fun _ => 0))), (q_8, .inl (ca 1, 0, .inl (fun _ => 0)))] H := hP
  have hD : va_D A [(h0, .inr (18, [.ref q_1, .int 0, .int 0, .ref q_2, .int 0, .int 0, .ref q_3, .int 0, .ref q_4, .ref q_5, .ref q_6, .ref q_7, .null, .int 0, .null, .int 0])), (q_1, .inl (ca 0, 0, .inl (fun _ => 0))), (q_8, .inl (ca 1, 0, .inl (fun _ => 0)))] := hD
  refine W.widen (k := 8) (n := 1) (Nat.le_of_ble_eq_true rfl) (Nat.le_of_ble_eq_true rfl) ?_
  refine va_put (D := (dC, dI)) (ci := 18) (v := .ref q_8) (ty := .array (.int)) (C := R_SQ) (T := F_SQ) (N := 16) hx hb hts i_SQ t_SQ t_SQ_ok n_SQ hown hK.1 hP hD hS 0 rfl rfl 12 (by decide) (hts _ xs_211) (fun _ h9 => h9) rfl (by decide +kernel) rfl rfl (Nat.le_of_ble_eq_true rfl) d_SQ_init_58 (fun H locs hP hD hS => ?_)
  have hP : va_P (dC, dI) classes [(h0, .inr (18, [.ref q_1, .int 0, .int 0, .ref q_2, .int 0, .int 0, .ref q_3, .int 0, .ref q_4, .ref q_5, .ref q_6, .ref q_7, .ref q_8, .int 0, .null, .int 0])), (q_1, .inl (ca 0, 0, .inl (fun _ => 0))), (q_8, .inl (ca 1, 0, .inl (fun _ => 0)))] H := hP
  have hD : va_D A [(h0, .inr (18, [.ref q_1, .int 0, .int 0, .ref q_2, .int 0, .int 0, .ref q_3, .int 0, .ref q_4, .ref q_5, .ref q_6, .ref q_7, .ref q_8, .int 0, .null, .int 0])), (q_1, .inl (ca 0, 0, .inl (fun _ => 0))), (q_8, .inl (ca 1, 0, .inl (fun _ => 0)))] := hD
  have hP := hP.sub (ws' := [(h0, .inr (18, [.ref q_1, .int 0, .int 0, .ref q_2, .int 0, .int 0, .ref q_3, .int 0, .ref q_4, .ref q_5, .ref q_6, .ref q_7, .ref q_8, .int 0, .null, .int 0])), (q_1, .inl (ca 0, 0, .inl (fun _ => 0)))]) [0, 1] rfl
  have hD := hD.sub (ws' := [(h0, .inr (18, [.ref q_1, .int 0, .int 0, .ref q_2, .int 0, .int 0, .ref q_3, .int 0, .ref q_4, .ref q_5, .ref q_6, .ref q_7, .ref q_8, .int 0, .null, .int 0])), (q_1, .inl (ca 0, 0, .inl (fun _ => 0)))]) [0, 1] (by decide) rfl
  exact ax_vret hx hb hr hlocks hP hD hS (fun k => ([q_1, 0, 0, q_2, 0, 0, q_3, 0, q_4, q_5, q_6, q_7, q_8, 0, 0, 0] : List Nat).getD k 0) rfl [0, 1] rfl (by decide) rfl (Nat.le_of_ble_eq_true rfl) (Nat.le_of_ble_eq_true rfl) d_SQ_init_61
theorem d_SQ_begin_0 : decode b_SQ_begin 0 = .ok (.aload_n 0, 1) := by decide +kernel
theorem d_SQ_begin_1 : decode b_SQ_begin 1 = .ok (.getfield 9, 3) := by decide +kernel
theorem d_SQ_begin_4 : decode b_SQ_begin 4 = .ok (.arraylength, 1) := by decide +kernel
theorem d_SQ_begin_5 : decode b_SQ_begin 5 = .ok (.iload_n 1, 1) := by decide +kernel
theorem d_SQ_begin_6 : decode b_SQ_begin 6 = .ok (.if_icmp .ge 26, 3) := by decide +kernel
theorem d_SQ_begin_32 : decode b_SQ_begin 32 = .ok (.aload_n 0, 1) := by decide +kernel
theorem d_SQ_begin_33 : decode b_SQ_begin 33 = .ok (.iload_n 1, 1) := by decide +kernel
theorem d_SQ_begin_34 : decode b_SQ_begin 34 = .ok (.putfield 45, 3) := by decide +kernel
theorem d_SQ_begin_37 : decode b_SQ_begin 37 = .ok (.aload_n 0, 1) := by decide +kernel
theorem d_SQ_begin_38 : decode b_SQ_begin 38 = .ok (.iconst 0, 1) := by decide +kernel
theorem d_SQ_begin_39 : decode b_SQ_begin 39 = .ok (.putfield 49, 3) := by decide +kernel
theorem d_SQ_begin_42 : decode b_SQ_begin 42 = .ok (.aload_n 0, 1) := by decide +kernel
theorem d_SQ_begin_43 : decode b_SQ_begin 43 = .ok (.iconst 0, 1) := by decide +kernel
theorem d_SQ_begin_44 : decode b_SQ_begin 44 = .ok (.putfield 52, 3) := by decide +kernel
theorem d_SQ_begin_47 : decode b_SQ_begin 47 = .ok (.aload_n 0, 1) := by decide +kernel
theorem d_SQ_begin_48 : decode b_SQ_begin 48 = .ok (.iconst 0, 1) := by decide +kernel
theorem d_SQ_begin_49 : decode b_SQ_begin 49 = .ok (.putfield 55, 3) := by decide +kernel
theorem d_SQ_begin_52 : decode b_SQ_begin 52 = .ok (.aload_n 0, 1) := by decide +kernel
theorem d_SQ_begin_53 : decode b_SQ_begin 53 = .ok (.iconst 0, 1) := by decide +kernel
theorem d_SQ_begin_54 : decode b_SQ_begin 54 = .ok (.putfield 58, 3) := by decide +kernel
theorem d_SQ_begin_57 : decode b_SQ_begin 57 = .ok (.aload_n 0, 1) := by decide +kernel
theorem d_SQ_begin_58 : decode b_SQ_begin 58 = .ok (.iconst 0, 1) := by decide +kernel
theorem d_SQ_begin_59 : decode b_SQ_begin 59 = .ok (.putfield 61, 3) := by decide +kernel
theorem d_SQ_begin_62 : decode b_SQ_begin 62 = .ok (.aload_n 0, 1) := by decide +kernel
theorem d_SQ_begin_63 : decode b_SQ_begin 63 = .ok (.aconst_null, 1) := by decide +kernel
theorem d_SQ_begin_64 : decode b_SQ_begin 64 = .ok (.putfield 65, 3) := by decide +kernel
theorem d_SQ_begin_67 : decode b_SQ_begin 67 = .ok (.return_, 1) := by decide +kernel
set_option maxHeartbeats 4000000 in
set_option maxRecDepth 100000 in
theorem c_SQ_begin (l : Launch) (dC : Nat → ClassId) (dI : Nat → Nat → Nat) (ca : Nat → ClassId) (h0 : Nat) (r : Nat → Nat) : CT l classes (dC, dI) (sK dC dI ca) sk y_SQ_begin b_SQ_begin 2 none 0 0 0 0 [.ref h0, .int 0] [(h0, .inr (18, fQ r)), ((r 0), .inl (ca 0, 0, .inl (fun _ => 0)))] (fun (v : Option Value) (_ : Unit) => v = none) (fun (_ : Unit) => [(h0, .inr (18, fQ r)), ((r 0), .inl (ca 0, 0, .inl (fun _ => 0)))]) := by
  refine ax_of (by decide) (Nat.le_of_ble_eq_true rfl) ?_
  intro p e s m below meth c A ls hAt hK hP hD hS hA hl
  obtain ⟨hx, hb, hr, hml, hown, hts, hlocks, hin⟩ := hAt
  have hl : lv_has ls 2 [(0, .ref h0), (1, .int 0)] := hl
  refine lv_aload_n hx hb d_SQ_begin_0 rfl (lv_at hl 0 rfl) ?_
  refine va_get (D := (dC, dI)) (ci := 18) (v := .ref (r 0)) (C := R_SQ) (T := F_SQ) (N := 16) hx hb hts i_SQ hown hK.1 hP 0 rfl rfl 0 (by decide) (hts _ xs_187) (fun _ h9 => h9) rfl d_SQ_begin_1 ?_
  refine va_alen hx hb hK.1 hP 1 0 rfl rfl (v := 0) rfl d_SQ_begin_4 ?_
  refine lv_iload_n hx hb d_SQ_begin_5 rfl (lv_at hl 1 rfl) ?_
  refine lv_icmp_ge (tgt := 32) hx hb d_SQ_begin_6 (by decide) (fun _ => ?_) (fun h => absurd (by decide) h)
  refine lv_aload_n hx hb d_SQ_begin_32 rfl (lv_at hl 0 rfl) ?_
  refine lv_iload_n hx hb d_SQ_begin_33 rfl (lv_at hl 1 rfl) ?_
  refine va_put (D := (dC, dI)) (ci := 18) (v := .int 0) (ty := .int) (C := R_SQ) (T := F_SQ) (N := 16) hx hb hts i_SQ t_SQ t_SQ_ok n_SQ hown hK.1 hP hD hS 0 rfl rfl 1 (by decide) (hts _ xs_189) (fun _ h9 => h9) rfl (by decide +kernel) rfl rfl (Nat.le_of_ble_eq_true rfl) d_SQ_begin_34 (fun H locs hP hD hS => ?_)
  have hP : va_P (dC, dI) classes [(h0, .inr (18, fQ r)), ((r 0), .inl (ca 0, 0, .inl (fun _ => 0)))] H := hP
  have hD : va_D A [(h0, .inr (18, fQ r)), ((r 0), .inl (ca 0, 0, .inl (fun _ => 0)))] := hD
  refine lv_aload_n hx hb d_SQ_begin_37 rfl (lv_at hl 0 rfl) ?_
  refine lv_iconst (v := 0) hx hb d_SQ_begin_38 (by decide) ?_
  refine va_put (D := (dC, dI)) (ci := 18) (v := .int 0) (ty := .int) (C := R_SQ) (T := F_SQ) (N := 16) hx hb hts i_SQ t_SQ t_SQ_ok n_SQ hown hK.1 hP hD hS 0 rfl rfl 2 (by decide) (hts _ xs_193) (fun _ h9 => h9) rfl (by decide +kernel) rfl rfl (Nat.le_of_ble_eq_true rfl) d_SQ_begin_39 (fun H locs hP hD hS => ?_)
  have hP : va_P (dC, dI) classes [(h0, .inr (18, fQ r)), ((r 0), .inl (ca 0, 0, .inl (fun _ => 0)))] H := hP
  have hD : va_D A [(h0, .inr (18, fQ r)), ((r 0), .inl (ca 0, 0, .inl (fun _ => 0)))] := hD
  refine lv_aload_n hx hb d_SQ_begin_42 rfl (lv_at hl 0 rfl) ?_
  refine lv_iconst (v := 0) hx hb d_SQ_begin_43 (by decide) ?_
  refine va_put (D := (dC, dI)) (ci := 18) (v := .int 0) (ty := .int) (C := R_SQ) (T := F_SQ) (N := 16) hx hb hts i_SQ t_SQ t_SQ_ok n_SQ hown hK.1 hP hD hS 0 rfl rfl 4 (by decide) (hts _ xs_196) (fun _ h9 => h9) rfl (by decide +kernel) rfl rfl (Nat.le_of_ble_eq_true rfl) d_SQ_begin_44 (fun H locs hP hD hS => ?_)
  have hP : va_P (dC, dI) classes [(h0, .inr (18, fQ r)), ((r 0), .inl (ca 0, 0, .inl (fun _ => 0)))] H := hP
  have hD : va_D A [(h0, .inr (18, fQ r)), ((r 0), .inl (ca 0, 0, .inl (fun _ => 0)))] := hD
  refine lv_aload_n hx hb d_SQ_begin_47 rfl (lv_at hl 0 rfl) ?_
  refine lv_iconst (v := 0) hx hb d_SQ_begin_48 (by decide) ?_
  refine va_put (D := (dC, dI)) (ci := 18) (v := .int 0) (ty := .int) (C := R_SQ) (T := F_SQ) (N := 16) hx hb hts i_SQ t_SQ t_SQ_ok n_SQ hown hK.1 hP hD hS 0 rfl rfl 5 (by decide) (hts _ xs_199) (fun _ h9 => h9) rfl (by decide +kernel) rfl rfl (Nat.le_of_ble_eq_true rfl) d_SQ_begin_49 (fun H locs hP hD hS => ?_)
  have hP : va_P (dC, dI) classes [(h0, .inr (18, fQ r)), ((r 0), .inl (ca 0, 0, .inl (fun _ => 0)))] H := hP
  have hD : va_D A [(h0, .inr (18, fQ r)), ((r 0), .inl (ca 0, 0, .inl (fun _ => 0)))] := hD
  refine lv_aload_n hx hb d_SQ_begin_52 rfl (lv_at hl 0 rfl) ?_
  refine lv_iconst (v := 0) hx hb d_SQ_begin_53 (by decide) ?_
  refine va_put (D := (dC, dI)) (ci := 18) (v := .int 0) (ty := .int) (C := R_SQ) (T := F_SQ) (N := 16) hx hb hts i_SQ t_SQ t_SQ_ok n_SQ hown hK.1 hP hD hS 0 rfl rfl 7 (by decide) (hts _ xs_203) (fun _ h9 => h9) rfl (by decide +kernel) rfl rfl (Nat.le_of_ble_eq_true rfl) d_SQ_begin_54 (fun H locs hP hD hS => ?_)
  have hP : va_P (dC, dI) classes [(h0, .inr (18, fQ r)), ((r 0), .inl (ca 0, 0, .inl (fun _ => 0)))] H := hP
  have hD : va_D A [(h0, .inr (18, fQ r)), ((r 0), .inl (ca 0, 0, .inl (fun _ => 0)))] := hD
  refine lv_aload_n hx hb d_SQ_begin_57 rfl (lv_at hl 0 rfl) ?_
  refine lv_iconst (v := 0) hx hb d_SQ_begin_58 (by decide) ?_
  refine va_put (D := (dC, dI)) (ci := 18) (v := .int 0) (ty := .boolean) (C := R_SQ) (T := F_SQ) (N := 16) hx hb hts i_SQ t_SQ t_SQ_ok n_SQ hown hK.1 hP hD hS 0 rfl rfl 13 (by decide) (hts _ xs_213) (fun _ h9 => h9) rfl (by decide +kernel) rfl rfl (Nat.le_of_ble_eq_true rfl) d_SQ_begin_59 (fun H locs hP hD hS => ?_)
  have hP : va_P (dC, dI) classes [(h0, .inr (18, fQ r)), ((r 0), .inl (ca 0, 0, .inl (fun _ => 0)))] H := hP
  have hD : va_D A [(h0, .inr (18, fQ r)), ((r 0), .inl (ca 0, 0, .inl (fun _ => 0)))] := hD
  refine lv_aload_n hx hb d_SQ_begin_62 rfl (lv_at hl 0 rfl) ?_
  refine lv_null hx hb d_SQ_begin_63 ?_
  refine va_put (D := (dC, dI)) (ci := 18) (v := .null) (ty := .object "SourceBack$Form") (C := R_SQ) (T := F_SQ) (N := 16) hx hb hts i_SQ t_SQ t_SQ_ok n_SQ hown hK.1 hP hD hS 0 rfl rfl 14 (by decide) (hts _ xs_215) (fun _ h9 => h9) rfl (by decide +kernel) rfl rfl (Nat.le_of_ble_eq_true rfl) d_SQ_begin_64 (fun H locs hP hD hS => ?_)
  have hP : va_P (dC, dI) classes [(h0, .inr (18, fQ r)), ((r 0), .inl (ca 0, 0, .inl (fun _ => 0)))] H := hP
  have hD : va_D A [(h0, .inr (18, fQ r)), ((r 0), .inl (ca 0, 0, .inl (fun _ => 0)))] := hD
  exact ax_vret hx hb hr hlocks hP hD hS () rfl [0, 1] rfl (by decide) rfl (Nat.le_of_ble_eq_true rfl) (Nat.le_of_ble_eq_true rfl) d_SQ_begin_67
theorem d_SS_keptAt_0 : decode b_SS_keptAt 0 = .ok (.aload_n 0, 1) := by decide +kernel
theorem d_SS_keptAt_1 : decode b_SS_keptAt 1 = .ok (.getfield 19, 3) := by decide +kernel
theorem d_SS_keptAt_4 : decode b_SS_keptAt 4 = .ok (.iload_n 1, 1) := by decide +kernel
theorem d_SS_keptAt_5 : decode b_SS_keptAt 5 = .ok (.aaload, 1) := by decide +kernel
theorem d_SS_keptAt_6 : decode b_SS_keptAt 6 = .ok (.ifnonnull 16, 3) := by decide +kernel
theorem d_SS_keptAt_9 : decode b_SS_keptAt 9 = .ok (.aload_n 0, 1) := by decide +kernel
theorem d_SS_keptAt_10 : decode b_SS_keptAt 10 = .ok (.getfield 19, 3) := by decide +kernel
theorem d_SS_keptAt_13 : decode b_SS_keptAt 13 = .ok (.iload_n 1, 1) := by decide +kernel
theorem d_SS_keptAt_14 : decode b_SS_keptAt 14 = .ok (.new 13, 3) := by decide +kernel
theorem d_SS_keptAt_17 : decode b_SS_keptAt 17 = .ok (.dup, 1) := by decide +kernel
theorem d_SS_keptAt_18 : decode b_SS_keptAt 18 = .ok (.invokespecial 377, 3) := by decide +kernel
theorem d_SS_keptAt_21 : decode b_SS_keptAt 21 = .ok (.aastore, 1) := by decide +kernel
theorem d_SS_keptAt_22 : decode b_SS_keptAt 22 = .ok (.aload_n 0, 1) := by decide +kernel
theorem d_SS_keptAt_23 : decode b_SS_keptAt 23 = .ok (.getfield 19, 3) := by decide +kernel
theorem d_SS_keptAt_26 : decode b_SS_keptAt 26 = .ok (.iload_n 1, 1) := by decide +kernel
theorem d_SS_keptAt_27 : decode b_SS_keptAt 27 = .ok (.aaload, 1) := by decide +kernel
theorem d_SS_keptAt_28 : decode b_SS_keptAt 28 = .ok (.areturn, 1) := by decide +kernel
set_option maxHeartbeats 4000000 in
set_option maxRecDepth 100000 in
theorem c_SS_keptAt (l : Launch) (dC : Nat → ClassId) (dI : Nat → Nat → Nat) (ca : Nat → ClassId) (h0 : Nat) (q : Nat → Nat) : CT l classes (dC, dI) (sK dC dI ca) sk y_SS_keptAt b_SS_keptAt 2 (some (.object "SourceBack$Form")) 2 32 9 17 [.ref h0, .int 0] [(h0, .inr (7, sF q 0)), ((q 4), .inl (ca 6, 160, .inr (.inr (.inr (.inr (fun _ => none))))))] (fun (v : Option Value) (u : Nat × (Nat → Nat)) => v = some (.ref u.1)) (fun (u : Nat × (Nat → Nat)) => [(h0, .inr (7, sF q 0)), (u.1, .inr (18, fQ u.2)), (u.2 0, .inl (ca 0, 0, .inl (fun _ => 0)))]) := by
  refine ax_of (by decide) (Nat.le_of_ble_eq_true rfl) ?_
  intro p e s m below meth c A ls hAt hK hP hD hS hA hl
  obtain ⟨hx, hb, hr, hml, hown, hts, hlocks, hin⟩ := hAt
  have hl : lv_has ls 2 [(0, .ref h0), (1, .int 0)] := hl
  refine lv_aload_n hx hb d_SS_keptAt_0 rfl (lv_at hl 0 rfl) ?_
  refine va_get (D := (dC, dI)) (ci := 7) (v := .ref (q 4)) (C := R_SS) (T := F_SS) (N := 18) hx hb hts i_SS hown hK.1 hP 0 rfl rfl 4 (by decide) (hts _ xs_157) (fun _ h9 => h9) rfl d_SS_keptAt_1 ?_
  refine lv_iload_n hx hb d_SS_keptAt_4 rfl (lv_at hl 1 rfl) ?_
  refine va_aldq hx hb hK.1 hP 1 6 rfl rfl (by unfold vp_in; decide) d_SS_keptAt_5 ?_
  refine W.eq (g2 := F0 m 6 ls [.null]) rfl ?_
  refine lv_ifnonnullN hx hb d_SS_keptAt_6 ?_
  refine lv_aload_n hx hb d_SS_keptAt_9 rfl (lv_at hl 0 rfl) ?_
  refine va_get (D := (dC, dI)) (ci := 7) (v := .ref (q 4)) (C := R_SS) (T := F_SS) (N := 18) hx hb hts i_SS hown hK.1 hP 0 rfl rfl 4 (by decide) (hts _ xs_157) (fun _ h9 => h9) rfl d_SS_keptAt_10 ?_
  refine lv_iload_n hx hb d_SS_keptAt_13 rfl (lv_at hl 1 rfl) ?_
  refine va_new (ci := 18) (fs := [.null, .int 0, .int 0, .null, .int 0, .int 0, .null, .int 0, .null, .null, .null, .null, .null, .int 0, .null, .int 0]) (C := R_SQ) (T := F_SQ) (N := 16) hx hb hts i_SQ t_SQ t_SQ_ok hown (hts _ xs_24) (hts _ xs_182) (hts _ xs_14) hK.1 hP hD hS hA rfl (by decide +kernel) (Nat.le_of_ble_eq_true rfl) (Nat.le_of_ble_eq_true rfl) d_SS_keptAt_14 (fun q_1 H hP hD hS => ?_)
  have hP : va_P (dC, dI) classes [(h0, .inr (7, sF q 0)), ((q 4), .inl (ca 6, 160, .inr (.inr (.inr (.inr (fun _ => none)))))), (q_1, .inr (18, [.null, .int 0, .int 0, .null, .int 0, .int 0, .null, .int 0, .null, .null, .null, .null, .null, .int 0, .null, .int 0]))] H := hP
  have hD : va_D A [(h0, .inr (7, sF q 0)), ((q 4), .inl (ca 6, 160, .inr (.inr (.inr (.inr (fun _ => none)))))), (q_1, .inr (18, [.null, .int 0, .int 0, .null, .int 0, .int 0, .null, .int 0, .null, .null, .null, .null, .null, .int 0, .null, .int 0]))] := hD
  refine W.widen (k := 1) (n := 16) (Nat.le_of_ble_eq_true rfl) (Nat.le_of_ble_eq_true rfl) ?_
  refine lv_dup hx hb d_SS_keptAt_17 rfl ?_
  refine ax_IN (k := 0) (As := []) (rest := [.ref q_1, .int 0, .ref (q 4)]) (wr := [(h0, .inr (7, sF q 0)), ((q 4), .inl (ca 6, 160, .inr (.inr (.inr (.inr (fun _ => none))))))]) rfl hx hb hml hown hts g_sk (sK_bl dC dI ca) (c_SQ_init l dC dI ca q_1) rfl (hK.2.1 _ zs_7) xs_183 xs_14 xs_184 (by decide +kernel) rfl (Nat.le_of_ble_eq_true rfl) (Nat.le_of_ble_eq_true rfl) hl.1 (Nat.le_of_ble_eq_true rfl) (sK_up hK) hP hD hS hA [2] [0, 1] rfl (by decide) rfl rfl (by decide) (by decide) (Nat.le_of_ble_eq_true rfl) (Nat.le_of_ble_eq_true rfl) d_SS_keptAt_18 (fun v r_2 H locs hp hP hD hS => ?_)
  obtain rfl : v = none := hp
  have hP : va_P (dC, dI) classes [(h0, .inr (7, sF q 0)), ((q 4), .inl (ca 6, 160, .inr (.inr (.inr (.inr (fun _ => none)))))), (q_1, .inr (18, fQ r_2)), ((r_2 0), .inl (ca 0, 0, .inl (fun _ => 0)))] H := hP
  have hD : va_D A [(h0, .inr (7, sF q 0)), ((q 4), .inl (ca 6, 160, .inr (.inr (.inr (.inr (fun _ => none)))))), (q_1, .inr (18, fQ r_2)), ((r_2 0), .inl (ca 0, 0, .inl (fun _ => 0)))] := hD
  refine W.eq (g2 := F0 m 21 ls [.ref q_1, .int 0, .ref (q 4)]) rfl ?_
  refine W.widen (k := 9) (n := 17) (Nat.le_of_ble_eq_true rfl) (Nat.le_of_ble_eq_true rfl) ?_
  refine va_astq (r := (R_SQ, F_SQ, 16)) hx hb hK.1 hP hD hS 1 6 2 18 rfl rfl rfl rfl (by unfold vp_in; decide) d_SS_keptAt_21 (fun H locs hP hD hS => ?_)
  have hP : va_P (dC, dI) classes [(h0, .inr (7, sF q 0)), ((q 4), .inl (ca 6, 160, .inr (.inr (.inr (.inr (va_up (fun _ => none) 0 (some q_1))))))), (q_1, .inr (18, fQ r_2)), ((r_2 0), .inl (ca 0, 0, .inl (fun _ => 0)))] H := hP
  have hD : va_D A [(h0, .inr (7, sF q 0)), ((q 4), .inl (ca 6, 160, .inr (.inr (.inr (.inr (va_up (fun _ => none) 0 (some q_1))))))), (q_1, .inr (18, fQ r_2)), ((r_2 0), .inl (ca 0, 0, .inl (fun _ => 0)))] := hD
  refine lv_aload_n hx hb d_SS_keptAt_22 rfl (lv_at hl 0 rfl) ?_
  refine va_get (D := (dC, dI)) (ci := 7) (v := .ref (q 4)) (C := R_SS) (T := F_SS) (N := 18) hx hb hts i_SS hown hK.1 hP 0 rfl rfl 4 (by decide) (hts _ xs_157) (fun _ h9 => h9) rfl d_SS_keptAt_23 ?_
  refine lv_iload_n hx hb d_SS_keptAt_26 rfl (lv_at hl 1 rfl) ?_
  refine va_aldq hx hb hK.1 hP 1 6 rfl rfl (by unfold vp_in; decide) d_SS_keptAt_27 ?_
  refine W.eq (g2 := F0 m 28 ls [.ref q_1]) rfl ?_
  exact ax_aret hx hb hr (Or.inl ⟨_, rfl⟩) (Or.inr ⟨_, rfl⟩) hlocks hP hD hS (q_1, r_2) rfl [0, 2, 3] rfl (by decide) rfl (Nat.le_of_ble_eq_true rfl) (Nat.le_of_ble_eq_true rfl) d_SS_keptAt_28
theorem d_SR_tell_0 : decode b_SR_tell 0 = .ok (.aload_n 0, 1) := by decide +kernel
theorem d_SR_tell_1 : decode b_SR_tell 1 = .ok (.getfield 19, 3) := by decide +kernel
theorem d_SR_tell_4 : decode b_SR_tell 4 = .ok (.ifCond .ne 13, 3) := by decide +kernel
theorem d_SR_tell_7 : decode b_SR_tell 7 = .ok (.aload_n 0, 1) := by decide +kernel
theorem d_SR_tell_8 : decode b_SR_tell 8 = .ok (.iload_n 1, 1) := by decide +kernel
theorem d_SR_tell_9 : decode b_SR_tell 9 = .ok (.bipush 32, 2) := by decide +kernel
theorem d_SR_tell_11 : decode b_SR_tell 11 = .ok (.iload_n 2, 1) := by decide +kernel
theorem d_SR_tell_12 : decode b_SR_tell 12 = .ok (.imul, 1) := by decide +kernel
theorem d_SR_tell_13 : decode b_SR_tell 13 = .ok (.iadd, 1) := by decide +kernel
theorem d_SR_tell_14 : decode b_SR_tell 14 = .ok (.putfield 19, 3) := by decide +kernel
theorem d_SR_tell_17 : decode b_SR_tell 17 = .ok (.return_, 1) := by decide +kernel
set_option maxHeartbeats 4000000 in
set_option maxRecDepth 100000 in
theorem c_SR_tell0 (l : Launch) (dC : Nat → ClassId) (dI : Nat → Nat → Nat) (ca : Nat → ClassId) (h0 fo : Nat) (r : Nat → Nat) : CT l classes (dC, dI) (sK dC dI ca) sk y_SR_tell b_SR_tell 3 none 0 0 0 0 [.ref h0, .int 1, .int 0] [(h0, .inr (8, [.ref fo, .int 0, .int 0])), (fo, .inr (18, fQ r))] (fun (v : Option Value) (_ : Unit) => v = none) (fun (_ : Unit) => [(h0, .inr (8, [.ref fo, .int 0, .int 1])), (fo, .inr (18, fQ r))]) := by
  refine ax_of (by decide) (Nat.le_of_ble_eq_true rfl) ?_
  intro p e s m below meth c A ls hAt hK hP hD hS hA hl
  obtain ⟨hx, hb, hr, hml, hown, hts, hlocks, hin⟩ := hAt
  have hl : lv_has ls 3 [(0, .ref h0), (1, .int 1), (2, .int 0)] := hl
  refine lv_aload_n hx hb d_SR_tell_0 rfl (lv_at hl 0 rfl) ?_
  refine va_get (D := (dC, dI)) (ci := 8) (v := .int 0) (C := R_SR) (T := F_SR) (N := 3) hx hb hts i_SR hown hK.1 hP 0 rfl rfl 2 (by decide) (hts _ xs_33) (fun _ h9 => h9) rfl d_SR_tell_1 ?_
  refine lv_if_ne (tgt := 17) hx hb d_SR_tell_4 (by decide) (fun h => absurd h (by decide)) (fun _ => ?_)
  refine lv_aload_n hx hb d_SR_tell_7 rfl (lv_at hl 0 rfl) ?_
  refine lv_iload_n hx hb d_SR_tell_8 rfl (lv_at hl 1 rfl) ?_
  refine lv_bipush (v := 32) hx hb d_SR_tell_9 (by decide +kernel) ?_
  refine lv_iload_n hx hb d_SR_tell_11 rfl (lv_at hl 2 rfl) ?_
  refine lv_imul hx hb d_SR_tell_12 ?_
  refine lv_topi (fun z e9 => ?_)
  obtain rfl : z = 0 := by rw [e9]; decide
  refine lv_iadd hx hb d_SR_tell_13 ?_
  refine lv_topi (fun z e9 => ?_)
  obtain rfl : z = 1 := by rw [e9]; decide
  refine va_put (D := (dC, dI)) (ci := 8) (v := .int 1) (ty := .int) (C := R_SR) (T := F_SR) (N := 3) hx hb hts i_SR t_SR t_SR_ok n_SR hown hK.1 hP hD hS 0 rfl rfl 2 (by decide) (hts _ xs_33) (fun _ h9 => h9) rfl (by decide +kernel) rfl rfl (Nat.le_of_ble_eq_true rfl) d_SR_tell_14 (fun H locs hP hD hS => ?_)
  have hP : va_P (dC, dI) classes [(h0, .inr (8, [.ref fo, .int 0, .int 1])), (fo, .inr (18, fQ r))] H := hP
  have hD : va_D A [(h0, .inr (8, [.ref fo, .int 0, .int 1])), (fo, .inr (18, fQ r))] := hD
  exact ax_vret hx hb hr hlocks hP hD hS () rfl [0, 1] rfl (by decide) rfl (Nat.le_of_ble_eq_true rfl) (Nat.le_of_ble_eq_true rfl) d_SR_tell_17
set_option maxHeartbeats 4000000 in
set_option maxRecDepth 100000 in
theorem c_SR_tell1 (l : Launch) (dC : Nat → ClassId) (dI : Nat → Nat → Nat) (ca : Nat → ClassId) (h0 fo : Nat) (r : Nat → Nat) (i j : Int32) : CT l classes (dC, dI) (sK dC dI ca) sk y_SR_tell b_SR_tell 3 none 0 0 0 0 [.ref h0, .int i, .int j] [(h0, .inr (8, [.ref fo, .int 0, .int 1])), (fo, .inr (18, fQ r))] (fun (v : Option Value) (_ : Unit) => v = none) (fun (_ : Unit) => [(h0, .inr (8, [.ref fo, .int 0, .int 1])), (fo, .inr (18, fQ r))]) := by
  refine ax_of (by decide) (Nat.le_of_ble_eq_true rfl) ?_
  intro p e s m below meth c A ls hAt hK hP hD hS hA hl
  obtain ⟨hx, hb, hr, hml, hown, hts, hlocks, hin⟩ := hAt
  have hl : lv_has ls 3 [(0, .ref h0), (1, .int i), (2, .int j)] := hl
  refine lv_aload_n hx hb d_SR_tell_0 rfl (lv_at hl 0 rfl) ?_
  refine va_get (D := (dC, dI)) (ci := 8) (v := .int 1) (C := R_SR) (T := F_SR) (N := 3) hx hb hts i_SR hown hK.1 hP 0 rfl rfl 2 (by decide) (hts _ xs_33) (fun _ h9 => h9) rfl d_SR_tell_1 ?_
  refine lv_if_ne (tgt := 17) hx hb d_SR_tell_4 (by decide) (fun _ => ?_) (fun h => absurd h (by decide))
  exact ax_vret hx hb hr hlocks hP hD hS () rfl [0, 1] rfl (by decide) rfl (Nat.le_of_ble_eq_true rfl) (Nat.le_of_ble_eq_true rfl) d_SR_tell_17
theorem d_SR_number_0 : decode b_SR_number 0 = .ok (.aload_n 0, 1) := by decide +kernel
theorem d_SR_number_1 : decode b_SR_number 1 = .ok (.getfield 19, 3) := by decide +kernel
theorem d_SR_number_4 : decode b_SR_number 4 = .ok (.ifCond .eq 5, 3) := by decide +kernel
theorem d_SR_number_9 : decode b_SR_number 9 = .ok (.aload_n 0, 1) := by decide +kernel
theorem d_SR_number_10 : decode b_SR_number 10 = .ok (.getfield 15, 3) := by decide +kernel
theorem d_SR_number_13 : decode b_SR_number 13 = .ok (.iload_n 1, 1) := by decide +kernel
theorem d_SR_number_14 : decode b_SR_number 14 = .ok (.iadd, 1) := by decide +kernel
theorem d_SR_number_15 : decode b_SR_number 15 = .ok (.aload_n 0, 1) := by decide +kernel
theorem d_SR_number_16 : decode b_SR_number 16 = .ok (.getfield 9, 3) := by decide +kernel
theorem d_SR_number_19 : decode b_SR_number 19 = .ok (.getfield 54, 3) := by decide +kernel
theorem d_SR_number_22 : decode b_SR_number 22 = .ok (.if_icmp .le 17, 3) := by decide +kernel
theorem d_SR_number_25 : decode b_SR_number 25 = .ok (.aload_n 0, 1) := by decide +kernel
theorem d_SR_number_26 : decode b_SR_number 26 = .ok (.iconst 1, 1) := by decide +kernel
theorem d_SR_number_27 : decode b_SR_number 27 = .ok (.aload_n 0, 1) := by decide +kernel
theorem d_SR_number_28 : decode b_SR_number 28 = .ok (.getfield 9, 3) := by decide +kernel
theorem d_SR_number_31 : decode b_SR_number 31 = .ok (.getfield 54, 3) := by decide +kernel
theorem d_SR_number_34 : decode b_SR_number 34 = .ok (.invokevirtual 57, 3) := by decide +kernel
theorem d_SR_number_37 : decode b_SR_number 37 = .ok (.iconst 0, 1) := by decide +kernel
theorem d_SR_number_38 : decode b_SR_number 38 = .ok (.ireturn, 1) := by decide +kernel
set_option maxHeartbeats 4000000 in
set_option maxRecDepth 100000 in
theorem c_SR_number0 (l : Launch) (dC : Nat → ClassId) (dI : Nat → Nat → Nat) (ca : Nat → ClassId) (h0 fo : Nat) (r : Nat → Nat) : CT l classes (dC, dI) (sK dC dI ca) sk y_SR_number b_SR_number 4 (some (.int)) 1 22 0 0 [.ref h0, .int 4] [(h0, .inr (8, [.ref fo, .int 0, .int 0])), (fo, .inr (18, fQ r))] (fun (v : Option Value) (_ : Unit) => v = some (.int 0)) (fun (_ : Unit) => [(h0, .inr (8, [.ref fo, .int 0, .int 1])), (fo, .inr (18, fQ r))]) := by
  refine ax_of (by decide) (Nat.le_of_ble_eq_true rfl) ?_
  intro p e s m below meth c A ls hAt hK hP hD hS hA hl
  obtain ⟨hx, hb, hr, hml, hown, hts, hlocks, hin⟩ := hAt
  have hl : lv_has ls 4 [(0, .ref h0), (1, .int 4)] := hl
  refine lv_aload_n hx hb d_SR_number_0 rfl (lv_at hl 0 rfl) ?_
  refine va_get (D := (dC, dI)) (ci := 8) (v := .int 0) (C := R_SR) (T := F_SR) (N := 3) hx hb hts i_SR hown hK.1 hP 0 rfl rfl 2 (by decide) (hts _ xs_33) (fun _ h9 => h9) rfl d_SR_number_1 ?_
  refine lv_if_eq (tgt := 9) hx hb d_SR_number_4 (by decide) (fun _ => ?_) (fun h => absurd (by decide) h)
  refine lv_aload_n hx hb d_SR_number_9 rfl (lv_at hl 0 rfl) ?_
  refine va_get (D := (dC, dI)) (ci := 8) (v := .int 0) (C := R_SR) (T := F_SR) (N := 3) hx hb hts i_SR hown hK.1 hP 0 rfl rfl 1 (by decide) (hts _ xs_32) (fun _ h9 => h9) rfl d_SR_number_10 ?_
  refine lv_iload_n hx hb d_SR_number_13 rfl (lv_at hl 1 rfl) ?_
  refine lv_iadd hx hb d_SR_number_14 ?_
  refine lv_topi (fun z e9 => ?_)
  obtain rfl : z = 4 := by rw [e9]; decide
  refine lv_aload_n hx hb d_SR_number_15 rfl (lv_at hl 0 rfl) ?_
  refine va_get (D := (dC, dI)) (ci := 8) (v := .ref fo) (C := R_SR) (T := F_SR) (N := 3) hx hb hts i_SR hown hK.1 hP 0 rfl rfl 0 (by decide) (hts _ xs_31) (fun _ h9 => h9) rfl d_SR_number_16 ?_
  refine va_get (D := (dC, dI)) (ci := 18) (v := .int 0) (C := R_SQ) (T := F_SQ) (N := 16) hx hb hts i_SQ hown hK.1 hP 1 rfl rfl 1 (by decide) (hts _ xs_190) (fun _ h9 => h9) rfl d_SR_number_19 ?_
  refine lv_icmp_le (tgt := 39) hx hb d_SR_number_22 (by decide) (fun h => absurd h (by decide)) (fun _ => ?_)
  refine lv_aload_n hx hb d_SR_number_25 rfl (lv_at hl 0 rfl) ?_
  refine lv_iconst (v := 1) hx hb d_SR_number_26 (by decide) ?_
  refine lv_aload_n hx hb d_SR_number_27 rfl (lv_at hl 0 rfl) ?_
  refine va_get (D := (dC, dI)) (ci := 8) (v := .ref fo) (C := R_SR) (T := F_SR) (N := 3) hx hb hts i_SR hown hK.1 hP 0 rfl rfl 0 (by decide) (hts _ xs_31) (fun _ h9 => h9) rfl d_SR_number_28 ?_
  refine va_get (D := (dC, dI)) (ci := 18) (v := .int 0) (C := R_SQ) (T := F_SQ) (N := 16) hx hb hts i_SQ hown hK.1 hP 1 rfl rfl 1 (by decide) (hts _ xs_190) (fun _ h9 => h9) rfl d_SR_number_31 ?_
  refine ax_V (ci := 8) (q0 := 0) (k := 2) (As := [.int 1, .int 0]) (rest := []) (wr := []) rfl hx hb hml hown hts g_sk (sK_bl dC dI ca) (c_SR_tell0 l dC dI ca h0 fo r) xs_233 xs_234 xs_1 xs_235 xs_327 (by decide +kernel) rfl (Nat.le_of_ble_eq_true rfl) (Nat.le_of_ble_eq_true rfl) hl.1 (Nat.le_of_ble_eq_true rfl) (sK_up hK) hK.1 hP hD hS hA rfl rfl [0, 1] [] rfl (by decide) rfl rfl (by decide) (by decide) (Nat.le_of_ble_eq_true rfl) (Nat.le_of_ble_eq_true rfl) d_SR_number_34 (fun v _ H locs hp hP hD hS => ?_)
  obtain rfl : v = none := hp
  have hP : va_P (dC, dI) classes [(h0, .inr (8, [.ref fo, .int 0, .int 1])), (fo, .inr (18, fQ r))] H := hP
  have hD : va_D A [(h0, .inr (8, [.ref fo, .int 0, .int 1])), (fo, .inr (18, fQ r))] := hD
  refine W.eq (g2 := F0 m 37 ls []) rfl ?_
  refine lv_iconst (v := 0) hx hb d_SR_number_37 (by decide) ?_
  exact ax_iret hx hb hr hlocks hP hD hS () rfl [0, 1] rfl (by decide) rfl (Nat.le_of_ble_eq_true rfl) (Nat.le_of_ble_eq_true rfl) d_SR_number_38
theorem d_SR_number_7 : decode b_SR_number 7 = .ok (.iconst 0, 1) := by decide +kernel
theorem d_SR_number_8 : decode b_SR_number 8 = .ok (.ireturn, 1) := by decide +kernel
set_option maxHeartbeats 4000000 in
set_option maxRecDepth 100000 in
theorem c_SR_number1 (l : Launch) (dC : Nat → ClassId) (dI : Nat → Nat → Nat) (ca : Nat → ClassId) (h0 fo : Nat) (r : Nat → Nat) (i : Int32) : CT l classes (dC, dI) (sK dC dI ca) sk y_SR_number b_SR_number 4 (some (.int)) 0 0 0 0 [.ref h0, .int i] [(h0, .inr (8, [.ref fo, .int 0, .int 1])), (fo, .inr (18, fQ r))] (fun (v : Option Value) (_ : Unit) => v = some (.int 0)) (fun (_ : Unit) => [(h0, .inr (8, [.ref fo, .int 0, .int 1])), (fo, .inr (18, fQ r))]) := by
  refine ax_of (by decide) (Nat.le_of_ble_eq_true rfl) ?_
  intro p e s m below meth c A ls hAt hK hP hD hS hA hl
  obtain ⟨hx, hb, hr, hml, hown, hts, hlocks, hin⟩ := hAt
  have hl : lv_has ls 4 [(0, .ref h0), (1, .int i)] := hl
  refine lv_aload_n hx hb d_SR_number_0 rfl (lv_at hl 0 rfl) ?_
  refine va_get (D := (dC, dI)) (ci := 8) (v := .int 1) (C := R_SR) (T := F_SR) (N := 3) hx hb hts i_SR hown hK.1 hP 0 rfl rfl 2 (by decide) (hts _ xs_33) (fun _ h9 => h9) rfl d_SR_number_1 ?_
  refine lv_if_eq (tgt := 9) hx hb d_SR_number_4 (by decide) (fun h => absurd h (by decide)) (fun _ => ?_)
  refine lv_iconst (v := 0) hx hb d_SR_number_7 (by decide) ?_
  exact ax_iret hx hb hr hlocks hP hD hS () rfl [0, 1] rfl (by decide) rfl (Nat.le_of_ble_eq_true rfl) (Nat.le_of_ble_eq_true rfl) d_SR_number_8
theorem d_SR_bounded_0 : decode b_SR_bounded 0 = .ok (.aload_n 0, 1) := by decide +kernel
theorem d_SR_bounded_1 : decode b_SR_bounded 1 = .ok (.getfield 15, 3) := by decide +kernel
theorem d_SR_bounded_4 : decode b_SR_bounded 4 = .ok (.istore 5, 2) := by decide +kernel
theorem d_SR_bounded_6 : decode b_SR_bounded 6 = .ok (.aload_n 0, 1) := by decide +kernel
theorem d_SR_bounded_7 : decode b_SR_bounded 7 = .ok (.iload_n 1, 1) := by decide +kernel
theorem d_SR_bounded_8 : decode b_SR_bounded 8 = .ok (.invokevirtual 65, 3) := by decide +kernel
theorem d_SR_bounded_11 : decode b_SR_bounded 11 = .ok (.istore 6, 2) := by decide +kernel
theorem d_SR_bounded_13 : decode b_SR_bounded 13 = .ok (.aload_n 0, 1) := by decide +kernel
theorem d_SR_bounded_14 : decode b_SR_bounded 14 = .ok (.getfield 19, 3) := by decide +kernel
theorem d_SR_bounded_17 : decode b_SR_bounded 17 = .ok (.ifCond .ne 23, 3) := by decide +kernel
theorem d_SR_bounded_40 : decode b_SR_bounded 40 = .ok (.iload 6, 2) := by decide +kernel
theorem d_SR_bounded_42 : decode b_SR_bounded 42 = .ok (.ireturn, 1) := by decide +kernel
set_option maxHeartbeats 4000000 in
set_option maxRecDepth 100000 in
theorem c_SR_bounded (l : Launch) (dC : Nat → ClassId) (dI : Nat → Nat → Nat) (ca : Nat → ClassId) (h0 fo : Nat) (r : Nat → Nat) (i j k n : Int32) : CT l classes (dC, dI) (sK dC dI ca) sk y_SR_bounded b_SR_bounded 7 (some (.int)) 2 45 0 0 [.ref h0, .int i, .int j, .int k, .int n] [(h0, .inr (8, [.ref fo, .int 0, .int 1])), (fo, .inr (18, fQ r))] (fun (v : Option Value) (_ : Unit) => v = some (.int 0)) (fun (_ : Unit) => [(h0, .inr (8, [.ref fo, .int 0, .int 1])), (fo, .inr (18, fQ r))]) := by
  refine ax_of (by decide) (Nat.le_of_ble_eq_true rfl) ?_
  intro p e s m below meth c A ls hAt hK hP hD hS hA hl
  obtain ⟨hx, hb, hr, hml, hown, hts, hlocks, hin⟩ := hAt
  have hl : lv_has ls 7 [(0, .ref h0), (1, .int i), (2, .int j), (3, .int k), (4, .int n)] := hl
  refine lv_aload_n hx hb d_SR_bounded_0 rfl (lv_at hl 0 rfl) ?_
  refine va_get (D := (dC, dI)) (ci := 8) (v := .int 0) (C := R_SR) (T := F_SR) (N := 3) hx hb hts i_SR hown hK.1 hP 0 rfl rfl 1 (by decide) (hts _ xs_32) (fun _ h9 => h9) rfl d_SR_bounded_1 ?_
  refine lv_istore (lv' := [(5, .int 0), (0, .ref h0), (1, .int i), (2, .int j), (3, .int k), (4, .int n)]) hx hb d_SR_bounded_4 hl (by decide) rfl (fun ls hl => ?_)
  refine lv_aload_n hx hb d_SR_bounded_6 rfl (lv_at hl 1 rfl) ?_
  refine lv_iload_n hx hb d_SR_bounded_7 rfl (lv_at hl 2 rfl) ?_
  refine ax_V (ci := 8) (q0 := 0) (k := 1) (As := [.int i]) (rest := []) (wr := []) rfl hx hb hml hown hts g_sk (sK_bl dC dI ca) (c_SR_number1 l dC dI ca h0 fo r i) xs_230 xs_231 xs_1 xs_232 xs_328 (by decide +kernel) rfl (Nat.le_of_ble_eq_true rfl) (Nat.le_of_ble_eq_true rfl) hl.1 (Nat.le_of_ble_eq_true rfl) (sK_up hK) hK.1 hP hD hS hA rfl rfl [0, 1] [] rfl (by decide) rfl rfl (by decide) (by decide) (Nat.le_of_ble_eq_true rfl) (Nat.le_of_ble_eq_true rfl) d_SR_bounded_8 (fun v _ H locs hp hP hD hS => ?_)
  obtain rfl : v = some (.int 0) := hp
  have hP : va_P (dC, dI) classes [(h0, .inr (8, [.ref fo, .int 0, .int 1])), (fo, .inr (18, fQ r))] H := hP
  have hD : va_D A [(h0, .inr (8, [.ref fo, .int 0, .int 1])), (fo, .inr (18, fQ r))] := hD
  refine W.eq (g2 := F0 m 11 ls [.int 0]) rfl ?_
  refine lv_istore (lv' := [(6, .int 0), (5, .int 0), (0, .ref h0), (1, .int i), (2, .int j), (3, .int k), (4, .int n)]) hx hb d_SR_bounded_11 hl (by decide) rfl (fun ls hl => ?_)
  refine lv_aload_n hx hb d_SR_bounded_13 rfl (lv_at hl 2 rfl) ?_
  refine va_get (D := (dC, dI)) (ci := 8) (v := .int 1) (C := R_SR) (T := F_SR) (N := 3) hx hb hts i_SR hown hK.1 hP 0 rfl rfl 2 (by decide) (hts _ xs_33) (fun _ h9 => h9) rfl d_SR_bounded_14 ?_
  refine lv_if_ne (tgt := 40) hx hb d_SR_bounded_17 (by decide) (fun _ => ?_) (fun h => absurd h (by decide))
  refine lv_iload hx hb d_SR_bounded_40 (lv_at hl 0 rfl) ?_
  exact ax_iret hx hb hr hlocks hP hD hS () rfl [0, 1] rfl (by decide) rfl (Nat.le_of_ble_eq_true rfl) (Nat.le_of_ble_eq_true rfl) d_SR_bounded_42
theorem d_SR_readHead_0 : decode b_SR_readHead 0 = .ok (.aload_n 0, 1) := by decide +kernel
theorem d_SR_readHead_1 : decode b_SR_readHead 1 = .ok (.iconst 4, 1) := by decide +kernel
theorem d_SR_readHead_2 : decode b_SR_readHead 2 = .ok (.invokevirtual 65, 3) := by decide +kernel
theorem d_SR_readHead_5 : decode b_SR_readHead 5 = .ok (.ldc 68, 2) := by decide +kernel
theorem d_SR_readHead_7 : decode b_SR_readHead 7 = .ok (.if_icmp .eq 9, 3) := by decide +kernel
theorem d_SR_readHead_10 : decode b_SR_readHead 10 = .ok (.aload_n 0, 1) := by decide +kernel
theorem d_SR_readHead_11 : decode b_SR_readHead 11 = .ok (.iconst 2, 1) := by decide +kernel
theorem d_SR_readHead_12 : decode b_SR_readHead 12 = .ok (.iconst 0, 1) := by decide +kernel
theorem d_SR_readHead_13 : decode b_SR_readHead 13 = .ok (.invokevirtual 57, 3) := by decide +kernel
theorem d_SR_readHead_16 : decode b_SR_readHead 16 = .ok (.aload_n 0, 1) := by decide +kernel
theorem d_SR_readHead_17 : decode b_SR_readHead 17 = .ok (.iconst 2, 1) := by decide +kernel
theorem d_SR_readHead_18 : decode b_SR_readHead 18 = .ok (.iconst 3, 1) := by decide +kernel
theorem d_SR_readHead_19 : decode b_SR_readHead 19 = .ok (.iconst 1, 1) := by decide +kernel
theorem d_SR_readHead_20 : decode b_SR_readHead 20 = .ok (.bipush 9, 2) := by decide +kernel
theorem d_SR_readHead_22 : decode b_SR_readHead 22 = .ok (.invokevirtual 40, 3) := by decide +kernel
theorem d_SR_readHead_25 : decode b_SR_readHead 25 = .ok (.pop, 1) := by decide +kernel
theorem d_SR_readHead_26 : decode b_SR_readHead 26 = .ok (.aload_n 0, 1) := by decide +kernel
theorem d_SR_readHead_27 : decode b_SR_readHead 27 = .ok (.iconst 2, 1) := by decide +kernel
theorem d_SR_readHead_28 : decode b_SR_readHead 28 = .ok (.iconst 4, 1) := by decide +kernel
theorem d_SR_readHead_29 : decode b_SR_readHead 29 = .ok (.iconst 1, 1) := by decide +kernel
theorem d_SR_readHead_30 : decode b_SR_readHead 30 = .ok (.iload_n 1, 1) := by decide +kernel
theorem d_SR_readHead_31 : decode b_SR_readHead 31 = .ok (.invokevirtual 40, 3) := by decide +kernel
theorem d_SR_readHead_34 : decode b_SR_readHead 34 = .ok (.istore_n 2, 1) := by decide +kernel
theorem d_SR_readHead_35 : decode b_SR_readHead 35 = .ok (.aload_n 0, 1) := by decide +kernel
theorem d_SR_readHead_36 : decode b_SR_readHead 36 = .ok (.getfield 19, 3) := by decide +kernel
theorem d_SR_readHead_39 : decode b_SR_readHead 39 = .ok (.ifCond .ne 11, 3) := by decide +kernel
theorem d_SR_readHead_50 : decode b_SR_readHead 50 = .ok (.return_, 1) := by decide +kernel
set_option maxHeartbeats 4000000 in
set_option maxRecDepth 100000 in
theorem c_SR_readHead (l : Launch) (dC : Nat → ClassId) (dI : Nat → Nat → Nat) (ca : Nat → ClassId) (h0 fo : Nat) (r : Nat → Nat) : CT l classes (dC, dI) (sK dC dI ca) sk y_SR_readHead b_SR_readHead 3 none 3 71 0 0 [.ref h0, .int 2000] [(h0, .inr (8, [.ref fo, .int 0, .int 0])), (fo, .inr (18, fQ r))] (fun (v : Option Value) (_ : Unit) => v = none) (fun (_ : Unit) => [(h0, .inr (8, [.ref fo, .int 0, .int 1])), (fo, .inr (18, fQ r))]) := by
  refine ax_of (by decide) (Nat.le_of_ble_eq_true rfl) ?_
  intro p e s m below meth c A ls hAt hK hP hD hS hA hl
  obtain ⟨hx, hb, hr, hml, hown, hts, hlocks, hin⟩ := hAt
  have hl : lv_has ls 3 [(0, .ref h0), (1, .int 2000)] := hl
  refine lv_aload_n hx hb d_SR_readHead_0 rfl (lv_at hl 0 rfl) ?_
  refine lv_iconst (v := 4) hx hb d_SR_readHead_1 (by decide) ?_
  refine ax_V (ci := 8) (q0 := 0) (k := 1) (As := [.int 4]) (rest := []) (wr := []) rfl hx hb hml hown hts g_sk (sK_bl dC dI ca) (c_SR_number0 l dC dI ca h0 fo r) xs_230 xs_231 xs_1 xs_232 xs_328 (by decide +kernel) rfl (Nat.le_of_ble_eq_true rfl) (Nat.le_of_ble_eq_true rfl) hl.1 (Nat.le_of_ble_eq_true rfl) (sK_up hK) hK.1 hP hD hS hA rfl rfl [0, 1] [] rfl (by decide) rfl rfl (by decide) (by decide) (Nat.le_of_ble_eq_true rfl) (Nat.le_of_ble_eq_true rfl) d_SR_readHead_2 (fun v _ H locs hp hP hD hS => ?_)
  obtain rfl : v = some (.int 0) := hp
  have hP : va_P (dC, dI) classes [(h0, .inr (8, [.ref fo, .int 0, .int 1])), (fo, .inr (18, fQ r))] H := hP
  have hD : va_D A [(h0, .inr (8, [.ref fo, .int 0, .int 1])), (fo, .inr (18, fQ r))] := hD
  refine W.eq (g2 := F0 m 5 ls [.int 0]) rfl ?_
  refine lv_ldc (v := -1341656802) hx hb hown (hts _ xs_236) d_SR_readHead_5 ?_
  refine lv_icmp_eq (tgt := 16) hx hb d_SR_readHead_7 (by decide) (fun h => absurd h (by decide)) (fun _ => ?_)
  refine lv_aload_n hx hb d_SR_readHead_10 rfl (lv_at hl 0 rfl) ?_
  refine lv_iconst (v := 2) hx hb d_SR_readHead_11 (by decide) ?_
  refine lv_iconst (v := 0) hx hb d_SR_readHead_12 (by decide) ?_
  refine ax_V (ci := 8) (q0 := 0) (k := 2) (As := [.int 2, .int 0]) (rest := []) (wr := []) rfl hx hb hml hown hts g_sk (sK_bl dC dI ca) (c_SR_tell1 l dC dI ca h0 fo r 2 0) xs_233 xs_234 xs_1 xs_235 xs_327 (by decide +kernel) rfl (Nat.le_of_ble_eq_true rfl) (Nat.le_of_ble_eq_true rfl) hl.1 (Nat.le_of_ble_eq_true rfl) (sK_up hK) hK.1 hP hD hS hA rfl rfl [0, 1] [] rfl (by decide) rfl rfl (by decide) (by decide) (Nat.le_of_ble_eq_true rfl) (Nat.le_of_ble_eq_true rfl) d_SR_readHead_13 (fun v _ H locs hp hP hD hS => ?_)
  obtain rfl : v = none := hp
  have hP : va_P (dC, dI) classes [(h0, .inr (8, [.ref fo, .int 0, .int 1])), (fo, .inr (18, fQ r))] H := hP
  have hD : va_D A [(h0, .inr (8, [.ref fo, .int 0, .int 1])), (fo, .inr (18, fQ r))] := hD
  refine W.eq (g2 := F0 m 16 ls []) rfl ?_
  refine lv_aload_n hx hb d_SR_readHead_16 rfl (lv_at hl 0 rfl) ?_
  refine lv_iconst (v := 2) hx hb d_SR_readHead_17 (by decide) ?_
  refine lv_iconst (v := 3) hx hb d_SR_readHead_18 (by decide) ?_
  refine lv_iconst (v := 1) hx hb d_SR_readHead_19 (by decide) ?_
  refine lv_bipush (v := 9) hx hb d_SR_readHead_20 (by decide +kernel) ?_
  refine ax_V (ci := 8) (q0 := 0) (k := 4) (As := [.int 2, .int 3, .int 1, .int 9]) (rest := []) (wr := []) rfl hx hb hml hown hts g_sk (sK_bl dC dI ca) (c_SR_bounded l dC dI ca h0 fo r 2 3 1 9) xs_237 xs_238 xs_1 xs_239 xs_329 (by decide +kernel) rfl (Nat.le_of_ble_eq_true rfl) (Nat.le_of_ble_eq_true rfl) hl.1 (Nat.le_of_ble_eq_true rfl) (sK_up hK) hK.1 hP hD hS hA rfl rfl [0, 1] [] rfl (by decide) rfl rfl (by decide) (by decide) (Nat.le_of_ble_eq_true rfl) (Nat.le_of_ble_eq_true rfl) d_SR_readHead_22 (fun v _ H locs hp hP hD hS => ?_)
  obtain rfl : v = some (.int 0) := hp
  have hP : va_P (dC, dI) classes [(h0, .inr (8, [.ref fo, .int 0, .int 1])), (fo, .inr (18, fQ r))] H := hP
  have hD : va_D A [(h0, .inr (8, [.ref fo, .int 0, .int 1])), (fo, .inr (18, fQ r))] := hD
  refine W.eq (g2 := F0 m 25 ls [.int 0]) rfl ?_
  refine lv_pop hx hb d_SR_readHead_25 rfl ?_
  refine lv_aload_n hx hb d_SR_readHead_26 rfl (lv_at hl 0 rfl) ?_
  refine lv_iconst (v := 2) hx hb d_SR_readHead_27 (by decide) ?_
  refine lv_iconst (v := 4) hx hb d_SR_readHead_28 (by decide) ?_
  refine lv_iconst (v := 1) hx hb d_SR_readHead_29 (by decide) ?_
  refine lv_iload_n hx hb d_SR_readHead_30 rfl (lv_at hl 1 rfl) ?_
  refine ax_V (ci := 8) (q0 := 0) (k := 4) (As := [.int 2, .int 4, .int 1, .int 2000]) (rest := []) (wr := []) rfl hx hb hml hown hts g_sk (sK_bl dC dI ca) (c_SR_bounded l dC dI ca h0 fo r 2 4 1 2000) xs_237 xs_238 xs_1 xs_239 xs_329 (by decide +kernel) rfl (Nat.le_of_ble_eq_true rfl) (Nat.le_of_ble_eq_true rfl) hl.1 (Nat.le_of_ble_eq_true rfl) (sK_up hK) hK.1 hP hD hS hA rfl rfl [0, 1] [] rfl (by decide) rfl rfl (by decide) (by decide) (Nat.le_of_ble_eq_true rfl) (Nat.le_of_ble_eq_true rfl) d_SR_readHead_31 (fun v _ H locs hp hP hD hS => ?_)
  obtain rfl : v = some (.int 0) := hp
  have hP : va_P (dC, dI) classes [(h0, .inr (8, [.ref fo, .int 0, .int 1])), (fo, .inr (18, fQ r))] H := hP
  have hD : va_D A [(h0, .inr (8, [.ref fo, .int 0, .int 1])), (fo, .inr (18, fQ r))] := hD
  refine W.eq (g2 := F0 m 34 ls [.int 0]) rfl ?_
  refine lv_istore_n (lv' := [(2, .int 0), (0, .ref h0), (1, .int 2000)]) hx hb d_SR_readHead_34 rfl hl (by decide) rfl (fun ls hl => ?_)
  refine lv_aload_n hx hb d_SR_readHead_35 rfl (lv_at hl 1 rfl) ?_
  refine va_get (D := (dC, dI)) (ci := 8) (v := .int 1) (C := R_SR) (T := F_SR) (N := 3) hx hb hts i_SR hown hK.1 hP 0 rfl rfl 2 (by decide) (hts _ xs_33) (fun _ h9 => h9) rfl d_SR_readHead_36 ?_
  refine lv_if_ne (tgt := 50) hx hb d_SR_readHead_39 (by decide) (fun _ => ?_) (fun h => absurd h (by decide))
  exact ax_vret hx hb hr hlocks hP hD hS () rfl [0, 1] rfl (by decide) rfl (Nat.le_of_ble_eq_true rfl) (Nat.le_of_ble_eq_true rfl) d_SR_readHead_50
theorem d_SR_read_0 : decode b_SR_read 0 = .ok (.aload_n 0, 1) := by decide +kernel
theorem d_SR_read_1 : decode b_SR_read 1 = .ok (.aload_n 1, 1) := by decide +kernel
theorem d_SR_read_2 : decode b_SR_read 2 = .ok (.putfield 9, 3) := by decide +kernel
theorem d_SR_read_5 : decode b_SR_read 5 = .ok (.aload_n 0, 1) := by decide +kernel
theorem d_SR_read_6 : decode b_SR_read 6 = .ok (.iconst 0, 1) := by decide +kernel
theorem d_SR_read_7 : decode b_SR_read 7 = .ok (.putfield 15, 3) := by decide +kernel
theorem d_SR_read_10 : decode b_SR_read 10 = .ok (.aload_n 0, 1) := by decide +kernel
theorem d_SR_read_11 : decode b_SR_read 11 = .ok (.iconst 0, 1) := by decide +kernel
theorem d_SR_read_12 : decode b_SR_read 12 = .ok (.putfield 19, 3) := by decide +kernel
theorem d_SR_read_15 : decode b_SR_read 15 = .ok (.aload_n 0, 1) := by decide +kernel
theorem d_SR_read_16 : decode b_SR_read 16 = .ok (.iload_n 2, 1) := by decide +kernel
theorem d_SR_read_17 : decode b_SR_read 17 = .ok (.invokevirtual 22, 3) := by decide +kernel
theorem d_SR_read_20 : decode b_SR_read 20 = .ok (.iconst 1, 1) := by decide +kernel
theorem d_SR_read_21 : decode b_SR_read 21 = .ok (.istore_n 3, 1) := by decide +kernel
theorem d_SR_read_22 : decode b_SR_read 22 = .ok (.aload_n 0, 1) := by decide +kernel
theorem d_SR_read_23 : decode b_SR_read 23 = .ok (.getfield 19, 3) := by decide +kernel
theorem d_SR_read_26 : decode b_SR_read 26 = .ok (.ifCond .ne 25, 3) := by decide +kernel
theorem d_SR_read_51 : decode b_SR_read 51 = .ok (.iconst 1, 1) := by decide +kernel
theorem d_SR_read_52 : decode b_SR_read 52 = .ok (.istore_n 3, 1) := by decide +kernel
theorem d_SR_read_53 : decode b_SR_read 53 = .ok (.aload_n 0, 1) := by decide +kernel
theorem d_SR_read_54 : decode b_SR_read 54 = .ok (.getfield 19, 3) := by decide +kernel
theorem d_SR_read_57 : decode b_SR_read 57 = .ok (.ifCond .ne 25, 3) := by decide +kernel
theorem d_SR_read_82 : decode b_SR_read 82 = .ok (.aload_n 0, 1) := by decide +kernel
theorem d_SR_read_83 : decode b_SR_read 83 = .ok (.getfield 19, 3) := by decide +kernel
theorem d_SR_read_86 : decode b_SR_read 86 = .ok (.ifCond .ne 7, 3) := by decide +kernel
theorem d_SR_read_93 : decode b_SR_read 93 = .ok (.aload_n 0, 1) := by decide +kernel
theorem d_SR_read_94 : decode b_SR_read 94 = .ok (.iconst 2, 1) := by decide +kernel
theorem d_SR_read_95 : decode b_SR_read 95 = .ok (.iconst 4, 1) := by decide +kernel
theorem d_SR_read_96 : decode b_SR_read 96 = .ok (.iconst 0, 1) := by decide +kernel
theorem d_SR_read_97 : decode b_SR_read 97 = .ok (.bipush 100, 2) := by decide +kernel
theorem d_SR_read_99 : decode b_SR_read 99 = .ok (.invokevirtual 40, 3) := by decide +kernel
theorem d_SR_read_102 : decode b_SR_read 102 = .ok (.istore_n 3, 1) := by decide +kernel
theorem d_SR_read_103 : decode b_SR_read 103 = .ok (.aload_n 0, 1) := by decide +kernel
theorem d_SR_read_104 : decode b_SR_read 104 = .ok (.getfield 19, 3) := by decide +kernel
theorem d_SR_read_107 : decode b_SR_read 107 = .ok (.ifCond .ne 11, 3) := by decide +kernel
theorem d_SR_read_118 : decode b_SR_read 118 = .ok (.iconst 0, 1) := by decide +kernel
theorem d_SR_read_119 : decode b_SR_read 119 = .ok (.istore 4, 2) := by decide +kernel
theorem d_SR_read_121 : decode b_SR_read 121 = .ok (.aload_n 0, 1) := by decide +kernel
theorem d_SR_read_122 : decode b_SR_read 122 = .ok (.getfield 19, 3) := by decide +kernel
theorem d_SR_read_125 : decode b_SR_read 125 = .ok (.ifCond .ne 35, 3) := by decide +kernel
theorem d_SR_read_160 : decode b_SR_read 160 = .ok (.aload_n 0, 1) := by decide +kernel
theorem d_SR_read_161 : decode b_SR_read 161 = .ok (.getfield 19, 3) := by decide +kernel
theorem d_SR_read_164 : decode b_SR_read 164 = .ok (.ifCond .ne 27, 3) := by decide +kernel
theorem d_SR_read_191 : decode b_SR_read 191 = .ok (.aload_n 0, 1) := by decide +kernel
theorem d_SR_read_192 : decode b_SR_read 192 = .ok (.getfield 19, 3) := by decide +kernel
theorem d_SR_read_195 : decode b_SR_read 195 = .ok (.ireturn, 1) := by decide +kernel
set_option maxHeartbeats 4000000 in
set_option maxRecDepth 100000 in
theorem c_SR_read (l : Launch) (dC : Nat → ClassId) (dI : Nat → Nat → Nat) (ca : Nat → ClassId) (h0 fo : Nat) (r : Nat → Nat) : CT l classes (dC, dI) (sK dC dI ca) sk y_SR_read b_SR_read 5 (some (.int)) 4 93 0 0 [.ref h0, .ref fo, .int 2000] [(h0, .inr (8, [.null, .int 0, .int 0])), (fo, .inr (18, fQ r))] (fun (v : Option Value) (_ : Unit) => v = some (.int 1)) (fun (_ : Unit) => [(h0, .inr (8, [.ref fo, .int 0, .int 1])), (fo, .inr (18, fQ r))]) := by
  refine ax_of (by decide) (Nat.le_of_ble_eq_true rfl) ?_
  intro p e s m below meth c A ls hAt hK hP hD hS hA hl
  obtain ⟨hx, hb, hr, hml, hown, hts, hlocks, hin⟩ := hAt
  have hl : lv_has ls 5 [(0, .ref h0), (1, .ref fo), (2, .int 2000)] := hl
  refine lv_aload_n hx hb d_SR_read_0 rfl (lv_at hl 0 rfl) ?_
  refine lv_aload_n hx hb d_SR_read_1 rfl (lv_at hl 1 rfl) ?_
  refine va_put (D := (dC, dI)) (ci := 8) (v := .ref fo) (ty := .object "SourceBack$Form") (C := R_SR) (T := F_SR) (N := 3) hx hb hts i_SR t_SR t_SR_ok n_SR hown hK.1 hP hD hS 0 rfl rfl 0 (by decide) (hts _ xs_31) (fun _ h9 => h9) rfl (by decide +kernel) rfl rfl (Nat.le_of_ble_eq_true rfl) d_SR_read_2 (fun H locs hP hD hS => ?_)
  have hP : va_P (dC, dI) classes [(h0, .inr (8, [.ref fo, .int 0, .int 0])), (fo, .inr (18, fQ r))] H := hP
  have hD : va_D A [(h0, .inr (8, [.ref fo, .int 0, .int 0])), (fo, .inr (18, fQ r))] := hD
  refine lv_aload_n hx hb d_SR_read_5 rfl (lv_at hl 0 rfl) ?_
  refine lv_iconst (v := 0) hx hb d_SR_read_6 (by decide) ?_
  refine va_put (D := (dC, dI)) (ci := 8) (v := .int 0) (ty := .int) (C := R_SR) (T := F_SR) (N := 3) hx hb hts i_SR t_SR t_SR_ok n_SR hown hK.1 hP hD hS 0 rfl rfl 1 (by decide) (hts _ xs_32) (fun _ h9 => h9) rfl (by decide +kernel) rfl rfl (Nat.le_of_ble_eq_true rfl) d_SR_read_7 (fun H locs hP hD hS => ?_)
  have hP : va_P (dC, dI) classes [(h0, .inr (8, [.ref fo, .int 0, .int 0])), (fo, .inr (18, fQ r))] H := hP
  have hD : va_D A [(h0, .inr (8, [.ref fo, .int 0, .int 0])), (fo, .inr (18, fQ r))] := hD
  refine lv_aload_n hx hb d_SR_read_10 rfl (lv_at hl 0 rfl) ?_
  refine lv_iconst (v := 0) hx hb d_SR_read_11 (by decide) ?_
  refine va_put (D := (dC, dI)) (ci := 8) (v := .int 0) (ty := .int) (C := R_SR) (T := F_SR) (N := 3) hx hb hts i_SR t_SR t_SR_ok n_SR hown hK.1 hP hD hS 0 rfl rfl 2 (by decide) (hts _ xs_33) (fun _ h9 => h9) rfl (by decide +kernel) rfl rfl (Nat.le_of_ble_eq_true rfl) d_SR_read_12 (fun H locs hP hD hS => ?_)
  have hP : va_P (dC, dI) classes [(h0, .inr (8, [.ref fo, .int 0, .int 0])), (fo, .inr (18, fQ r))] H := hP
  have hD : va_D A [(h0, .inr (8, [.ref fo, .int 0, .int 0])), (fo, .inr (18, fQ r))] := hD
  refine lv_aload_n hx hb d_SR_read_15 rfl (lv_at hl 0 rfl) ?_
  refine lv_iload_n hx hb d_SR_read_16 rfl (lv_at hl 2 rfl) ?_
  refine ax_V (ci := 8) (q0 := 0) (k := 1) (As := [.int 2000]) (rest := []) (wr := []) rfl hx hb hml hown hts g_sk (sK_bl dC dI ca) (c_SR_readHead l dC dI ca h0 fo r) xs_227 xs_228 xs_1 xs_229 xs_330 (by decide +kernel) rfl (Nat.le_of_ble_eq_true rfl) (Nat.le_of_ble_eq_true rfl) hl.1 (Nat.le_of_ble_eq_true rfl) (sK_up hK) hK.1 hP hD hS hA rfl rfl [0, 1] [] rfl (by decide) rfl rfl (by decide) (by decide) (Nat.le_of_ble_eq_true rfl) (Nat.le_of_ble_eq_true rfl) d_SR_read_17 (fun v _ H locs hp hP hD hS => ?_)
  obtain rfl : v = none := hp
  have hP : va_P (dC, dI) classes [(h0, .inr (8, [.ref fo, .int 0, .int 1])), (fo, .inr (18, fQ r))] H := hP
  have hD : va_D A [(h0, .inr (8, [.ref fo, .int 0, .int 1])), (fo, .inr (18, fQ r))] := hD
  refine W.eq (g2 := F0 m 20 ls []) rfl ?_
  refine lv_iconst (v := 1) hx hb d_SR_read_20 (by decide) ?_
  refine lv_istore_n (lv' := [(3, .int 1), (0, .ref h0), (1, .ref fo), (2, .int 2000)]) hx hb d_SR_read_21 rfl hl (by decide) rfl (fun ls hl => ?_)
  refine lv_aload_n hx hb d_SR_read_22 rfl (lv_at hl 1 rfl) ?_
  refine va_get (D := (dC, dI)) (ci := 8) (v := .int 1) (C := R_SR) (T := F_SR) (N := 3) hx hb hts i_SR hown hK.1 hP 0 rfl rfl 2 (by decide) (hts _ xs_33) (fun _ h9 => h9) rfl d_SR_read_23 ?_
  refine lv_if_ne (tgt := 51) hx hb d_SR_read_26 (by decide) (fun _ => ?_) (fun h => absurd h (by decide))
  refine lv_iconst (v := 1) hx hb d_SR_read_51 (by decide) ?_
  refine lv_istore_n (lv' := [(3, .int 1), (0, .ref h0), (1, .ref fo), (2, .int 2000)]) hx hb d_SR_read_52 rfl hl (by decide) rfl (fun ls hl => ?_)
  refine lv_aload_n hx hb d_SR_read_53 rfl (lv_at hl 1 rfl) ?_
  refine va_get (D := (dC, dI)) (ci := 8) (v := .int 1) (C := R_SR) (T := F_SR) (N := 3) hx hb hts i_SR hown hK.1 hP 0 rfl rfl 2 (by decide) (hts _ xs_33) (fun _ h9 => h9) rfl d_SR_read_54 ?_
  refine lv_if_ne (tgt := 82) hx hb d_SR_read_57 (by decide) (fun _ => ?_) (fun h => absurd h (by decide))
  refine lv_aload_n hx hb d_SR_read_82 rfl (lv_at hl 1 rfl) ?_
  refine va_get (D := (dC, dI)) (ci := 8) (v := .int 1) (C := R_SR) (T := F_SR) (N := 3) hx hb hts i_SR hown hK.1 hP 0 rfl rfl 2 (by decide) (hts _ xs_33) (fun _ h9 => h9) rfl d_SR_read_83 ?_
  refine lv_if_ne (tgt := 93) hx hb d_SR_read_86 (by decide) (fun _ => ?_) (fun h => absurd h (by decide))
  refine lv_aload_n hx hb d_SR_read_93 rfl (lv_at hl 1 rfl) ?_
  refine lv_iconst (v := 2) hx hb d_SR_read_94 (by decide) ?_
  refine lv_iconst (v := 4) hx hb d_SR_read_95 (by decide) ?_
  refine lv_iconst (v := 0) hx hb d_SR_read_96 (by decide) ?_
  refine lv_bipush (v := 100) hx hb d_SR_read_97 (by decide +kernel) ?_
  refine ax_V (ci := 8) (q0 := 0) (k := 4) (As := [.int 2, .int 4, .int 0, .int 100]) (rest := []) (wr := []) rfl hx hb hml hown hts g_sk (sK_bl dC dI ca) (c_SR_bounded l dC dI ca h0 fo r 2 4 0 100) xs_237 xs_238 xs_1 xs_239 xs_329 (by decide +kernel) rfl (Nat.le_of_ble_eq_true rfl) (Nat.le_of_ble_eq_true rfl) hl.1 (Nat.le_of_ble_eq_true rfl) (sK_up hK) hK.1 hP hD hS hA rfl rfl [0, 1] [] rfl (by decide) rfl rfl (by decide) (by decide) (Nat.le_of_ble_eq_true rfl) (Nat.le_of_ble_eq_true rfl) d_SR_read_99 (fun v _ H locs hp hP hD hS => ?_)
  obtain rfl : v = some (.int 0) := hp
  have hP : va_P (dC, dI) classes [(h0, .inr (8, [.ref fo, .int 0, .int 1])), (fo, .inr (18, fQ r))] H := hP
  have hD : va_D A [(h0, .inr (8, [.ref fo, .int 0, .int 1])), (fo, .inr (18, fQ r))] := hD
  refine W.eq (g2 := F0 m 102 ls [.int 0]) rfl ?_
  refine lv_istore_n (lv' := [(3, .int 0), (0, .ref h0), (1, .ref fo), (2, .int 2000)]) hx hb d_SR_read_102 rfl hl (by decide) rfl (fun ls hl => ?_)
  refine lv_aload_n hx hb d_SR_read_103 rfl (lv_at hl 1 rfl) ?_
  refine va_get (D := (dC, dI)) (ci := 8) (v := .int 1) (C := R_SR) (T := F_SR) (N := 3) hx hb hts i_SR hown hK.1 hP 0 rfl rfl 2 (by decide) (hts _ xs_33) (fun _ h9 => h9) rfl d_SR_read_104 ?_
  refine lv_if_ne (tgt := 118) hx hb d_SR_read_107 (by decide) (fun _ => ?_) (fun h => absurd h (by decide))
  refine lv_iconst (v := 0) hx hb d_SR_read_118 (by decide) ?_
  refine lv_istore (lv' := [(4, .int 0), (3, .int 0), (0, .ref h0), (1, .ref fo), (2, .int 2000)]) hx hb d_SR_read_119 hl (by decide) rfl (fun ls hl => ?_)
  refine lv_aload_n hx hb d_SR_read_121 rfl (lv_at hl 2 rfl) ?_
  refine va_get (D := (dC, dI)) (ci := 8) (v := .int 1) (C := R_SR) (T := F_SR) (N := 3) hx hb hts i_SR hown hK.1 hP 0 rfl rfl 2 (by decide) (hts _ xs_33) (fun _ h9 => h9) rfl d_SR_read_122 ?_
  refine lv_if_ne (tgt := 160) hx hb d_SR_read_125 (by decide) (fun _ => ?_) (fun h => absurd h (by decide))
  refine lv_aload_n hx hb d_SR_read_160 rfl (lv_at hl 2 rfl) ?_
  refine va_get (D := (dC, dI)) (ci := 8) (v := .int 1) (C := R_SR) (T := F_SR) (N := 3) hx hb hts i_SR hown hK.1 hP 0 rfl rfl 2 (by decide) (hts _ xs_33) (fun _ h9 => h9) rfl d_SR_read_161 ?_
  refine lv_if_ne (tgt := 191) hx hb d_SR_read_164 (by decide) (fun _ => ?_) (fun h => absurd h (by decide))
  refine lv_aload_n hx hb d_SR_read_191 rfl (lv_at hl 2 rfl) ?_
  refine va_get (D := (dC, dI)) (ci := 8) (v := .int 1) (C := R_SR) (T := F_SR) (N := 3) hx hb hts i_SR hown hK.1 hP 0 rfl rfl 2 (by decide) (hts _ xs_33) (fun _ h9 => h9) rfl d_SR_read_192 ?_
  exact ax_iret hx hb hr hlocks hP hD hS () rfl [0, 1] rfl (by decide) rfl (Nat.le_of_ble_eq_true rfl) (Nat.le_of_ble_eq_true rfl) d_SR_read_195
theorem d_SS_take_0 : decode b_SS_take 0 = .ok (.aload_n 0, 1) := by decide +kernel
theorem d_SS_take_1 : decode b_SS_take 1 = .ok (.getfield 97, 3) := by decide +kernel
theorem d_SS_take_4 : decode b_SS_take 4 = .ok (.istore_n 1, 1) := by decide +kernel
theorem d_SS_take_5 : decode b_SS_take 5 = .ok (.aload_n 0, 1) := by decide +kernel
theorem d_SS_take_6 : decode b_SS_take 6 = .ok (.iconst 0, 1) := by decide +kernel
theorem d_SS_take_7 : decode b_SS_take 7 = .ok (.putfield 97, 3) := by decide +kernel
theorem d_SS_take_10 : decode b_SS_take 10 = .ok (.aload_n 0, 1) := by decide +kernel
theorem d_SS_take_11 : decode b_SS_take 11 = .ok (.getfield 107, 3) := by decide +kernel
theorem d_SS_take_14 : decode b_SS_take 14 = .ok (.bipush 16, 2) := by decide +kernel
theorem d_SS_take_16 : decode b_SS_take 16 = .ok (.if_icmp .lt 6, 3) := by decide +kernel
theorem d_SS_take_22 : decode b_SS_take 22 = .ok (.aload_n 0, 1) := by decide +kernel
theorem d_SS_take_23 : decode b_SS_take 23 = .ok (.aload_n 0, 1) := by decide +kernel
theorem d_SS_take_24 : decode b_SS_take 24 = .ok (.getfield 107, 3) := by decide +kernel
theorem d_SS_take_27 : decode b_SS_take 27 = .ok (.bipush 10, 2) := by decide +kernel
theorem d_SS_take_29 : decode b_SS_take 29 = .ok (.imul, 1) := by decide +kernel
theorem d_SS_take_30 : decode b_SS_take 30 = .ok (.invokevirtual 110, 3) := by decide +kernel
theorem d_SS_take_33 : decode b_SS_take 33 = .ok (.astore_n 2, 1) := by decide +kernel
theorem d_SS_take_34 : decode b_SS_take 34 = .ok (.aload_n 2, 1) := by decide +kernel
theorem d_SS_take_35 : decode b_SS_take 35 = .ok (.iload_n 1, 1) := by decide +kernel
theorem d_SS_take_36 : decode b_SS_take 36 = .ok (.invokevirtual 114, 3) := by decide +kernel
theorem d_SS_take_39 : decode b_SS_take 39 = .ok (.aload_n 0, 1) := by decide +kernel
theorem d_SS_take_40 : decode b_SS_take 40 = .ok (.getfield 9, 3) := by decide +kernel
theorem d_SS_take_43 : decode b_SS_take 43 = .ok (.iconst 0, 1) := by decide +kernel
theorem d_SS_take_44 : decode b_SS_take 44 = .ok (.aload_n 2, 1) := by decide +kernel
theorem d_SS_take_45 : decode b_SS_take 45 = .ok (.getfield 118, 3) := by decide +kernel
theorem d_SS_take_48 : decode b_SS_take 48 = .ok (.iconst 0, 1) := by decide +kernel
theorem d_SS_take_49 : decode b_SS_take 49 = .ok (.iload_n 1, 1) := by decide +kernel
theorem d_SS_take_50 : decode b_SS_take 50 = .ok (.invokestatic 121, 3) := by decide +kernel
theorem d_SS_take_53 : decode b_SS_take 53 = .ok (.aload_n 0, 1) := by decide +kernel
theorem d_SS_take_54 : decode b_SS_take 54 = .ok (.getfield 35, 3) := by decide +kernel
theorem d_SS_take_57 : decode b_SS_take 57 = .ok (.aload_n 2, 1) := by decide +kernel
theorem d_SS_take_58 : decode b_SS_take 58 = .ok (.sipush 2000, 3) := by decide +kernel
theorem d_SS_take_61 : decode b_SS_take 61 = .ok (.invokevirtual 127, 3) := by decide +kernel
theorem d_SS_take_64 : decode b_SS_take 64 = .ok (.istore_n 3, 1) := by decide +kernel
theorem d_SS_take_65 : decode b_SS_take 65 = .ok (.aload_n 0, 1) := by decide +kernel
theorem d_SS_take_66 : decode b_SS_take 66 = .ok (.iconst (-1), 1) := by decide +kernel
theorem d_SS_take_67 : decode b_SS_take 67 = .ok (.putfield 92, 3) := by decide +kernel
theorem d_SS_take_70 : decode b_SS_take 70 = .ok (.iconst 0, 1) := by decide +kernel
theorem d_SS_take_71 : decode b_SS_take 71 = .ok (.istore 4, 2) := by decide +kernel
theorem d_SS_take_73 : decode b_SS_take 73 = .ok (.iload_n 3, 1) := by decide +kernel
theorem d_SS_take_74 : decode b_SS_take 74 = .ok (.ifCond .ne 36, 3) := by decide +kernel
theorem d_SS_take_110 : decode b_SS_take 110 = .ok (.iload_n 3, 1) := by decide +kernel
theorem d_SS_take_111 : decode b_SS_take 111 = .ok (.ifCond .ne 26, 3) := by decide +kernel
theorem d_SS_take_137 : decode b_SS_take 137 = .ok (.iload_n 3, 1) := by decide +kernel
theorem d_SS_take_138 : decode b_SS_take 138 = .ok (.ifCond .eq 7, 3) := by decide +kernel
theorem d_SS_take_141 : decode b_SS_take 141 = .ok (.iconst (-1), 1) := by decide +kernel
theorem d_SS_take_142 : decode b_SS_take 142 = .ok (.iload_n 3, 1) := by decide +kernel
theorem d_SS_take_143 : decode b_SS_take 143 = .ok (.isub, 1) := by decide +kernel
theorem d_SS_take_144 : decode b_SS_take 144 = .ok (.ireturn, 1) := by decide +kernel
set_option maxHeartbeats 4000000 in
set_option maxRecDepth 100000 in
theorem c_SS_take (l : Launch) (dC : Nat → ClassId) (dI : Nat → Nat → Nat) (ca : Nat → ClassId) (h0 : Nat) (q : Nat → Nat) : CT l classes (dC, dI) (sK dC dI ca) sk y_SS_take b_SS_take 5 (some (.int)) 5 117 9 17 [.ref h0] [(h0, .inr (7, sF q 0)), ((q 0), .inl (ca 0, 256, .inl (fun _ => 0))), ((q 4), .inl (ca 6, 160, .inr (.inr (.inr (.inr (fun _ => none)))))), ((q 8), .inr (8, [.null, .int 0, .int 0]))] (fun (v : Option Value) (_ : Unit) => v = some (.int (-2))) (fun (_ : Unit) => [(h0, .inr (7, sF q 0))]) := by
  refine ax_of (by decide) (Nat.le_of_ble_eq_true rfl) ?_
  intro p e s m below meth c A ls hAt hK hP hD hS hA hl
  obtain ⟨hx, hb, hr, hml, hown, hts, hlocks, hin⟩ := hAt
  have hl : lv_has ls 5 [(0, .ref h0)] := hl
  refine lv_aload_n hx hb d_SS_take_0 rfl (lv_at hl 0 rfl) ?_
  refine va_get (D := (dC, dI)) (ci := 7) (v := .int 0) (C := R_SS) (T := F_SS) (N := 18) hx hb hts i_SS hown hK.1 hP 0 rfl rfl 1 (by decide) (hts _ xs_154) (fun _ h9 => h9) rfl d_SS_take_1 ?_
  refine lv_istore_n (lv' := [(1, .int 0), (0, .ref h0)]) hx hb d_SS_take_4 rfl hl (by decide) rfl (fun ls hl => ?_)
  refine lv_aload_n hx hb d_SS_take_5 rfl (lv_at hl 1 rfl) ?_
  refine lv_iconst (v := 0) hx hb d_SS_take_6 (by decide) ?_
  refine va_put (D := (dC, dI)) (ci := 7) (v := .int 0) (ty := .int) (C := R_SS) (T := F_SS) (N := 18) hx hb hts i_SS t_SS t_SS_ok n_SS hown hK.1 hP hD hS 0 rfl rfl 1 (by decide) (hts _ xs_154) (fun _ h9 => h9) rfl (by decide +kernel) rfl rfl (Nat.le_of_ble_eq_true rfl) d_SS_take_7 (fun H locs hP hD hS => ?_)
  have hP : va_P (dC, dI) classes [(h0, .inr (7, sF q 0)), ((q 0), .inl (ca 0, 256, .inl (fun _ => 0))), ((q 4), .inl (ca 6, 160, .inr (.inr (.inr (.inr (fun _ => none)))))), ((q 8), .inr (8, [.null, .int 0, .int 0]))] H := hP
  have hD : va_D A [(h0, .inr (7, sF q 0)), ((q 0), .inl (ca 0, 256, .inl (fun _ => 0))), ((q 4), .inl (ca 6, 160, .inr (.inr (.inr (.inr (fun _ => none)))))), ((q 8), .inr (8, [.null, .int 0, .int 0]))] := hD
  refine lv_aload_n hx hb d_SS_take_10 rfl (lv_at hl 1 rfl) ?_
  refine va_get (D := (dC, dI)) (ci := 7) (v := .int 0) (C := R_SS) (T := F_SS) (N := 18) hx hb hts i_SS hown hK.1 hP 0 rfl rfl 3 (by decide) (hts _ xs_156) (fun _ h9 => h9) rfl d_SS_take_11 ?_
  refine lv_bipush (v := 16) hx hb d_SS_take_14 (by decide +kernel) ?_
  refine lv_icmp_lt (tgt := 22) hx hb d_SS_take_16 (by decide) (fun _ => ?_) (fun h => absurd (by decide) h)
  refine lv_aload_n hx hb d_SS_take_22 rfl (lv_at hl 1 rfl) ?_
  refine lv_aload_n hx hb d_SS_take_23 rfl (lv_at hl 1 rfl) ?_
  refine va_get (D := (dC, dI)) (ci := 7) (v := .int 0) (C := R_SS) (T := F_SS) (N := 18) hx hb hts i_SS hown hK.1 hP 0 rfl rfl 3 (by decide) (hts _ xs_156) (fun _ h9 => h9) rfl d_SS_take_24 ?_
  refine lv_bipush (v := 10) hx hb d_SS_take_27 (by decide +kernel) ?_
  refine lv_imul hx hb d_SS_take_29 ?_
  refine lv_topi (fun z e9 => ?_)
  obtain rfl : z = 0 := by rw [e9]; decide
  refine ax_V (ci := 7) (q0 := 0) (k := 1) (As := [.int 0]) (rest := []) (wr := [((q 0), .inl (ca 0, 256, .inl (fun _ => 0))), ((q 8), .inr (8, [.null, .int 0, .int 0]))]) rfl hx hb hml hown hts g_sk (sK_bl dC dI ca) (c_SS_keptAt l dC dI ca h0 q) xs_179 xs_180 xs_0 xs_181 xs_326 (by decide +kernel) rfl (Nat.le_of_ble_eq_true rfl) (Nat.le_of_ble_eq_true rfl) hl.1 (Nat.le_of_ble_eq_true rfl) (sK_up hK) hK.1 hP hD hS hA rfl rfl [0, 2] [1, 3] rfl (by decide) rfl rfl (by decide) (by decide) (Nat.le_of_ble_eq_true rfl) (Nat.le_of_ble_eq_true rfl) d_SS_take_30 (fun v u H locs hp hP hD hS => ?_)
  obtain ⟨q_1, r_2⟩ := u
  obtain rfl : v = some (.ref q_1) := hp
  have hP : va_P (dC, dI) classes [((q 0), .inl (ca 0, 256, .inl (fun _ => 0))), ((q 8), .inr (8, [.null, .int 0, .int 0])), (h0, .inr (7, sF q 0)), (q_1, .inr (18, fQ r_2)), ((r_2 0), .inl (ca 0, 0, .inl (fun _ => 0)))] H := hP
  have hD : va_D A [((q 0), .inl (ca 0, 256, .inl (fun _ => 0))), ((q 8), .inr (8, [.null, .int 0, .int 0])), (h0, .inr (7, sF q 0)), (q_1, .inr (18, fQ r_2)), ((r_2 0), .inl (ca 0, 0, .inl (fun _ => 0)))] := hD
  refine W.eq (g2 := F0 m 33 ls [.ref q_1]) rfl ?_
  refine W.widen (k := 9) (n := 17) (Nat.le_of_ble_eq_true rfl) (Nat.le_of_ble_eq_true rfl) ?_
  refine lv_astore_n (lv' := [(2, .ref q_1), (1, .int 0), (0, .ref h0)]) hx hb d_SS_take_33 rfl hl (by decide) rfl (fun ls hl => ?_)
  refine lv_aload_n hx hb d_SS_take_34 rfl (lv_at hl 0 rfl) ?_
  refine lv_iload_n hx hb d_SS_take_35 rfl (lv_at hl 1 rfl) ?_
  refine ax_V (ci := 18) (q0 := 0) (k := 1) (As := [.int 0]) (rest := []) (wr := [((q 0), .inl (ca 0, 256, .inl (fun _ => 0))), ((q 8), .inr (8, [.null, .int 0, .int 0])), (h0, .inr (7, sF q 0))]) rfl hx hb hml hown hts g_sk (sK_bl dC dI ca) (c_SQ_begin l dC dI ca q_1 r_2) xs_218 xs_219 xs_14 xs_221 xs_220 (by decide +kernel) rfl (Nat.le_of_ble_eq_true rfl) (Nat.le_of_ble_eq_true rfl) hl.1 (Nat.le_of_ble_eq_true rfl) (sK_up hK) hK.1 hP hD hS hA rfl rfl [3, 4] [0, 1, 2] rfl (by decide) rfl rfl (by decide) (by decide) (Nat.le_of_ble_eq_true rfl) (Nat.le_of_ble_eq_true rfl) d_SS_take_36 (fun v _ H locs hp hP hD hS => ?_)
  obtain rfl : v = none := hp
  have hP : va_P (dC, dI) classes [((q 0), .inl (ca 0, 256, .inl (fun _ => 0))), ((q 8), .inr (8, [.null, .int 0, .int 0])), (h0, .inr (7, sF q 0)), (q_1, .inr (18, fQ r_2)), ((r_2 0), .inl (ca 0, 0, .inl (fun _ => 0)))] H := hP
  have hD : va_D A [((q 0), .inl (ca 0, 256, .inl (fun _ => 0))), ((q 8), .inr (8, [.null, .int 0, .int 0])), (h0, .inr (7, sF q 0)), (q_1, .inr (18, fQ r_2)), ((r_2 0), .inl (ca 0, 0, .inl (fun _ => 0)))] := hD
  refine W.eq (g2 := F0 m 39 ls []) rfl ?_
  refine lv_aload_n hx hb d_SS_take_39 rfl (lv_at hl 2 rfl) ?_
  refine va_get (D := (dC, dI)) (ci := 7) (v := .ref (q 0)) (C := R_SS) (T := F_SS) (N := 18) hx hb hts i_SS hown hK.1 hP 2 rfl rfl 0 (by decide) (hts _ xs_153) (fun _ h9 => h9) rfl d_SS_take_40 ?_
  refine lv_iconst (v := 0) hx hb d_SS_take_43 (by decide) ?_
  refine lv_aload_n hx hb d_SS_take_44 rfl (lv_at hl 0 rfl) ?_
  refine va_get (D := (dC, dI)) (ci := 18) (v := .ref (r_2 0)) (C := R_SQ) (T := F_SQ) (N := 16) hx hb hts i_SQ hown hK.1 hP 3 rfl rfl 0 (by decide) (hts _ xs_188) (fun _ h9 => h9) rfl d_SS_take_45 ?_
  refine lv_iconst (v := 0) hx hb d_SS_take_48 (by decide) ?_
  refine lv_iload_n hx hb d_SS_take_49 rfl (lv_at hl 1 rfl) ?_
  refine va_copyi hx hb (hml.trans hl.1.symm) hown (hts _ xs_222) (hts _ xs_175) (hts _ xs_174) (hts _ xs_13) hK.1 hP hD hS 0 4 0 0 (ty := .byte) rfl rfl rfl rfl rfl (by decide) (by decide) (by decide) (Nat.le_of_ble_eq_true rfl) (Nat.le_of_ble_eq_true rfl) (fun i hi => absurd hi (Nat.not_lt_zero _)) (Nat.le_of_ble_eq_true rfl) (Nat.le_of_ble_eq_true rfl) d_SS_take_50 (fun H locs hP hD hS => ?_)
  have hP : va_P (dC, dI) classes [((q 0), .inl (ca 0, 256, .inl (fun _ => 0))), ((q 8), .inr (8, [.null, .int 0, .int 0])), (h0, .inr (7, sF q 0)), (q_1, .inr (18, fQ r_2)), ((r_2 0), .inl (ca 0, 0, .inl (va_cpy (fun _ => 0) (fun _ => 0) (Int32.toNatClampNeg 0) (Int32.toNatClampNeg 0) (Int32.toNatClampNeg 0))))] H := hP
  have hD : va_D A [((q 0), .inl (ca 0, 256, .inl (fun _ => 0))), ((q 8), .inr (8, [.null, .int 0, .int 0])), (h0, .inr (7, sF q 0)), (q_1, .inr (18, fQ r_2)), ((r_2 0), .inl (ca 0, 0, .inl (va_cpy (fun _ => 0) (fun _ => 0) (Int32.toNatClampNeg 0) (Int32.toNatClampNeg 0) (Int32.toNatClampNeg 0))))] := hD
  generalize va_cpy (fun _ => (0 : Int32)) (fun _ => (0 : Int32)) (Int32.toNatClampNeg 0) (Int32.toNatClampNeg 0) (Int32.toNatClampNeg 0) = g9 at hP hD
  have hP : va_P (dC, dI) classes [((q 0), .inl (ca 0, 256, .inl (fun _ => 0))), ((q 8), .inr (8, [.null, .int 0, .int 0])), (h0, .inr (7, sF q 0)), (q_1, .inr (18, fQ r_2)), ((r_2 0), .inl (ca 0, 0, .inl g9))] H := hP
  have hD : va_D A [((q 0), .inl (ca 0, 256, .inl (fun _ => 0))), ((q 8), .inr (8, [.null, .int 0, .int 0])), (h0, .inr (7, sF q 0)), (q_1, .inr (18, fQ r_2)), ((r_2 0), .inl (ca 0, 0, .inl g9))] := hD
  refine lv_aload_n hx hb d_SS_take_53 rfl (lv_at hl 2 rfl) ?_
  refine va_get (D := (dC, dI)) (ci := 7) (v := .ref (q 8)) (C := R_SS) (T := F_SS) (N := 18) hx hb hts i_SS hown hK.1 hP 2 rfl rfl 8 (by decide) (hts _ xs_161) (fun _ h9 => h9) rfl d_SS_take_54 ?_
  refine lv_aload_n hx hb d_SS_take_57 rfl (lv_at hl 0 rfl) ?_
  refine lv_sipush (v := 2000) hx hb d_SS_take_58 (by decide +kernel) ?_
  refine ax_V (ci := 8) (q0 := 0) (k := 2) (As := [.ref q_1, .int 2000]) (rest := []) (wr := [((q 0), .inl (ca 0, 256, .inl (fun _ => 0))), (h0, .inr (7, sF q 0)), ((r_2 0), .inl (ca 0, 0, .inl g9))]) rfl hx hb hml hown hts g_sk (sK_bl dC dI ca) (c_SR_read l dC dI ca (q 8) q_1 r_2) xs_223 xs_224 xs_1 xs_226 xs_225 (by decide +kernel) rfl (Nat.le_of_ble_eq_true rfl) (Nat.le_of_ble_eq_true rfl) hl.1 (Nat.le_of_ble_eq_true rfl) (sK_up hK) hK.1 hP hD hS hA rfl rfl [1, 3] [0, 2, 4] rfl (by decide) rfl rfl (by decide) (by decide) (Nat.le_of_ble_eq_true rfl) (Nat.le_of_ble_eq_true rfl) d_SS_take_61 (fun v _ H locs hp hP hD hS => ?_)
  obtain rfl : v = some (.int 1) := hp
  have hP : va_P (dC, dI) classes [((q 0), .inl (ca 0, 256, .inl (fun _ => 0))), (h0, .inr (7, sF q 0)), ((r_2 0), .inl (ca 0, 0, .inl g9)), ((q 8), .inr (8, [.ref q_1, .int 0, .int 1])), (q_1, .inr (18, fQ r_2))] H := hP
  have hD : va_D A [((q 0), .inl (ca 0, 256, .inl (fun _ => 0))), (h0, .inr (7, sF q 0)), ((r_2 0), .inl (ca 0, 0, .inl g9)), ((q 8), .inr (8, [.ref q_1, .int 0, .int 1])), (q_1, .inr (18, fQ r_2))] := hD
  refine W.eq (g2 := F0 m 64 ls [.int 1]) rfl ?_
  refine lv_istore_n (lv' := [(3, .int 1), (2, .ref q_1), (1, .int 0), (0, .ref h0)]) hx hb d_SS_take_64 rfl hl (by decide) rfl (fun ls hl => ?_)
  refine lv_aload_n hx hb d_SS_take_65 rfl (lv_at hl 3 rfl) ?_
  refine lv_iconst (v := (-1)) hx hb d_SS_take_66 (by decide) ?_
  refine va_put (D := (dC, dI)) (ci := 7) (v := .int (-1)) (ty := .int) (C := R_SS) (T := F_SS) (N := 18) hx hb hts i_SS t_SS t_SS_ok n_SS hown hK.1 hP hD hS 1 rfl rfl 17 (by decide) (hts _ xs_169) (fun _ h9 => h9) rfl (by decide +kernel) rfl rfl (Nat.le_of_ble_eq_true rfl) d_SS_take_67 (fun H locs hP hD hS => ?_)
  have hP : va_P (dC, dI) classes [((q 0), .inl (ca 0, 256, .inl (fun _ => 0))), (h0, .inr (7, sF q 0)), ((r_2 0), .inl (ca 0, 0, .inl g9)), ((q 8), .inr (8, [.ref q_1, .int 0, .int 1])), (q_1, .inr (18, fQ r_2))] H := hP
  have hD : va_D A [((q 0), .inl (ca 0, 256, .inl (fun _ => 0))), (h0, .inr (7, sF q 0)), ((r_2 0), .inl (ca 0, 0, .inl g9)), ((q 8), .inr (8, [.ref q_1, .int 0, .int 1])), (q_1, .inr (18, fQ r_2))] := hD
  refine lv_iconst (v := 0) hx hb d_SS_take_70 (by decide) ?_
  refine lv_istore (lv' := [(4, .int 0), (3, .int 1), (2, .ref q_1), (1, .int 0), (0, .ref h0)]) hx hb d_SS_take_71 hl (by decide) rfl (fun ls hl => ?_)
  refine lv_iload_n hx hb d_SS_take_73 rfl (lv_at hl 1 rfl) ?_
  refine lv_if_ne (tgt := 110) hx hb d_SS_take_74 (by decide) (fun _ => ?_) (fun h => absurd h (by decide))
  refine lv_iload_n hx hb d_SS_take_110 rfl (lv_at hl 1 rfl) ?_
  refine lv_if_ne (tgt := 137) hx hb d_SS_take_111 (by decide) (fun _ => ?_) (fun h => absurd h (by decide))
  refine lv_iload_n hx hb d_SS_take_137 rfl (lv_at hl 1 rfl) ?_
  refine lv_if_eq (tgt := 145) hx hb d_SS_take_138 (by decide) (fun h => absurd h (by decide)) (fun _ => ?_)
  refine lv_iconst (v := (-1)) hx hb d_SS_take_141 (by decide) ?_
  refine lv_iload_n hx hb d_SS_take_142 rfl (lv_at hl 1 rfl) ?_
  refine lv_isub hx hb d_SS_take_143 ?_
  refine lv_topi (fun z e9 => ?_)
  obtain rfl : z = (-2) := by rw [e9]; decide
  exact ax_iret hx hb hr hlocks hP hD hS () rfl [1] rfl (by decide) rfl (Nat.le_of_ble_eq_true rfl) (Nat.le_of_ble_eq_true rfl) d_SS_take_144
