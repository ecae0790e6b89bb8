/-- the fields of the reference within take -/
def mF2 (q : Nat → Nat) (th : Int32) (bx : Value) (sz a0 sc : Int32) : List Value := [.int th, .ref (q 1), .ref (q 2), .ref (q 3), .ref (q 4), .ref (q 5), .int sz, .int a0, .int 0, .ref (q 9), .ref (q 10), .ref (q 11), .ref (q 12), .int sc, bx, .ref (q 15), .int 0, .ref (q 17), .ref (q 18), .ref (q 19), .ref (q 20), .ref (q 21), .ref (q 22), .int 0, .int 0, .int 0, .int 0, .ref (q 27), .ref (q 28), .ref (q 29), .ref (q 30), .ref (q 31), .ref (q 32), .ref (q 33), .int 0, .ref (q 35), .ref (q 36), .ref (q 37), .ref (q 38), .ref (q 39), .ref (q 40), .ref (q 41), .ref (q 42), .ref (q 43), .ref (q 44), .ref (q 45), .ref (q 46), .ref (q 47), .ref (q 48), .ref (q 49), .ref (q 50), .ref (q 51), .ref (q 52), .ref (q 53), .ref (q 54), .ref (q 55), .ref (q 56), .ref (q 57), .ref (q 58), .ref (q 59), .ref (q 60), .ref (q 61), .int 0, .int 0, .ref (q 64), .int 0, .int 0, .int 0, .int 0, .int 0, .ref (q 70), .null, .ref (q 72), .ref (q 73), .int 0, .int 0, .ref (q 76), .ref (q 77), .ref (q 78), .int 0, .ref (q 80), .null, .int 0, .int 0, .int 0, .int 0, .int 0, .null, .null, .int 0, .ref (q 90), .ref (q 91), .int 0, .ref (q 93), .ref (q 94), .ref (q 95), .ref (q 96), .int 0, .int 0, .int 0, .int 0, .int 0, .int 0, .ref (q 103), .ref (q 104), .int 0, .ref (q 106), .null, .ref (q 108), .ref (q 109), .ref (q 110), .ref (q 111), .ref (q 112), .ref (q 113), .ref (q 114), .int 0, .ref (q 116), .ref (q 117), .ref (q 118), .ref (q 119), .ref (q 120), .ref (q 121), .ref (q 122), .ref (q 123), .ref (q 124), .ref (q 125), .ref (q 126), .ref (q 127), .ref (q 128), .ref (q 129), .int 0, .int 0]
theorem d_MH_of_0 : decode b_MH_of 0 = .ok (.aload_n 0, 1) := by decide +kernel
theorem d_MH_of_1 : decode b_MH_of 1 = .ok (.iload_n 1, 1) := by decide +kernel
theorem d_MH_of_2 : decode b_MH_of 2 = .ok (.putfield 7, 3) := by decide +kernel
theorem d_MH_of_5 : decode b_MH_of 5 = .ok (.aload_n 0, 1) := by decide +kernel
theorem d_MH_of_6 : decode b_MH_of 6 = .ok (.iload_n 2, 1) := by decide +kernel
theorem d_MH_of_7 : decode b_MH_of 7 = .ok (.putfield 13, 3) := by decide +kernel
theorem d_MH_of_10 : decode b_MH_of 10 = .ok (.aload_n 0, 1) := by decide +kernel
theorem d_MH_of_11 : decode b_MH_of 11 = .ok (.areturn, 1) := by decide +kernel
set_option maxHeartbeats 4000000 in
set_option maxRecDepth 100000 in
theorem c_MH_of (l : Launch) (dC : Nat → ClassId) (dI : Nat → Nat → Nat) (ca : Nat → ClassId) (h0 : Nat) (x0 x1 x2 x3 x4 x5 x6 x7 : Value) (a b : Int32) : CT l classes (dC, dI) (mK dC dI ca) wm y_MH_of b_MH_of 3 (some (.object "SourceBackModel$Halt")) 0 0 0 0 [.ref h0, .int a, .int b] [(h0, .inr (1, [x0, x1, x2, x3, x4, x5, x6, x7]))] (fun (v : Option Value) (_ : Unit) => v = some (.ref h0)) (fun (_ : Unit) => [(h0, .inr (1, [x0, x1, x2, x3, x4, .int a, .int b, x7]))]) := by
  refine ax_of (by decide) (Nat.le_of_ble_eq_true rfl) ?_
  intro p e s m below meth c A ls hAt hK hP hD hS hA hl
  obtain ⟨hx, hb, hr, hml, hown, hts, hlocks, hin⟩ := hAt
  have hl : lv_has ls 3 [(0, .ref h0), (1, .int a), (2, .int b)] := hl
  refine lv_aload_n hx hb d_MH_of_0 rfl (lv_at hl 0 rfl) ?_
  refine lv_iload_n hx hb d_MH_of_1 rfl (lv_at hl 1 rfl) ?_
  refine va_put (D := (dC, dI)) (ci := 1) (v := .int a) (ty := .int) (C := R_MH) (T := F_MH) (N := 8) hx hb hts i_MH t_MH t_MH_ok n_MH hown hK.1 hP hD hS 0 rfl rfl 5 (by decide) (hts _ xm_23) (fun _ h9 => h9) rfl (by decide +kernel) rfl rfl (Nat.le_of_ble_eq_true rfl) d_MH_of_2 (fun H locs hP hD hS => ?_)
  have hP : va_P (dC, dI) classes [(h0, .inr (1, [x0, x1, x2, x3, x4, .int a, x6, x7]))] H := hP
  have hD : va_D A [(h0, .inr (1, [x0, x1, x2, x3, x4, .int a, x6, x7]))] := hD
  refine lv_aload_n hx hb d_MH_of_5 rfl (lv_at hl 0 rfl) ?_
  refine lv_iload_n hx hb d_MH_of_6 rfl (lv_at hl 2 rfl) ?_
  refine va_put (D := (dC, dI)) (ci := 1) (v := .int b) (ty := .int) (C := R_MH) (T := F_MH) (N := 8) hx hb hts i_MH t_MH t_MH_ok n_MH hown hK.1 hP hD hS 0 rfl rfl 6 (by decide) (hts _ xm_24) (fun _ h9 => h9) rfl (by decide +kernel) rfl rfl (Nat.le_of_ble_eq_true rfl) d_MH_of_7 (fun H locs hP hD hS => ?_)
  have hP : va_P (dC, dI) classes [(h0, .inr (1, [x0, x1, x2, x3, x4, .int a, .int b, x7]))] H := hP
  have hD : va_D A [(h0, .inr (1, [x0, x1, x2, x3, x4, .int a, .int b, x7]))] := hD
  refine lv_aload_n hx hb d_MH_of_10 rfl (lv_at hl 0 rfl) ?_
  exact ax_aret hx hb hr (Or.inl ⟨_, rfl⟩) (Or.inr ⟨_, rfl⟩) hlocks hP hD hS () rfl [0] rfl (by decide) rfl (Nat.le_of_ble_eq_true rfl) (Nat.le_of_ble_eq_true rfl) d_MH_of_11
theorem d_MM_must_0 : decode b_MM_must 0 = .ok (.iload_n 1, 1) := by decide +kernel
theorem d_MM_must_1 : decode b_MM_must 1 = .ok (.ifCond .ne 13, 3) := by decide +kernel
theorem d_MM_must_14 : decode b_MM_must 14 = .ok (.return_, 1) := by decide +kernel
set_option maxHeartbeats 4000000 in
set_option maxRecDepth 100000 in
theorem c_MM_must (l : Launch) (dC : Nat → ClassId) (dI : Nat → Nat → Nat) (ca : Nat → ClassId) (h0 : Nat) (q : Nat → Nat) (th : Int32) (bx : Value) (sz a0 sc : Int32) (a b : Int32) : CT l classes (dC, dI) (mK dC dI ca) wm y_MM_must b_MM_must 4 none 0 0 0 0 [.ref h0, .int 1, .int a, .int b] [(h0, .inr (0, mF2 q th (bx) sz a0 sc))] (fun (v : Option Value) (_ : Unit) => v = none) (fun (_ : Unit) => [(h0, .inr (0, mF2 q th (bx) sz a0 sc))]) := by
  refine ax_of (by decide) (Nat.le_of_ble_eq_true rfl) ?_
  intro p e s m below meth c A ls hAt hK hP hD hS hA hl
  obtain ⟨hx, hb, hr, hml, hown, hts, hlocks, hin⟩ := hAt
  have hl : lv_has ls 4 [(0, .ref h0), (1, .int 1), (2, .int a), (3, .int b)] := hl
  refine lv_iload_n hx hb d_MM_must_0 rfl (lv_at hl 1 rfl) ?_
  refine lv_if_ne (tgt := 14) hx hb d_MM_must_1 (by decide) (fun _ => ?_) (fun h => absurd h (by decide))
  exact ax_vret hx hb hr hlocks hP hD hS () rfl [0] rfl (by decide) rfl (Nat.le_of_ble_eq_true rfl) (Nat.le_of_ble_eq_true rfl) d_MM_must_14
theorem d_MM_must_4 : decode b_MM_must 4 = .ok (.aload_n 0, 1) := by decide +kernel
theorem d_MM_must_5 : decode b_MM_must 5 = .ok (.getfield 10, 3) := by decide +kernel
theorem d_MM_must_8 : decode b_MM_must 8 = .ok (.iload_n 2, 1) := by decide +kernel
theorem d_MM_must_9 : decode b_MM_must 9 = .ok (.iload_n 3, 1) := by decide +kernel
theorem d_MM_must_10 : decode b_MM_must 10 = .ok (.invokevirtual 383, 3) := by decide +kernel
theorem d_MM_must_13 : decode b_MM_must 13 = .ok (.athrow, 1) := by decide +kernel
set_option maxHeartbeats 4000000 in
set_option maxRecDepth 100000 in
theorem c_MM_mustT (l : Launch) (dC : Nat → ClassId) (dI : Nat → Nat → Nat) (ca : Nat → ClassId) (h0 : Nat) (q : Nat → Nat) (th : Int32) (bx : Value) (sz a0 sc : Int32) (x0 x1 x2 x3 x4 x5 x6 x7 : Value) (a b : Int32) : CTT l classes (dC, dI) (mK dC dI ca) wm y_MM_must b_MM_must 4 none 1 22 0 0 [.ref h0, .int 0, .int a, .int b] [(h0, .inr (0, mF2 q th (bx) sz a0 sc)), ((q 1), .inr (1, [x0, x1, x2, x3, x4, x5, x6, x7]))] (fun (x : Addr) (_ : Unit) => x = q 1) (fun (_ : Unit) => [(h0, .inr (0, mF2 q th (bx) sz a0 sc)), ((q 1), .inr (1, [x0, x1, x2, x3, x4, .int a, .int b, x7]))]) := by
  refine ax_ofT (by decide) (Nat.le_of_ble_eq_true rfl) ?_
  intro p e s m below meth c A ls hAt hne hK hP hD hS hA hAi hl
  obtain ⟨hx, hb, hr, hml, hown, hts, hlocks, hin⟩ := hAt
  have hl : lv_has ls 4 [(0, .ref h0), (1, .int 0), (2, .int a), (3, .int b)] := hl
  refine lv_iload_n hx hb d_MM_must_0 rfl (lv_at hl 1 rfl) ?_
  refine lv_if_ne (tgt := 14) hx hb d_MM_must_1 (by decide) (fun h => absurd h (by decide)) (fun _ => ?_)
  refine lv_aload_n hx hb d_MM_must_4 rfl (lv_at hl 0 rfl) ?_
  refine va_get (D := (dC, dI)) (ci := 0) (v := .ref (q 1)) (C := R_MM) (T := F_MM) (N := 132) hx hb hts i_MM hown hK.1 hP 0 rfl rfl 1 (by decide) (hts _ xm_74) (fun _ h9 => h9) rfl d_MM_must_5 ?_
  refine lv_iload_n hx hb d_MM_must_8 rfl (lv_at hl 2 rfl) ?_
  refine lv_iload_n hx hb d_MM_must_9 rfl (lv_at hl 3 rfl) ?_
  refine ax_V (ci := 1) (q0 := 0) (k := 2) (As := [.int a, .int b]) (rest := []) (wr := [(h0, .inr (0, mF2 q th (bx) sz a0 sc))]) rfl hx hb hml hown hts g_wm (mK_bl dC dI ca) (c_MH_of l dC dI ca (q 1) x0 x1 x2 x3 x4 (x5) (x6) x7 a b) xm_241 xm_242 xm_1 xm_244 xm_243 (by decide +kernel) rfl (Nat.le_of_ble_eq_true rfl) (Nat.le_of_ble_eq_true rfl) hl.1 (Nat.le_of_ble_eq_true rfl) (mK_up hK) hK.1 hP hD hS hA rfl rfl [1] [0] rfl (by decide) rfl rfl (by decide) (by decide) (Nat.le_of_ble_eq_true rfl) (Nat.le_of_ble_eq_true rfl) d_MM_must_10 (fun v _ H locs hp hP hD hS => ?_)
  obtain rfl : v = some (.ref (q 1)) := hp
  have hP : va_P (dC, dI) classes [(h0, .inr (0, mF2 q th (bx) sz a0 sc)), ((q 1), .inr (1, [x0, x1, x2, x3, x4, .int a, .int b, x7]))] H := hP
  have hD : va_D A [(h0, .inr (0, mF2 q th (bx) sz a0 sc)), ((q 1), .inr (1, [x0, x1, x2, x3, x4, .int a, .int b, x7]))] := hD
  refine W.eq (g2 := F0 m 13 ls [.ref (q 1)]) rfl ?_
  exact ax_athrow hx hb hlocks hne hP hD hS () rfl [0, 1] rfl (by decide) rfl (Nat.le_of_ble_eq_true rfl) (Nat.le_of_ble_eq_true rfl) d_MM_must_13
theorem d_MM_gives_0 : decode b_MM_gives 0 = .ok (.aload_n 0, 1) := by decide +kernel
theorem d_MM_gives_1 : decode b_MM_gives 1 = .ok (.getfield 51, 3) := by decide +kernel
theorem d_MM_gives_4 : decode b_MM_gives 4 = .ok (.aload_n 0, 1) := by decide +kernel
theorem d_MM_gives_5 : decode b_MM_gives 5 = .ok (.getfield 403, 3) := by decide +kernel
theorem d_MM_gives_8 : decode b_MM_gives 8 = .ok (.aload_n 1, 1) := by decide +kernel
theorem d_MM_gives_9 : decode b_MM_gives 9 = .ok (.aastore, 1) := by decide +kernel
theorem d_MM_gives_10 : decode b_MM_gives 10 = .ok (.aload_n 0, 1) := by decide +kernel
theorem d_MM_gives_11 : decode b_MM_gives 11 = .ok (.dup, 1) := by decide +kernel
theorem d_MM_gives_12 : decode b_MM_gives 12 = .ok (.getfield 403, 3) := by decide +kernel
theorem d_MM_gives_15 : decode b_MM_gives 15 = .ok (.iconst 1, 1) := by decide +kernel
theorem d_MM_gives_16 : decode b_MM_gives 16 = .ok (.iadd, 1) := by decide +kernel
theorem d_MM_gives_17 : decode b_MM_gives 17 = .ok (.putfield 403, 3) := by decide +kernel
theorem d_MM_gives_20 : decode b_MM_gives 20 = .ok (.return_, 1) := by decide +kernel
set_option maxHeartbeats 4000000 in
set_option maxRecDepth 100000 in
theorem c_MM_gives (l : Launch) (dC : Nat → ClassId) (dI : Nat → Nat → Nat) (ca : Nat → ClassId) (h0 : Nat) (q : Nat → Nat) (th : Int32) (bx : Value) (sz a0 : Int32) (bb : Nat) (bf : List Value) : CT l classes (dC, dI) (mK dC dI ca) wm y_MM_gives b_MM_gives 2 none 0 0 0 0 [.ref h0, .ref bb] [(h0, .inr (0, mF2 q th (bx) sz a0 0)), ((q 12), .inl (ca 4, 148, .inr (.inr (.inr (.inr (fun _ => none)))))), (bb, .inr (6, bf))] (fun (v : Option Value) (_ : Unit) => v = none) (fun (_ : Unit) => [(h0, .inr (0, mF2 q th (bx) sz a0 1))]) := by
  refine ax_of (by decide) (Nat.le_of_ble_eq_true rfl) ?_
  intro p e s m below meth c A ls hAt hK hP hD hS hA hl
  obtain ⟨hx, hb, hr, hml, hown, hts, hlocks, hin⟩ := hAt
  have hl : lv_has ls 2 [(0, .ref h0), (1, .ref bb)] := hl
  refine lv_aload_n hx hb d_MM_gives_0 rfl (lv_at hl 0 rfl) ?_
  refine va_get (D := (dC, dI)) (ci := 0) (v := .ref (q 12)) (C := R_MM) (T := F_MM) (N := 132) hx hb hts i_MM hown hK.1 hP 0 rfl rfl 12 (by decide) (hts _ xm_85) (fun _ h9 => h9) rfl d_MM_gives_1 ?_
  refine lv_aload_n hx hb d_MM_gives_4 rfl (lv_at hl 0 rfl) ?_
  refine va_get (D := (dC, dI)) (ci := 0) (v := .int 0) (C := R_MM) (T := F_MM) (N := 132) hx hb hts i_MM hown hK.1 hP 0 rfl rfl 13 (by decide) (hts _ xm_86) (fun _ h9 => h9) rfl d_MM_gives_5 ?_
  refine lv_aload_n hx hb d_MM_gives_8 rfl (lv_at hl 1 rfl) ?_
  refine va_astq (r := (R_MX, F_MX, 15)) hx hb hK.1 hP hD hS 1 4 2 6 rfl rfl rfl rfl (by unfold vp_in; decide) d_MM_gives_9 (fun H locs hP hD hS => ?_)
  have hP : va_P (dC, dI) classes [(h0, .inr (0, mF2 q th (bx) sz a0 0)), ((q 12), .inl (ca 4, 148, .inr (.inr (.inr (.inr (va_up (fun _ => none) 0 (some bb))))))), (bb, .inr (6, bf))] H := hP
  have hD : va_D A [(h0, .inr (0, mF2 q th (bx) sz a0 0)), ((q 12), .inl (ca 4, 148, .inr (.inr (.inr (.inr (va_up (fun _ => none) 0 (some bb))))))), (bb, .inr (6, bf))] := hD
  refine lv_aload_n hx hb d_MM_gives_10 rfl (lv_at hl 0 rfl) ?_
  refine lv_dup hx hb d_MM_gives_11 rfl ?_
  refine va_get (D := (dC, dI)) (ci := 0) (v := .int 0) (C := R_MM) (T := F_MM) (N := 132) hx hb hts i_MM hown hK.1 hP 0 rfl rfl 13 (by decide) (hts _ xm_86) (fun _ h9 => h9) rfl d_MM_gives_12 ?_
  refine lv_iconst (v := 1) hx hb d_MM_gives_15 (by decide) ?_
  refine lv_iadd hx hb d_MM_gives_16 ?_
  refine lv_topi (fun z e9 => ?_)
  obtain rfl : z = 1 := by rw [e9]; decide
  refine va_put (D := (dC, dI)) (ci := 0) (v := .int 1) (ty := .int) (C := R_MM) (T := F_MM) (N := 132) hx hb hts i_MM t_MM t_MM_ok n_MM hown hK.1 hP hD hS 0 rfl rfl 13 (by decide) (hts _ xm_86) (fun _ h9 => h9) rfl (by decide +kernel) rfl rfl (Nat.le_of_ble_eq_true rfl) d_MM_gives_17 (fun H locs hP hD hS => ?_)
  have hP : va_P (dC, dI) classes [(h0, .inr (0, mF2 q th (bx) sz a0 1)), ((q 12), .inl (ca 4, 148, .inr (.inr (.inr (.inr (va_up (fun _ => none) 0 (some bb))))))), (bb, .inr (6, bf))] H := hP
  have hD : va_D A [(h0, .inr (0, mF2 q th (bx) sz a0 1)), ((q 12), .inl (ca 4, 148, .inr (.inr (.inr (.inr (va_up (fun _ => none) 0 (some bb))))))), (bb, .inr (6, bf))] := hD
  exact ax_vret hx hb hr hlocks hP hD hS () rfl [0] rfl (by decide) rfl (Nat.le_of_ble_eq_true rfl) (Nat.le_of_ble_eq_true rfl) d_MM_gives_20
theorem d_MM_newBox_0 : decode b_MM_newBox 0 = .ok (.aload_n 0, 1) := by decide +kernel
theorem d_MM_newBox_1 : decode b_MM_newBox 1 = .ok (.getfield 403, 3) := by decide +kernel
theorem d_MM_newBox_4 : decode b_MM_newBox 4 = .ok (.ifCond .le 35, 3) := by decide +kernel
theorem d_MM_newBox_39 : decode b_MM_newBox 39 = .ok (.new 38, 3) := by decide +kernel
theorem d_MM_newBox_42 : decode b_MM_newBox 42 = .ok (.dup, 1) := by decide +kernel
theorem d_MM_newBox_43 : decode b_MM_newBox 43 = .ok (.invokespecial 409, 3) := by decide +kernel
theorem d_MM_newBox_46 : decode b_MM_newBox 46 = .ok (.astore_n 1, 1) := by decide +kernel
theorem d_MM_newBox_47 : decode b_MM_newBox 47 = .ok (.aload_n 1, 1) := by decide +kernel
theorem d_MM_newBox_48 : decode b_MM_newBox 48 = .ok (.invokevirtual 406, 3) := by decide +kernel
theorem d_MM_newBox_51 : decode b_MM_newBox 51 = .ok (.aload_n 1, 1) := by decide +kernel
theorem d_MM_newBox_52 : decode b_MM_newBox 52 = .ok (.areturn, 1) := by decide +kernel
set_option maxHeartbeats 4000000 in
set_option maxRecDepth 100000 in
theorem c_MM_newBox (l : Launch) (dC : Nat → ClassId) (dI : Nat → Nat → Nat) (ca : Nat → ClassId) (h0 : Nat) (q : Nat → Nat) (th : Int32) : CT l classes (dC, dI) (mK dC dI ca) wm y_MM_newBox b_MM_newBox 2 (some (.object "SourceBackModel$Box")) 3 65 20 181 [.ref h0] [(h0, .inr (0, mF2 q th (.null) 0 0 0))] (fun (v : Option Value) (u : Nat × List Value) => v = some (.ref u.1)) (fun (u : Nat × List Value) => [(h0, .inr (0, mF2 q th (.null) 0 0 0)), (u.1, .inr (6, u.2))]) := by
  refine ax_of (by decide) (Nat.le_of_ble_eq_true rfl) ?_
  intro p e s m below meth c A ls hAt hK hP hD hS hA hl
  obtain ⟨hx, hb, hr, hml, hown, hts, hlocks, hin⟩ := hAt
  have hl : lv_has ls 2 [(0, .ref h0)] := hl
  refine lv_aload_n hx hb d_MM_newBox_0 rfl (lv_at hl 0 rfl) ?_
  refine va_get (D := (dC, dI)) (ci := 0) (v := .int 0) (C := R_MM) (T := F_MM) (N := 132) hx hb hts i_MM hown hK.1 hP 0 rfl rfl 13 (by decide) (hts _ xm_86) (fun _ h9 => h9) rfl d_MM_newBox_1 ?_
  refine lv_if_le (tgt := 39) hx hb d_MM_newBox_4 (by decide) (fun _ => ?_) (fun h => absurd (by decide) h)
  refine va_new (ci := 6) (fs := [.null, .int 0, .int 0, .null, .null, .null, .null, .null, .null, .null, .null, .null, .int 0, .int 0, .null]) (C := R_MX) (T := F_MX) (N := 15) hx hb hts i_MX t_MX t_MX_ok hown (hts _ xm_40) (hts _ xm_216) (hts _ xm_7) hK.1 hP hD hS hA rfl (by decide +kernel) (Nat.le_of_ble_eq_true rfl) (Nat.le_of_ble_eq_true rfl) d_MM_newBox_39 (fun q_1 H hP hD hS => ?_)
  have hP : va_P (dC, dI) classes [(h0, .inr (0, mF2 q th (.null) 0 0 0)), (q_1, .inr (6, [.null, .int 0, .int 0, .null, .null, .null, .null, .null, .null, .null, .null, .null, .int 0, .int 0, .null]))] H := hP
  have hD : va_D A [(h0, .inr (0, mF2 q th (.null) 0 0 0)), (q_1, .inr (6, [.null, .int 0, .int 0, .null, .null, .null, .null, .null, .null, .null, .null, .null, .int 0, .int 0, .null]))] := hD
  refine W.widen (k := 1) (n := 15) (Nat.le_of_ble_eq_true rfl) (Nat.le_of_ble_eq_true rfl) ?_
  refine lv_dup hx hb d_MM_newBox_42 rfl ?_
  refine ax_IN (k := 0) (As := []) (rest := [.ref q_1]) (wr := [(h0, .inr (0, mF2 q th (.null) 0 0 0))]) rfl hx hb hml hown hts g_wm (mK_bl dC dI ca) (c_MX_init l dC dI ca q_1) rfl (hK.2.1 _ zm_24) xm_217 xm_7 xm_218 (by decide +kernel) rfl (Nat.le_of_ble_eq_true rfl) (Nat.le_of_ble_eq_true rfl) hl.1 (Nat.le_of_ble_eq_true rfl) (mK_up hK) hP hD hS hA [1] [0] rfl (by decide) rfl rfl (by decide) (by decide) (Nat.le_of_ble_eq_true rfl) (Nat.le_of_ble_eq_true rfl) d_MM_newBox_43 (fun v u H locs hp hP hD hS => ?_)
  obtain ⟨q_2, q_3, q_4, q_5, q_6, q_7, q_8, q_9, q_10, q_11, q_12, q_13, q_14, q_15, q_16, q_17, q_18, q_19, q_20⟩ := u
  obtain rfl : v = none := hp
  have hP : va_P (dC, dI) classes [(h0, .inr (0, mF2 q th (.null) 0 0 0)), (q_1, .inr (6, [.ref q_2, .int 0, .int 0, .ref q_4, .ref q_6, .ref q_8, .ref q_10, .ref q_12, .ref q_14, .ref q_16, .ref q_18, .ref q_20, .int 0, .int 0, .null])), (q_2, .inr (2, [.ref q_3, .int 0])), (q_3, .inl (ca 0, 16, .inl (fun _ => 0))), (q_4, .inr (3, [.ref q_5, .int 0])), (q_5, .inl (ca 1, 4, .inl (fun _ => 0))), (q_6, .inr (3, [.ref q_7, .int 0])), (q_7, .inl (ca 1, 4, .inl (fun _ => 0))), (q_8, .inr (3, [.ref q_9, .int 0])), (q_9, .inl (ca 1, 4, .inl (fun _ => 0))), (q_10, .inr (3, [.ref q_11, .int 0])), (q_11, .inl (ca 1, 4, .inl (fun _ => 0))), (q_12, .inr (3, [.ref q_13, .int 0])), (q_13, .inl (ca 1, 4, .inl (fun _ => 0))), (q_14, .inr (4, [.ref q_15, .int 0])), (q_15, .inl (ca 2, 4, .inr (.inl (fun _ => 0)))), (q_16, .inr (3, [.ref q_17, .int 0])), (q_17, .inl (ca 1, 4, .inl (fun _ => 0))), (q_18, .inr (3, [.ref q_19, .int 0])), (q_19, .inl (ca 1, 4, .inl (fun _ => 0)))] H := hP
  have hD : va_D A [(h0, .inr (0, mF2 q th (.null) 0 0 0)), (q_1, .inr (6, [.ref q_2, .int 0, .int 0, .ref q_4, .ref q_6, .ref q_8, .ref q_10, .ref q_12, .ref q_14, .ref q_16, .ref q_18, .ref q_20, .int 0, .int 0, .null])), (q_2, .inr (2, [.ref q_3, .int 0])), (q_3, .inl (ca 0, 16, .inl (fun _ => 0))), (q_4, .inr (3, [.ref q_5, .int 0])), (q_5, .inl (ca 1, 4, .inl (fun _ => 0))), (q_6, .inr (3, [.ref q_7, .int 0])), (q_7, .inl (ca 1, 4, .inl (fun _ => 0))), (q_8, .inr (3, [.ref q_9, .int 0])), (q_9, .inl (ca 1, 4, .inl (fun _ => 0))), (q_10, .inr (3, [.ref q_11, .int 0])), (q_11, .inl (ca 1, 4, .inl (fun _ => 0))), (q_12, .inr (3, [.ref q_13, .int 0])), (q_13, .inl (ca 1, 4, .inl (fun _ => 0))), (q_14, .inr (4, [.ref q_15, .int 0])), (q_15, .inl (ca 2, 4, .inr (.inl (fun _ => 0)))), (q_16, .inr (3, [.ref q_17, .int 0])), (q_17, .inl (ca 1, 4, .inl (fun _ => 0))), (q_18, .inr (3, [.ref q_19, .int 0])), (q_19, .inl (ca 1, 4, .inl (fun _ => 0)))] := hD
  refine W.eq (g2 := F0 m 46 ls [.ref q_1]) rfl ?_
  refine W.widen (k := 20) (n := 181) (Nat.le_of_ble_eq_true rfl) (Nat.le_of_ble_eq_true rfl) ?_
  refine lv_astore_n (lv' := [(1, .ref q_1), (0, .ref h0)]) hx hb d_MM_newBox_46 rfl hl (by decide) rfl (fun ls hl => ?_)
  refine lv_aload_n hx hb d_MM_newBox_47 rfl (lv_at hl 0 rfl) ?_
  refine ax_V (ci := 6) (q0 := 0) (k := 0) (As := []) (rest := []) (wr := [(h0, .inr (0, mF2 q th (.null) 0 0 0))]) rfl hx hb hml hown hts g_wm (mK_bl dC dI ca) (c_MX_clear l dC dI ca q_1 q_2 q_3 q_4 q_5 q_6 q_7 q_8 q_9 q_10 q_11 q_12 q_13 q_14 q_15 q_16 q_17 q_18 q_19 q_20) xm_200 xm_201 xm_7 xm_203 xm_202 (by decide +kernel) rfl (Nat.le_of_ble_eq_true rfl) (Nat.le_of_ble_eq_true rfl) hl.1 (Nat.le_of_ble_eq_true rfl) (mK_up hK) hK.1 hP hD hS hA rfl rfl [1, 2, 3, 4, 5, 6, 7, 8, 9, 10, 11, 12, 13, 14, 15, 16, 17, 18, 19] [0] rfl (by decide) rfl rfl (by decide) (by decide) (Nat.le_of_ble_eq_true rfl) (Nat.le_of_ble_eq_true rfl) d_MM_newBox_48 (fun v _ H locs hp hP hD hS => ?_)
  obtain rfl : v = none := hp
  have hP : va_P (dC, dI) classes [(h0, .inr (0, mF2 q th (.null) 0 0 0)), (q_1, .inr (6, [.ref q_2, .int 0, .int 0, .ref q_4, .ref q_6, .ref q_8, .ref q_10, .ref q_12, .ref q_14, .ref q_16, .ref q_18, .ref q_20, .int 0, .int 0, .null]))] H := hP
  have hD : va_D A [(h0, .inr (0, mF2 q th (.null) 0 0 0)), (q_1, .inr (6, [.ref q_2, .int 0, .int 0, .ref q_4, .ref q_6, .ref q_8, .ref q_10, .ref q_12, .ref q_14, .ref q_16, .ref q_18, .ref q_20, .int 0, .int 0, .null]))] := hD
  refine W.eq (g2 := F0 m 51 ls []) rfl ?_
  refine lv_aload_n hx hb d_MM_newBox_51 rfl (lv_at hl 0 rfl) ?_
  exact ax_aret hx hb hr (Or.inl ⟨_, rfl⟩) (Or.inr ⟨_, rfl⟩) hlocks hP hD hS (q_1, [.ref q_2, .int 0, .int 0, .ref q_4, .ref q_6, .ref q_8, .ref q_10, .ref q_12, .ref q_14, .ref q_16, .ref q_18, .ref q_20, .int 0, .int 0, .null]) rfl [0, 1] rfl (by decide) rfl (Nat.le_of_ble_eq_true rfl) (Nat.le_of_ble_eq_true rfl) d_MM_newBox_52
