theorem vp_in2 {s : Int32} (h : 0 ≤ s.toInt64 ∧ s.toInt64 ≤ 1) : vp_in s 2 := by
  rw [vp_in_iff]
  have h1 := Int64.le_iff_toInt_le.mp h.1
  have h2 := Int64.le_iff_toInt_le.mp h.2
  rw [Int32.toInt_toInt64] at h1 h2
  have e1 : (0 : Int64).toInt = 0 := by decide
  have e2 : (1 : Int64).toInt = 1 := by decide
  constructor <;> omega
theorem d_MM_undo_0 : decode b_MM_undo 0 = .ok (.aload_n 0, 1) := by decide +kernel
theorem d_MM_undo_1 : decode b_MM_undo 1 = .ok (.iconst 0, 1) := by decide +kernel
theorem d_MM_undo_2 : decode b_MM_undo 2 = .ok (.putfield 343, 3) := by decide +kernel
theorem d_MM_undo_5 : decode b_MM_undo 5 = .ok (.iload_n 1, 1) := by decide +kernel
theorem d_MM_undo_6 : decode b_MM_undo 6 = .ok (.i2l, 1) := by decide +kernel
theorem d_MM_undo_7 : decode b_MM_undo 7 = .ok (.lconst 0, 1) := by decide +kernel
theorem d_MM_undo_8 : decode b_MM_undo 8 = .ok (.aload_n 0, 1) := by decide +kernel
theorem d_MM_undo_9 : decode b_MM_undo 9 = .ok (.getfield 410, 3) := by decide +kernel
theorem d_MM_undo_12 : decode b_MM_undo 12 = .ok (.iconst 1, 1) := by decide +kernel
theorem d_MM_undo_13 : decode b_MM_undo 13 = .ok (.isub, 1) := by decide +kernel
theorem d_MM_undo_14 : decode b_MM_undo 14 = .ok (.i2l, 1) := by decide +kernel
theorem d_MM_undo_15 : decode b_MM_undo 15 = .ok (.invokestatic 349, 3) := by decide +kernel
theorem d_MM_undo_18 : decode b_MM_undo 18 = .ok (.ifCond .eq 12, 3) := by decide +kernel
theorem d_MM_undo_30 : decode b_MM_undo 30 = .ok (.iconst 0, 1) := by decide +kernel
theorem d_MM_undo_31 : decode b_MM_undo 31 = .ok (.ireturn, 1) := by decide +kernel
set_option maxHeartbeats 4000000 in
set_option maxRecDepth 100000 in
theorem c_MM_undo (l : Launch) (dC : Nat → ClassId) (dI : Nat → Nat → Nat) (ca : Nat → ClassId) (h0 : Nat) (q : Nat → Nat) (th : Int32) (f : Int32) : CT l classes (dC, dI) (mK dC dI ca) wm y_MM_undo b_MM_undo 2 (some (.boolean)) 1 25 0 0 [.ref h0, .int f] [(h0, .inr (0, mF q th))] (fun (v : Option Value) (_ : Unit) => v = some (.int 0)) (fun (_ : Unit) => [(h0, .inr (0, mF q 0))]) := by
  refine ax_of (by decide) (Nat.le_of_ble_eq_true rfl) ?_
  intro p e s m below meth c A ls hAt hK hP hD hS hA hl
  obtain ⟨hx, hb, hr, hml, hown, hts, hlocks, hin⟩ := hAt
  have hl : lv_has ls 2 [(0, .ref h0), (1, .int f)] := hl
  refine lv_aload_n hx hb d_MM_undo_0 rfl (lv_at hl 0 rfl) ?_
  refine lv_iconst (v := 0) hx hb d_MM_undo_1 (by decide) ?_
  refine va_put (D := (dC, dI)) (ci := 0) (v := .int 0) (ty := .int) (C := R_MM) (T := F_MM) (N := 132) hx hb hts i_MM t_MM t_MM_ok n_MM hown hK.1 hP hD hS 0 rfl rfl 0 (by decide) (hts _ xm_73) (fun _ h9 => h9) rfl (by decide +kernel) rfl rfl (Nat.le_of_ble_eq_true rfl) d_MM_undo_2 (fun H locs hP hD hS => ?_)
  have hP : va_P (dC, dI) classes [(h0, .inr (0, mF q 0))] H := hP
  have hD : va_D A [(h0, .inr (0, mF q 0))] := hD
  refine lv_iload_n hx hb d_MM_undo_5 rfl (lv_at hl 1 rfl) ?_
  refine lv_i2l hx hb d_MM_undo_6 rfl ?_
  refine lv_lconst (v := 0) hx hb d_MM_undo_7 (by decide) ?_
  refine lv_aload_n hx hb d_MM_undo_8 rfl (lv_at hl 0 rfl) ?_
  refine va_get (D := (dC, dI)) (ci := 0) (v := .int 0) (C := R_MM) (T := F_MM) (N := 132) hx hb hts i_MM hown hK.1 hP 0 rfl rfl 8 (by decide) (hts _ xm_81) (fun _ h9 => h9) rfl d_MM_undo_9 ?_
  refine lv_iconst (v := 1) hx hb d_MM_undo_12 (by decide) ?_
  refine lv_isub hx hb d_MM_undo_13 ?_
  refine lv_topi (fun z e9 => ?_)
  obtain rfl : z = (-1) := by rw [e9]; decide
  refine lv_i2l (v := (-1)) hx hb d_MM_undo_14 (by decide) ?_
  refine ax_St (k := 3) (As := [.long (f.toInt64), .long 0, .long (-1)]) (rest := []) (wr := [(h0, .inr (0, mF q 0))]) rfl hx hb hml hown hts g_wm (mK_bl dC dI ca) (c_MM_in l dC dI ca f.toInt64 0 (-1)) xm_182 xm_183 xm_0 xm_184 (by decide +kernel) rfl (Nat.le_of_ble_eq_true rfl) (Nat.le_of_ble_eq_true rfl) hl.1 (Nat.le_of_ble_eq_true rfl) (mK_up hK) hP hD hS hA [] [0] rfl (by decide) rfl rfl (by decide) (by decide) (Nat.le_of_ble_eq_true rfl) (Nat.le_of_ble_eq_true rfl) d_MM_undo_15 (fun v _ H locs hp hP hD hS => ?_)
  obtain rfl : v = some (.int 0) := hp.elim (fun h => absurd h.2 in_no) (fun h => h.1)
  have hP : va_P (dC, dI) classes [(h0, .inr (0, mF q 0))] H := hP
  have hD : va_D A [(h0, .inr (0, mF q 0))] := hD
  refine W.eq (g2 := F0 m 18 ls [.int 0]) rfl ?_
  refine lv_if_eq (tgt := 30) hx hb d_MM_undo_18 (by decide) (fun _ => ?_) (fun h => absurd (by decide) h)
  refine lv_iconst (v := 0) hx hb d_MM_undo_30 (by decide) ?_
  exact ax_zret hx hb hr (by decide) hlocks hP hD hS () rfl [0] rfl (by decide) rfl (Nat.le_of_ble_eq_true rfl) (Nat.le_of_ble_eq_true rfl) d_MM_undo_31
theorem d_MM_call_0 : decode b_MM_call 0 = .ok (.aload_n 0, 1) := by decide +kernel
theorem d_MM_call_1 : decode b_MM_call 1 = .ok (.iconst 0, 1) := by decide +kernel
theorem d_MM_call_2 : decode b_MM_call 2 = .ok (.putfield 343, 3) := by decide +kernel
theorem d_MM_call_5 : decode b_MM_call 5 = .ok (.iload_n 1, 1) := by decide +kernel
theorem d_MM_call_6 : decode b_MM_call 6 = .ok (.i2l, 1) := by decide +kernel
theorem d_MM_call_7 : decode b_MM_call 7 = .ok (.lconst 0, 1) := by decide +kernel
theorem d_MM_call_8 : decode b_MM_call 8 = .ok (.lconst 1, 1) := by decide +kernel
theorem d_MM_call_9 : decode b_MM_call 9 = .ok (.invokestatic 349, 3) := by decide +kernel
theorem d_MM_call_12 : decode b_MM_call 12 = .ok (.ifCond .eq 22, 3) := by decide +kernel
theorem d_MM_call_15 : decode b_MM_call 15 = .ok (.aload_n 0, 1) := by decide +kernel
theorem d_MM_call_16 : decode b_MM_call 16 = .ok (.iload_n 2, 1) := by decide +kernel
theorem d_MM_call_17 : decode b_MM_call 17 = .ok (.iload_n 3, 1) := by decide +kernel
theorem d_MM_call_18 : decode b_MM_call 18 = .ok (.invokevirtual 1468, 3) := by decide +kernel
theorem d_MM_call_21 : decode b_MM_call 21 = .ok (.ifCond .eq 13, 3) := by decide +kernel
theorem d_MM_call_34 : decode b_MM_call 34 = .ok (.iconst 0, 1) := by decide +kernel
theorem d_MM_call_35 : decode b_MM_call 35 = .ok (.ireturn, 1) := by decide +kernel
set_option maxHeartbeats 4000000 in
set_option maxRecDepth 100000 in
theorem c_MM_call (l : Launch) (dC : Nat → ClassId) (dI : Nat → Nat → Nat) (ca : Nat → ClassId) (h0 : Nat) (q : Nat → Nat) (th : Int32) (s0 : Int32) (f : Int32) (g : Int32) (a : Int64) (b : Int64) : CT l classes (dC, dI) (mK dC dI ca) wm y_MM_call b_MM_call 13 (some (.boolean)) 2 47 0 0 [.ref h0, .int s0, .int f, .int g, .long a, .long b] [(h0, .inr (0, mF q th))] (fun (v : Option Value) (_ : Unit) => v = some (.int 0)) (fun (_ : Unit) => [(h0, .inr (0, mF q 0))]) := by
  refine ax_of (by decide) (Nat.le_of_ble_eq_true rfl) ?_
  intro p e s m below meth c A ls hAt hK hP hD hS hA hl
  obtain ⟨hx, hb, hr, hml, hown, hts, hlocks, hin⟩ := hAt
  have hl : lv_has ls 13 [(0, .ref h0), (1, .int s0), (2, .int f), (3, .int g), (4, .long a), (6, .long b)] := hl
  refine lv_aload_n hx hb d_MM_call_0 rfl (lv_at hl 0 rfl) ?_
  refine lv_iconst (v := 0) hx hb d_MM_call_1 (by decide) ?_
  refine va_put (D := (dC, dI)) (ci := 0) (v := .int 0) (ty := .int) (C := R_MM) (T := F_MM) (N := 132) hx hb hts i_MM t_MM t_MM_ok n_MM hown hK.1 hP hD hS 0 rfl rfl 0 (by decide) (hts _ xm_73) (fun _ h9 => h9) rfl (by decide +kernel) rfl rfl (Nat.le_of_ble_eq_true rfl) d_MM_call_2 (fun H locs hP hD hS => ?_)
  have hP : va_P (dC, dI) classes [(h0, .inr (0, mF q 0))] H := hP
  have hD : va_D A [(h0, .inr (0, mF q 0))] := hD
  refine lv_iload_n hx hb d_MM_call_5 rfl (lv_at hl 1 rfl) ?_
  refine lv_i2l hx hb d_MM_call_6 rfl ?_
  refine lv_lconst (v := 0) hx hb d_MM_call_7 (by decide) ?_
  refine lv_lconst (v := 1) hx hb d_MM_call_8 (by decide) ?_
  refine ax_St (k := 3) (As := [.long (s0.toInt64), .long 0, .long 1]) (rest := []) (wr := [(h0, .inr (0, mF q 0))]) rfl hx hb hml hown hts g_wm (mK_bl dC dI ca) (c_MM_in l dC dI ca s0.toInt64 0 1) xm_182 xm_183 xm_0 xm_184 (by decide +kernel) rfl (Nat.le_of_ble_eq_true rfl) (Nat.le_of_ble_eq_true rfl) hl.1 (Nat.le_of_ble_eq_true rfl) (mK_up hK) hP hD hS hA [] [0] rfl (by decide) rfl rfl (by decide) (by decide) (Nat.le_of_ble_eq_true rfl) (Nat.le_of_ble_eq_true rfl) d_MM_call_9 (fun v _ H locs hp hP hD hS => ?_)
  rcases hp with ⟨rfl, hc_1⟩ | ⟨rfl, hc_1⟩
  · have h9 := True.intro
    have hP : va_P (dC, dI) classes [(h0, .inr (0, mF q 0))] H := hP
    have hD : va_D A [(h0, .inr (0, mF q 0))] := hD
    refine W.eq (g2 := F0 m 12 ls [.int 1]) rfl ?_
    refine lv_if_eq (tgt := 34) hx hb d_MM_call_12 (by decide) (fun h => absurd h (by decide)) (fun _ => ?_)
    refine lv_aload_n hx hb d_MM_call_15 rfl (lv_at hl 0 rfl) ?_
    refine lv_iload_n hx hb d_MM_call_16 rfl (lv_at hl 2 rfl) ?_
    refine lv_iload_n hx hb d_MM_call_17 rfl (lv_at hl 3 rfl) ?_
    refine ax_V (ci := 0) (q0 := 0) (k := 2) (As := [.int f, .int g]) (rest := []) (wr := []) rfl hx hb hml hown hts g_wm (mK_bl dC dI ca) (c_MM_isMember l dC dI ca h0 q 0 f g) xm_279 xm_280 xm_0 xm_281 xm_339 (by decide +kernel) rfl (Nat.le_of_ble_eq_true rfl) (Nat.le_of_ble_eq_true rfl) hl.1 (Nat.le_of_ble_eq_true rfl) (mK_up hK) hK.1 hP hD hS hA rfl rfl [0] [] rfl (by decide) rfl rfl (by decide) (by decide) (Nat.le_of_ble_eq_true rfl) (Nat.le_of_ble_eq_true rfl) d_MM_call_18 (fun v _ H locs hp hP hD hS => ?_)
    obtain rfl : v = some (.int 0) := hp
    have hP : va_P (dC, dI) classes [(h0, .inr (0, mF q 0))] H := hP
    have hD : va_D A [(h0, .inr (0, mF q 0))] := hD
    refine W.eq (g2 := F0 m 21 ls [.int 0]) rfl ?_
    refine lv_if_eq (tgt := 34) hx hb d_MM_call_21 (by decide) (fun _ => ?_) (fun h => absurd (by decide) h)
    refine lv_iconst (v := 0) hx hb d_MM_call_34 (by decide) ?_
    exact ax_zret hx hb hr (by decide) hlocks hP hD hS () rfl [0] rfl (by decide) rfl (Nat.le_of_ble_eq_true rfl) (Nat.le_of_ble_eq_true rfl) d_MM_call_35
  · have h9 := True.intro
    have hP : va_P (dC, dI) classes [(h0, .inr (0, mF q 0))] H := hP
    have hD : va_D A [(h0, .inr (0, mF q 0))] := hD
    refine W.eq (g2 := F0 m 12 ls [.int 0]) rfl ?_
    refine lv_if_eq (tgt := 34) hx hb d_MM_call_12 (by decide) (fun _ => ?_) (fun h => absurd (by decide) h)
    refine lv_iconst (v := 0) hx hb d_MM_call_34 (by decide) ?_
    exact ax_zret hx hb hr (by decide) hlocks hP hD hS () rfl [0] rfl (by decide) rfl (Nat.le_of_ble_eq_true rfl) (Nat.le_of_ble_eq_true rfl) d_MM_call_35
theorem d_MM_thrown_0 : decode b_MM_thrown 0 = .ok (.aload_n 0, 1) := by decide +kernel
theorem d_MM_thrown_1 : decode b_MM_thrown 1 = .ok (.getfield 343, 3) := by decide +kernel
theorem d_MM_thrown_4 : decode b_MM_thrown 4 = .ok (.ireturn, 1) := by decide +kernel
set_option maxHeartbeats 4000000 in
set_option maxRecDepth 100000 in
theorem c_MM_thrown (l : Launch) (dC : Nat → ClassId) (dI : Nat → Nat → Nat) (ca : Nat → ClassId) (h0 : Nat) (q : Nat → Nat) (th : Int32) : CT l classes (dC, dI) (mK dC dI ca) wm y_MM_thrown b_MM_thrown 1 (some (.int)) 0 0 0 0 [.ref h0] [(h0, .inr (0, mF q th))] (fun (v : Option Value) (_ : Unit) => v = some (.int th)) (fun (_ : Unit) => [(h0, .inr (0, mF q th))]) := by
  refine ax_of (by decide) (Nat.le_of_ble_eq_true rfl) ?_
  intro p e s m below meth c A ls hAt hK hP hD hS hA hl
  obtain ⟨hx, hb, hr, hml, hown, hts, hlocks, hin⟩ := hAt
  have hl : lv_has ls 1 [(0, .ref h0)] := hl
  refine lv_aload_n hx hb d_MM_thrown_0 rfl (lv_at hl 0 rfl) ?_
  refine va_get (D := (dC, dI)) (ci := 0) (v := .int th) (C := R_MM) (T := F_MM) (N := 132) hx hb hts i_MM hown hK.1 hP 0 rfl rfl 0 (by decide) (hts _ xm_73) (fun _ h9 => h9) rfl d_MM_thrown_1 ?_
  exact ax_iret hx hb hr hlocks hP hD hS () rfl [0] rfl (by decide) rfl (Nat.le_of_ble_eq_true rfl) (Nat.le_of_ble_eq_true rfl) d_MM_thrown_4
theorem d_MM_entry_0 : decode b_MM_entry 0 = .ok (.aload_n 0, 1) := by decide +kernel
theorem d_MM_entry_1 : decode b_MM_entry 1 = .ok (.iload_n 1, 1) := by decide +kernel
theorem d_MM_entry_2 : decode b_MM_entry 2 = .ok (.i2l, 1) := by decide +kernel
theorem d_MM_entry_3 : decode b_MM_entry 3 = .ok (.lconst 0, 1) := by decide +kernel
theorem d_MM_entry_4 : decode b_MM_entry 4 = .ok (.aload_n 0, 1) := by decide +kernel
theorem d_MM_entry_5 : decode b_MM_entry 5 = .ok (.getfield 410, 3) := by decide +kernel
theorem d_MM_entry_8 : decode b_MM_entry 8 = .ok (.iconst 1, 1) := by decide +kernel
theorem d_MM_entry_9 : decode b_MM_entry 9 = .ok (.isub, 1) := by decide +kernel
theorem d_MM_entry_10 : decode b_MM_entry 10 = .ok (.i2l, 1) := by decide +kernel
theorem d_MM_entry_11 : decode b_MM_entry 11 = .ok (.invokestatic 349, 3) := by decide +kernel
theorem d_MM_entry_14 : decode b_MM_entry 14 = .ok (.ifCond .eq 50, 3) := by decide +kernel
theorem d_MM_entry_64 : decode b_MM_entry 64 = .ok (.iconst 1, 1) := by decide +kernel
theorem d_MM_entry_65 : decode b_MM_entry 65 = .ok (.putfield 343, 3) := by decide +kernel
theorem d_MM_entry_68 : decode b_MM_entry 68 = .ok (.aload_n 0, 1) := by decide +kernel
theorem d_MM_entry_69 : decode b_MM_entry 69 = .ok (.getfield 343, 3) := by decide +kernel
theorem d_MM_entry_72 : decode b_MM_entry 72 = .ok (.ifCond .le 5, 3) := by decide +kernel
theorem d_MM_entry_75 : decode b_MM_entry 75 = .ok (.lconst 0, 1) := by decide +kernel
theorem d_MM_entry_76 : decode b_MM_entry 76 = .ok (.lreturn, 1) := by decide +kernel
set_option maxHeartbeats 4000000 in
set_option maxRecDepth 100000 in
theorem c_MM_entry (l : Launch) (dC : Nat → ClassId) (dI : Nat → Nat → Nat) (ca : Nat → ClassId) (h0 : Nat) (q : Nat → Nat) (th : Int32) (f : Int32) (g : Int32) (i : Int32) : CT l classes (dC, dI) (mK dC dI ca) wm y_MM_entry b_MM_entry 8 (some (.long)) 1 25 0 0 [.ref h0, .int f, .int g, .int i] [(h0, .inr (0, mF q th))] (fun (v : Option Value) (_ : Unit) => v = some (.long 0)) (fun (_ : Unit) => [(h0, .inr (0, mF q 1))]) := by
  refine ax_of (by decide) (Nat.le_of_ble_eq_true rfl) ?_
  intro p e s m below meth c A ls hAt hK hP hD hS hA hl
  obtain ⟨hx, hb, hr, hml, hown, hts, hlocks, hin⟩ := hAt
  have hl : lv_has ls 8 [(0, .ref h0), (1, .int f), (2, .int g), (3, .int i)] := hl
  refine lv_aload_n hx hb d_MM_entry_0 rfl (lv_at hl 0 rfl) ?_
  refine lv_iload_n hx hb d_MM_entry_1 rfl (lv_at hl 1 rfl) ?_
  refine lv_i2l hx hb d_MM_entry_2 rfl ?_
  refine lv_lconst (v := 0) hx hb d_MM_entry_3 (by decide) ?_
  refine lv_aload_n hx hb d_MM_entry_4 rfl (lv_at hl 0 rfl) ?_
  refine va_get (D := (dC, dI)) (ci := 0) (v := .int 0) (C := R_MM) (T := F_MM) (N := 132) hx hb hts i_MM hown hK.1 hP 0 rfl rfl 8 (by decide) (hts _ xm_81) (fun _ h9 => h9) rfl d_MM_entry_5 ?_
  refine lv_iconst (v := 1) hx hb d_MM_entry_8 (by decide) ?_
  refine lv_isub hx hb d_MM_entry_9 ?_
  refine lv_topi (fun z e9 => ?_)
  obtain rfl : z = (-1) := by rw [e9]; decide
  refine lv_i2l (v := (-1)) hx hb d_MM_entry_10 (by decide) ?_
  refine ax_St (k := 3) (As := [.long (f.toInt64), .long 0, .long (-1)]) (rest := [.ref h0]) (wr := [(h0, .inr (0, mF q th))]) rfl hx hb hml hown hts g_wm (mK_bl dC dI ca) (c_MM_in l dC dI ca f.toInt64 0 (-1)) xm_182 xm_183 xm_0 xm_184 (by decide +kernel) rfl (Nat.le_of_ble_eq_true rfl) (Nat.le_of_ble_eq_true rfl) hl.1 (Nat.le_of_ble_eq_true rfl) (mK_up hK) hP hD hS hA [] [0] rfl (by decide) rfl rfl (by decide) (by decide) (Nat.le_of_ble_eq_true rfl) (Nat.le_of_ble_eq_true rfl) d_MM_entry_11 (fun v _ H locs hp hP hD hS => ?_)
  obtain rfl : v = some (.int 0) := hp.elim (fun h => absurd h.2 in_no) (fun h => h.1)
  have hP : va_P (dC, dI) classes [(h0, .inr (0, mF q th))] H := hP
  have hD : va_D A [(h0, .inr (0, mF q th))] := hD
  refine W.eq (g2 := F0 m 14 ls [.int 0, .ref h0]) rfl ?_
  refine lv_if_eq (tgt := 64) hx hb d_MM_entry_14 (by decide) (fun _ => ?_) (fun h => absurd (by decide) h)
  refine lv_iconst (v := 1) hx hb d_MM_entry_64 (by decide) ?_
  refine va_put (D := (dC, dI)) (ci := 0) (v := .int 1) (ty := .int) (C := R_MM) (T := F_MM) (N := 132) hx hb hts i_MM t_MM t_MM_ok n_MM hown hK.1 hP hD hS 0 rfl rfl 0 (by decide) (hts _ xm_73) (fun _ h9 => h9) rfl (by decide +kernel) rfl rfl (Nat.le_of_ble_eq_true rfl) d_MM_entry_65 (fun H locs hP hD hS => ?_)
  have hP : va_P (dC, dI) classes [(h0, .inr (0, mF q 1))] H := hP
  have hD : va_D A [(h0, .inr (0, mF q 1))] := hD
  refine lv_aload_n hx hb d_MM_entry_68 rfl (lv_at hl 0 rfl) ?_
  refine va_get (D := (dC, dI)) (ci := 0) (v := .int 1) (C := R_MM) (T := F_MM) (N := 132) hx hb hts i_MM hown hK.1 hP 0 rfl rfl 0 (by decide) (hts _ xm_73) (fun _ h9 => h9) rfl d_MM_entry_69 ?_
  refine lv_if_le (tgt := 77) hx hb d_MM_entry_72 (by decide) (fun h => absurd h (by decide)) (fun _ => ?_)
  refine lv_lconst (v := 0) hx hb d_MM_entry_75 (by decide) ?_
  exact ax_lret hx hb hr hlocks hP hD hS () rfl [0] rfl (by decide) rfl (Nat.le_of_ble_eq_true rfl) (Nat.le_of_ble_eq_true rfl) d_MM_entry_76
theorem d_MM_field_0 : decode b_MM_field 0 = .ok (.iload_n 1, 1) := by decide +kernel
theorem d_MM_field_1 : decode b_MM_field 1 = .ok (.i2l, 1) := by decide +kernel
theorem d_MM_field_2 : decode b_MM_field 2 = .ok (.lconst 0, 1) := by decide +kernel
theorem d_MM_field_3 : decode b_MM_field 3 = .ok (.lconst 1, 1) := by decide +kernel
theorem d_MM_field_4 : decode b_MM_field 4 = .ok (.invokestatic 349, 3) := by decide +kernel
theorem d_MM_field_7 : decode b_MM_field 7 = .ok (.ifCond .eq 67, 3) := by decide +kernel
theorem d_MM_field_10 : decode b_MM_field 10 = .ok (.iload_n 2, 1) := by decide +kernel
theorem d_MM_field_11 : decode b_MM_field 11 = .ok (.i2l, 1) := by decide +kernel
theorem d_MM_field_12 : decode b_MM_field 12 = .ok (.lconst 0, 1) := by decide +kernel
theorem d_MM_field_13 : decode b_MM_field 13 = .ok (.aload_n 0, 1) := by decide +kernel
theorem d_MM_field_14 : decode b_MM_field 14 = .ok (.getfield 410, 3) := by decide +kernel
theorem d_MM_field_17 : decode b_MM_field 17 = .ok (.iconst 1, 1) := by decide +kernel
theorem d_MM_field_18 : decode b_MM_field 18 = .ok (.isub, 1) := by decide +kernel
theorem d_MM_field_19 : decode b_MM_field 19 = .ok (.i2l, 1) := by decide +kernel
theorem d_MM_field_20 : decode b_MM_field 20 = .ok (.invokestatic 349, 3) := by decide +kernel
theorem d_MM_field_23 : decode b_MM_field 23 = .ok (.ifCond .eq 51, 3) := by decide +kernel
theorem d_MM_field_74 : decode b_MM_field 74 = .ok (.iconst 0, 1) := by decide +kernel
theorem d_MM_field_75 : decode b_MM_field 75 = .ok (.istore 4, 2) := by decide +kernel
theorem d_MM_field_77 : decode b_MM_field 77 = .ok (.aload_n 0, 1) := by decide +kernel
theorem d_MM_field_78 : decode b_MM_field 78 = .ok (.iload 4, 2) := by decide +kernel
theorem d_MM_field_80 : decode b_MM_field 80 = .ok (.ifCond .eq 7, 3) := by decide +kernel
theorem d_MM_field_87 : decode b_MM_field 87 = .ok (.iconst 1, 1) := by decide +kernel
theorem d_MM_field_88 : decode b_MM_field 88 = .ok (.putfield 343, 3) := by decide +kernel
theorem d_MM_field_91 : decode b_MM_field 91 = .ok (.iload 4, 2) := by decide +kernel
theorem d_MM_field_93 : decode b_MM_field 93 = .ok (.ifCond .eq 23, 3) := by decide +kernel
theorem d_MM_field_116 : decode b_MM_field 116 = .ok (.lconst 0, 1) := by decide +kernel
theorem d_MM_field_117 : decode b_MM_field 117 = .ok (.lreturn, 1) := by decide +kernel
set_option maxHeartbeats 4000000 in
set_option maxRecDepth 100000 in
theorem c_MM_field (l : Launch) (dC : Nat → ClassId) (dI : Nat → Nat → Nat) (ca : Nat → ClassId) (h0 : Nat) (q : Nat → Nat) (th : Int32) (s0 : Int32) (f : Int32) (i : Int32) : CT l classes (dC, dI) (mK dC dI ca) wm y_MM_field b_MM_field 5 (some (.long)) 1 25 0 0 [.ref h0, .int s0, .int f, .int i] [(h0, .inr (0, mF q th))] (fun (v : Option Value) (_ : Unit) => v = some (.long 0)) (fun (_ : Unit) => [(h0, .inr (0, mF q 1))]) := by
  refine ax_of (by decide) (Nat.le_of_ble_eq_true rfl) ?_
  intro p e s m below meth c A ls hAt hK hP hD hS hA hl
  obtain ⟨hx, hb, hr, hml, hown, hts, hlocks, hin⟩ := hAt
  have hl : lv_has ls 5 [(0, .ref h0), (1, .int s0), (2, .int f), (3, .int i)] := hl
  refine lv_iload_n hx hb d_MM_field_0 rfl (lv_at hl 1 rfl) ?_
  refine lv_i2l hx hb d_MM_field_1 rfl ?_
  refine lv_lconst (v := 0) hx hb d_MM_field_2 (by decide) ?_
  refine lv_lconst (v := 1) hx hb d_MM_field_3 (by decide) ?_
  refine ax_St (k := 3) (As := [.long (s0.toInt64), .long 0, .long 1]) (rest := []) (wr := [(h0, .inr (0, mF q th))]) rfl hx hb hml hown hts g_wm (mK_bl dC dI ca) (c_MM_in l dC dI ca s0.toInt64 0 1) xm_182 xm_183 xm_0 xm_184 (by decide +kernel) rfl (Nat.le_of_ble_eq_true rfl) (Nat.le_of_ble_eq_true rfl) hl.1 (Nat.le_of_ble_eq_true rfl) (mK_up hK) hP hD hS hA [] [0] rfl (by decide) rfl rfl (by decide) (by decide) (Nat.le_of_ble_eq_true rfl) (Nat.le_of_ble_eq_true rfl) d_MM_field_4 (fun v _ H locs hp hP hD hS => ?_)
  rcases hp with ⟨rfl, hc_1⟩ | ⟨rfl, hc_1⟩
  · have h9 := True.intro
    have hP : va_P (dC, dI) classes [(h0, .inr (0, mF q th))] H := hP
    have hD : va_D A [(h0, .inr (0, mF q th))] := hD
    refine W.eq (g2 := F0 m 7 ls [.int 1]) rfl ?_
    refine lv_if_eq (tgt := 74) hx hb d_MM_field_7 (by decide) (fun h => absurd h (by decide)) (fun _ => ?_)
    refine lv_iload_n hx hb d_MM_field_10 rfl (lv_at hl 2 rfl) ?_
    refine lv_i2l hx hb d_MM_field_11 rfl ?_
    refine lv_lconst (v := 0) hx hb d_MM_field_12 (by decide) ?_
    refine lv_aload_n hx hb d_MM_field_13 rfl (lv_at hl 0 rfl) ?_
    refine va_get (D := (dC, dI)) (ci := 0) (v := .int 0) (C := R_MM) (T := F_MM) (N := 132) hx hb hts i_MM hown hK.1 hP 0 rfl rfl 8 (by decide) (hts _ xm_81) (fun _ h9 => h9) rfl d_MM_field_14 ?_
    refine lv_iconst (v := 1) hx hb d_MM_field_17 (by decide) ?_
    refine lv_isub hx hb d_MM_field_18 ?_
    refine lv_topi (fun z e9 => ?_)
    obtain rfl : z = (-1) := by rw [e9]; decide
    refine lv_i2l (v := (-1)) hx hb d_MM_field_19 (by decide) ?_
    refine ax_St (k := 3) (As := [.long (f.toInt64), .long 0, .long (-1)]) (rest := []) (wr := [(h0, .inr (0, mF q th))]) rfl hx hb hml hown hts g_wm (mK_bl dC dI ca) (c_MM_in l dC dI ca f.toInt64 0 (-1)) xm_182 xm_183 xm_0 xm_184 (by decide +kernel) rfl (Nat.le_of_ble_eq_true rfl) (Nat.le_of_ble_eq_true rfl) hl.1 (Nat.le_of_ble_eq_true rfl) (mK_up hK) hP hD hS hA [] [0] rfl (by decide) rfl rfl (by decide) (by decide) (Nat.le_of_ble_eq_true rfl) (Nat.le_of_ble_eq_true rfl) d_MM_field_20 (fun v _ H locs hp hP hD hS => ?_)
    obtain rfl : v = some (.int 0) := hp.elim (fun h => absurd h.2 in_no) (fun h => h.1)
    have hP : va_P (dC, dI) classes [(h0, .inr (0, mF q th))] H := hP
    have hD : va_D A [(h0, .inr (0, mF q th))] := hD
    refine W.eq (g2 := F0 m 23 ls [.int 0]) rfl ?_
    refine lv_if_eq (tgt := 74) hx hb d_MM_field_23 (by decide) (fun _ => ?_) (fun h => absurd (by decide) h)
    refine lv_iconst (v := 0) hx hb d_MM_field_74 (by decide) ?_
    refine lv_istore (lv' := [(4, .int 0), (0, .ref h0), (1, .int s0), (2, .int f), (3, .int i)]) hx hb d_MM_field_75 hl (by decide) rfl (fun ls hl => ?_)
    refine lv_aload_n hx hb d_MM_field_77 rfl (lv_at hl 1 rfl) ?_
    refine lv_iload hx hb d_MM_field_78 (lv_at hl 0 rfl) ?_
    refine lv_if_eq (tgt := 87) hx hb d_MM_field_80 (by decide) (fun _ => ?_) (fun h => absurd (by decide) h)
    refine lv_iconst (v := 1) hx hb d_MM_field_87 (by decide) ?_
    refine va_put (D := (dC, dI)) (ci := 0) (v := .int 1) (ty := .int) (C := R_MM) (T := F_MM) (N := 132) hx hb hts i_MM t_MM t_MM_ok n_MM hown hK.1 hP hD hS 0 rfl rfl 0 (by decide) (hts _ xm_73) (fun _ h9 => h9) rfl (by decide +kernel) rfl rfl (Nat.le_of_ble_eq_true rfl) d_MM_field_88 (fun H locs hP hD hS => ?_)
    have hP : va_P (dC, dI) classes [(h0, .inr (0, mF q 1))] H := hP
    have hD : va_D A [(h0, .inr (0, mF q 1))] := hD
    refine lv_iload hx hb d_MM_field_91 (lv_at hl 0 rfl) ?_
    refine lv_if_eq (tgt := 116) hx hb d_MM_field_93 (by decide) (fun _ => ?_) (fun h => absurd (by decide) h)
    refine lv_lconst (v := 0) hx hb d_MM_field_116 (by decide) ?_
    exact ax_lret hx hb hr hlocks hP hD hS () rfl [0] rfl (by decide) rfl (Nat.le_of_ble_eq_true rfl) (Nat.le_of_ble_eq_true rfl) d_MM_field_117
  · have h9 := True.intro
    have hP : va_P (dC, dI) classes [(h0, .inr (0, mF q th))] H := hP
    have hD : va_D A [(h0, .inr (0, mF q th))] := hD
    refine W.eq (g2 := F0 m 7 ls [.int 0]) rfl ?_
    refine lv_if_eq (tgt := 74) hx hb d_MM_field_7 (by decide) (fun _ => ?_) (fun h => absurd (by decide) h)
    refine lv_iconst (v := 0) hx hb d_MM_field_74 (by decide) ?_
    refine lv_istore (lv' := [(4, .int 0), (0, .ref h0), (1, .int s0), (2, .int f), (3, .int i)]) hx hb d_MM_field_75 hl (by decide) rfl (fun ls hl => ?_)
    refine lv_aload_n hx hb d_MM_field_77 rfl (lv_at hl 1 rfl) ?_
    refine lv_iload hx hb d_MM_field_78 (lv_at hl 0 rfl) ?_
    refine lv_if_eq (tgt := 87) hx hb d_MM_field_80 (by decide) (fun _ => ?_) (fun h => absurd (by decide) h)
    refine lv_iconst (v := 1) hx hb d_MM_field_87 (by decide) ?_
    refine va_put (D := (dC, dI)) (ci := 0) (v := .int 1) (ty := .int) (C := R_MM) (T := F_MM) (N := 132) hx hb hts i_MM t_MM t_MM_ok n_MM hown hK.1 hP hD hS 0 rfl rfl 0 (by decide) (hts _ xm_73) (fun _ h9 => h9) rfl (by decide +kernel) rfl rfl (Nat.le_of_ble_eq_true rfl) d_MM_field_88 (fun H locs hP hD hS => ?_)
    have hP : va_P (dC, dI) classes [(h0, .inr (0, mF q 1))] H := hP
    have hD : va_D A [(h0, .inr (0, mF q 1))] := hD
    refine lv_iload hx hb d_MM_field_91 (lv_at hl 0 rfl) ?_
    refine lv_if_eq (tgt := 116) hx hb d_MM_field_93 (by decide) (fun _ => ?_) (fun h => absurd (by decide) h)
    refine lv_lconst (v := 0) hx hb d_MM_field_116 (by decide) ?_
    exact ax_lret hx hb hr hlocks hP hD hS () rfl [0] rfl (by decide) rfl (Nat.le_of_ble_eq_true rfl) (Nat.le_of_ble_eq_true rfl) d_MM_field_117
theorem d_MM_element_0 : decode b_MM_element 0 = .ok (.iload_n 1, 1) := by decide +kernel
theorem d_MM_element_1 : decode b_MM_element 1 = .ok (.i2l, 1) := by decide +kernel
theorem d_MM_element_2 : decode b_MM_element 2 = .ok (.lconst 0, 1) := by decide +kernel
theorem d_MM_element_3 : decode b_MM_element 3 = .ok (.lconst 1, 1) := by decide +kernel
theorem d_MM_element_4 : decode b_MM_element 4 = .ok (.invokestatic 349, 3) := by decide +kernel
theorem d_MM_element_7 : decode b_MM_element 7 = .ok (.ifCond .eq 39, 3) := by decide +kernel
theorem d_MM_element_10 : decode b_MM_element 10 = .ok (.iload_n 2, 1) := by decide +kernel
theorem d_MM_element_11 : decode b_MM_element 11 = .ok (.i2l, 1) := by decide +kernel
theorem d_MM_element_12 : decode b_MM_element 12 = .ok (.lconst 0, 1) := by decide +kernel
theorem d_MM_element_13 : decode b_MM_element 13 = .ok (.iload_n 1, 1) := by decide +kernel
theorem d_MM_element_14 : decode b_MM_element 14 = .ok (.i2l, 1) := by decide +kernel
theorem d_MM_element_15 : decode b_MM_element 15 = .ok (.lconst 0, 1) := by decide +kernel
theorem d_MM_element_16 : decode b_MM_element 16 = .ok (.lconst 1, 1) := by decide +kernel
theorem d_MM_element_17 : decode b_MM_element 17 = .ok (.invokestatic 349, 3) := by decide +kernel
theorem d_MM_element_20 : decode b_MM_element 20 = .ok (.ifCond .eq 12, 3) := by decide +kernel
theorem d_MM_element_23 : decode b_MM_element 23 = .ok (.aload_n 0, 1) := by decide +kernel
theorem d_MM_element_24 : decode b_MM_element 24 = .ok (.getfield 302, 3) := by decide +kernel
theorem d_MM_element_27 : decode b_MM_element 27 = .ok (.iload_n 1, 1) := by decide +kernel
theorem d_MM_element_28 : decode b_MM_element 28 = .ok (.iaload, 1) := by decide +kernel
theorem d_MM_element_29 : decode b_MM_element 29 = .ok (.goto 4, 3) := by decide +kernel
theorem d_MM_element_33 : decode b_MM_element 33 = .ok (.iconst 1, 1) := by decide +kernel
theorem d_MM_element_34 : decode b_MM_element 34 = .ok (.isub, 1) := by decide +kernel
theorem d_MM_element_35 : decode b_MM_element 35 = .ok (.i2l, 1) := by decide +kernel
theorem d_MM_element_36 : decode b_MM_element 36 = .ok (.invokestatic 349, 3) := by decide +kernel
theorem d_MM_element_39 : decode b_MM_element 39 = .ok (.ifCond .eq 7, 3) := by decide +kernel
theorem d_MM_element_46 : decode b_MM_element 46 = .ok (.iconst 0, 1) := by decide +kernel
theorem d_MM_element_47 : decode b_MM_element 47 = .ok (.istore 4, 2) := by decide +kernel
theorem d_MM_element_49 : decode b_MM_element 49 = .ok (.iload 4, 2) := by decide +kernel
theorem d_MM_element_51 : decode b_MM_element 51 = .ok (.ifCond .eq 13, 3) := by decide +kernel
theorem d_MM_element_64 : decode b_MM_element 64 = .ok (.iconst 0, 1) := by decide +kernel
theorem d_MM_element_65 : decode b_MM_element 65 = .ok (.istore 5, 2) := by decide +kernel
theorem d_MM_element_67 : decode b_MM_element 67 = .ok (.iload 4, 2) := by decide +kernel
theorem d_MM_element_69 : decode b_MM_element 69 = .ok (.ifCond .eq 28, 3) := by decide +kernel
theorem d_MM_element_97 : decode b_MM_element 97 = .ok (.iconst 0, 1) := by decide +kernel
theorem d_MM_element_98 : decode b_MM_element 98 = .ok (.istore 4, 2) := by decide +kernel
theorem d_MM_element_100 : decode b_MM_element 100 = .ok (.aload_n 0, 1) := by decide +kernel
theorem d_MM_element_101 : decode b_MM_element 101 = .ok (.iload 4, 2) := by decide +kernel
theorem d_MM_element_103 : decode b_MM_element 103 = .ok (.ifCond .eq 7, 3) := by decide +kernel
theorem d_MM_element_110 : decode b_MM_element 110 = .ok (.iconst 1, 1) := by decide +kernel
theorem d_MM_element_111 : decode b_MM_element 111 = .ok (.putfield 343, 3) := by decide +kernel
theorem d_MM_element_114 : decode b_MM_element 114 = .ok (.iload 4, 2) := by decide +kernel
theorem d_MM_element_116 : decode b_MM_element 116 = .ok (.ifCond .ne 7, 3) := by decide +kernel
theorem d_MM_element_119 : decode b_MM_element 119 = .ok (.lconst 0, 1) := by decide +kernel
theorem d_MM_element_120 : decode b_MM_element 120 = .ok (.goto 33, 3) := by decide +kernel
theorem d_MM_element_153 : decode b_MM_element 153 = .ok (.lreturn, 1) := by decide +kernel
set_option maxHeartbeats 4000000 in
set_option maxRecDepth 100000 in
theorem c_MM_element (l : Launch) (dC : Nat → ClassId) (dI : Nat → Nat → Nat) (ca : Nat → ClassId) (h0 : Nat) (q : Nat → Nat) (th : Int32) (s0 : Int32) (f : Int32) (i : Int32) : CT l classes (dC, dI) (mK dC dI ca) wm y_MM_element b_MM_element 6 (some (.long)) 1 25 0 0 [.ref h0, .int s0, .int f, .int i] [(h0, .inr (0, mF q th)), ((q 117), .inl (ca 1, 2, .inl (fun _ => 0))), ((q 120), .inl (ca 1, 8000, .inl (fun _ => 0)))] (fun (v : Option Value) (_ : Unit) => v = some (.long 0)) (fun (_ : Unit) => [(h0, .inr (0, mF q 1))]) := by
  refine ax_of (by decide) (Nat.le_of_ble_eq_true rfl) ?_
  intro p e s m below meth c A ls hAt hK hP hD hS hA hl
  obtain ⟨hx, hb, hr, hml, hown, hts, hlocks, hin⟩ := hAt
  have hl : lv_has ls 6 [(0, .ref h0), (1, .int s0), (2, .int f), (3, .int i)] := hl
  refine lv_iload_n hx hb d_MM_element_0 rfl (lv_at hl 1 rfl) ?_
  refine lv_i2l hx hb d_MM_element_1 rfl ?_
  refine lv_lconst (v := 0) hx hb d_MM_element_2 (by decide) ?_
  refine lv_lconst (v := 1) hx hb d_MM_element_3 (by decide) ?_
  refine ax_St (k := 3) (As := [.long (s0.toInt64), .long 0, .long 1]) (rest := []) (wr := [(h0, .inr (0, mF q th)), ((q 117), .inl (ca 1, 2, .inl (fun _ => 0))), ((q 120), .inl (ca 1, 8000, .inl (fun _ => 0)))]) rfl hx hb hml hown hts g_wm (mK_bl dC dI ca) (c_MM_in l dC dI ca s0.toInt64 0 1) xm_182 xm_183 xm_0 xm_184 (by decide +kernel) rfl (Nat.le_of_ble_eq_true rfl) (Nat.le_of_ble_eq_true rfl) hl.1 (Nat.le_of_ble_eq_true rfl) (mK_up hK) hP hD hS hA [] [0, 1, 2] rfl (by decide) rfl rfl (by decide) (by decide) (Nat.le_of_ble_eq_true rfl) (Nat.le_of_ble_eq_true rfl) d_MM_element_4 (fun v _ H locs hp hP hD hS => ?_)
  rcases hp with ⟨rfl, hc_1⟩ | ⟨rfl, hc_1⟩
  · have h9 := True.intro
    have hP : va_P (dC, dI) classes [(h0, .inr (0, mF q th)), ((q 117), .inl (ca 1, 2, .inl (fun _ => 0))), ((q 120), .inl (ca 1, 8000, .inl (fun _ => 0)))] H := hP
    have hD : va_D A [(h0, .inr (0, mF q th)), ((q 117), .inl (ca 1, 2, .inl (fun _ => 0))), ((q 120), .inl (ca 1, 8000, .inl (fun _ => 0)))] := hD
    refine W.eq (g2 := F0 m 7 ls [.int 1]) rfl ?_
    refine lv_if_eq (tgt := 46) hx hb d_MM_element_7 (by decide) (fun h => absurd h (by decide)) (fun _ => ?_)
    refine lv_iload_n hx hb d_MM_element_10 rfl (lv_at hl 2 rfl) ?_
    refine lv_i2l hx hb d_MM_element_11 rfl ?_
    refine lv_lconst (v := 0) hx hb d_MM_element_12 (by decide) ?_
    refine lv_iload_n hx hb d_MM_element_13 rfl (lv_at hl 1 rfl) ?_
    refine lv_i2l hx hb d_MM_element_14 rfl ?_
    refine lv_lconst (v := 0) hx hb d_MM_element_15 (by decide) ?_
    refine lv_lconst (v := 1) hx hb d_MM_element_16 (by decide) ?_
    refine ax_St (k := 3) (As := [.long (s0.toInt64), .long 0, .long 1]) (rest := [.long 0, .long (f.toInt64)]) (wr := [(h0, .inr (0, mF q th)), ((q 117), .inl (ca 1, 2, .inl (fun _ => 0))), ((q 120), .inl (ca 1, 8000, .inl (fun _ => 0)))]) rfl hx hb hml hown hts g_wm (mK_bl dC dI ca) (c_MM_in l dC dI ca s0.toInt64 0 1) xm_182 xm_183 xm_0 xm_184 (by decide +kernel) rfl (Nat.le_of_ble_eq_true rfl) (Nat.le_of_ble_eq_true rfl) hl.1 (Nat.le_of_ble_eq_true rfl) (mK_up hK) hP hD hS hA [] [0, 1, 2] rfl (by decide) rfl rfl (by decide) (by decide) (Nat.le_of_ble_eq_true rfl) (Nat.le_of_ble_eq_true rfl) d_MM_element_17 (fun v _ H locs hp hP hD hS => ?_)
    obtain rfl : v = some (.int 1) := hp.elim (fun h => h.1) (fun h => absurd hc_1 h.2)
    have hP : va_P (dC, dI) classes [(h0, .inr (0, mF q th)), ((q 117), .inl (ca 1, 2, .inl (fun _ => 0))), ((q 120), .inl (ca 1, 8000, .inl (fun _ => 0)))] H := hP
    have hD : va_D A [(h0, .inr (0, mF q th)), ((q 117), .inl (ca 1, 2, .inl (fun _ => 0))), ((q 120), .inl (ca 1, 8000, .inl (fun _ => 0)))] := hD
    refine W.eq (g2 := F0 m 20 ls [.int 1, .long 0, .long (f.toInt64)]) rfl ?_
    refine lv_if_eq (tgt := 32) hx hb d_MM_element_20 (by decide) (fun h => absurd h (by decide)) (fun _ => ?_)
    refine lv_aload_n hx hb d_MM_element_23 rfl (lv_at hl 0 rfl) ?_
    refine va_get (D := (dC, dI)) (ci := 0) (v := .ref (q 117)) (C := R_MM) (T := F_MM) (N := 132) hx hb hts i_MM hown hK.1 hP 0 rfl rfl 117 (by decide) (hts _ xm_159) (fun _ h9 => h9) rfl d_MM_element_24 ?_
    refine lv_iload_n hx hb d_MM_element_27 rfl (lv_at hl 1 rfl) ?_
    refine va_iald hx hb hK.1 hP 1 1 rfl rfl (vp_in2 hc_1) d_MM_element_28 ?_
    refine W.eq (g2 := F0 m 29 ls [.int 0, .long 0, .long (f.toInt64)]) rfl ?_
    refine lv_goto (tgt := 33) hx hb d_MM_element_29 (by decide) ?_
    refine lv_iconst (v := 1) hx hb d_MM_element_33 (by decide) ?_
    refine lv_isub hx hb d_MM_element_34 ?_
    refine lv_topi (fun z e9 => ?_)
    obtain rfl : z = (-1) := by rw [e9]; decide
    refine lv_i2l (v := (-1)) hx hb d_MM_element_35 (by decide) ?_
    refine ax_St (k := 3) (As := [.long (f.toInt64), .long 0, .long (-1)]) (rest := []) (wr := [(h0, .inr (0, mF q th)), ((q 117), .inl (ca 1, 2, .inl (fun _ => 0))), ((q 120), .inl (ca 1, 8000, .inl (fun _ => 0)))]) rfl hx hb hml hown hts g_wm (mK_bl dC dI ca) (c_MM_in l dC dI ca f.toInt64 0 (-1)) xm_182 xm_183 xm_0 xm_184 (by decide +kernel) rfl (Nat.le_of_ble_eq_true rfl) (Nat.le_of_ble_eq_true rfl) hl.1 (Nat.le_of_ble_eq_true rfl) (mK_up hK) hP hD hS hA [] [0, 1, 2] rfl (by decide) rfl rfl (by decide) (by decide) (Nat.le_of_ble_eq_true rfl) (Nat.le_of_ble_eq_true rfl) d_MM_element_36 (fun v _ H locs hp hP hD hS => ?_)
    obtain rfl : v = some (.int 0) := hp.elim (fun h => absurd h.2 in_no) (fun h => h.1)
    have hP : va_P (dC, dI) classes [(h0, .inr (0, mF q th)), ((q 117), .inl (ca 1, 2, .inl (fun _ => 0))), ((q 120), .inl (ca 1, 8000, .inl (fun _ => 0)))] H := hP
    have hD : va_D A [(h0, .inr (0, mF q th)), ((q 117), .inl (ca 1, 2, .inl (fun _ => 0))), ((q 120), .inl (ca 1, 8000, .inl (fun _ => 0)))] := hD
    refine W.eq (g2 := F0 m 39 ls [.int 0]) rfl ?_
    refine lv_if_eq (tgt := 46) hx hb d_MM_element_39 (by decide) (fun _ => ?_) (fun h => absurd (by decide) h)
    refine lv_iconst (v := 0) hx hb d_MM_element_46 (by decide) ?_
    refine lv_istore (lv' := [(4, .int 0), (0, .ref h0), (1, .int s0), (2, .int f), (3, .int i)]) hx hb d_MM_element_47 hl (by decide) rfl (fun ls hl => ?_)
    refine lv_iload hx hb d_MM_element_49 (lv_at hl 0 rfl) ?_
    refine lv_if_eq (tgt := 64) hx hb d_MM_element_51 (by decide) (fun _ => ?_) (fun h => absurd (by decide) h)
    refine lv_iconst (v := 0) hx hb d_MM_element_64 (by decide) ?_
    refine lv_istore (lv' := [(5, .int 0), (4, .int 0), (0, .ref h0), (1, .int s0), (2, .int f), (3, .int i)]) hx hb d_MM_element_65 hl (by decide) rfl (fun ls hl => ?_)
    refine lv_iload hx hb d_MM_element_67 (lv_at hl 1 rfl) ?_
    refine lv_if_eq (tgt := 97) hx hb d_MM_element_69 (by decide) (fun _ => ?_) (fun h => absurd (by decide) h)
    refine lv_iconst (v := 0) hx hb d_MM_element_97 (by decide) ?_
    refine lv_istore (lv' := [(4, .int 0), (5, .int 0), (0, .ref h0), (1, .int s0), (2, .int f), (3, .int i)]) hx hb d_MM_element_98 hl (by decide) rfl (fun ls hl => ?_)
    refine lv_aload_n hx hb d_MM_element_100 rfl (lv_at hl 2 rfl) ?_
    refine lv_iload hx hb d_MM_element_101 (lv_at hl 0 rfl) ?_
    refine lv_if_eq (tgt := 110) hx hb d_MM_element_103 (by decide) (fun _ => ?_) (fun h => absurd (by decide) h)
    refine lv_iconst (v := 1) hx hb d_MM_element_110 (by decide) ?_
    refine va_put (D := (dC, dI)) (ci := 0) (v := .int 1) (ty := .int) (C := R_MM) (T := F_MM) (N := 132) hx hb hts i_MM t_MM t_MM_ok n_MM hown hK.1 hP hD hS 0 rfl rfl 0 (by decide) (hts _ xm_73) (fun _ h9 => h9) rfl (by decide +kernel) rfl rfl (Nat.le_of_ble_eq_true rfl) d_MM_element_111 (fun H locs hP hD hS => ?_)
    have hP : va_P (dC, dI) classes [(h0, .inr (0, mF q 1)), ((q 117), .inl (ca 1, 2, .inl (fun _ => 0))), ((q 120), .inl (ca 1, 8000, .inl (fun _ => 0)))] H := hP
    have hD : va_D A [(h0, .inr (0, mF q 1)), ((q 117), .inl (ca 1, 2, .inl (fun _ => 0))), ((q 120), .inl (ca 1, 8000, .inl (fun _ => 0)))] := hD
    refine lv_iload hx hb d_MM_element_114 (lv_at hl 0 rfl) ?_
    refine lv_if_ne (tgt := 123) hx hb d_MM_element_116 (by decide) (fun h => absurd h (by decide)) (fun _ => ?_)
    refine lv_lconst (v := 0) hx hb d_MM_element_119 (by decide) ?_
    refine lv_goto (tgt := 153) hx hb d_MM_element_120 (by decide) ?_
    exact ax_lret hx hb hr hlocks hP hD hS () rfl [0] rfl (by decide) rfl (Nat.le_of_ble_eq_true rfl) (Nat.le_of_ble_eq_true rfl) d_MM_element_153
  · have h9 := True.intro
    have hP : va_P (dC, dI) classes [(h0, .inr (0, mF q th)), ((q 117), .inl (ca 1, 2, .inl (fun _ => 0))), ((q 120), .inl (ca 1, 8000, .inl (fun _ => 0)))] H := hP
    have hD : va_D A [(h0, .inr (0, mF q th)), ((q 117), .inl (ca 1, 2, .inl (fun _ => 0))), ((q 120), .inl (ca 1, 8000, .inl (fun _ => 0)))] := hD
    refine W.eq (g2 := F0 m 7 ls [.int 0]) rfl ?_
    refine lv_if_eq (tgt := 46) hx hb d_MM_element_7 (by decide) (fun _ => ?_) (fun h => absurd (by decide) h)
    refine lv_iconst (v := 0) hx hb d_MM_element_46 (by decide) ?_
    refine lv_istore (lv' := [(4, .int 0), (0, .ref h0), (1, .int s0), (2, .int f), (3, .int i)]) hx hb d_MM_element_47 hl (by decide) rfl (fun ls hl => ?_)
    refine lv_iload hx hb d_MM_element_49 (lv_at hl 0 rfl) ?_
    refine lv_if_eq (tgt := 64) hx hb d_MM_element_51 (by decide) (fun _ => ?_) (fun h => absurd (by decide) h)
    refine lv_iconst (v := 0) hx hb d_MM_element_64 (by decide) ?_
    refine lv_istore (lv' := [(5, .int 0), (4, .int 0), (0, .ref h0), (1, .int s0), (2, .int f), (3, .int i)]) hx hb d_MM_element_65 hl (by decide) rfl (fun ls hl => ?_)
    refine lv_iload hx hb d_MM_element_67 (lv_at hl 1 rfl) ?_
    refine lv_if_eq (tgt := 97) hx hb d_MM_element_69 (by decide) (fun _ => ?_) (fun h => absurd (by decide) h)
    refine lv_iconst (v := 0) hx hb d_MM_element_97 (by decide) ?_
    refine lv_istore (lv' := [(4, .int 0), (5, .int 0), (0, .ref h0), (1, .int s0), (2, .int f), (3, .int i)]) hx hb d_MM_element_98 hl (by decide) rfl (fun ls hl => ?_)
    refine lv_aload_n hx hb d_MM_element_100 rfl (lv_at hl 2 rfl) ?_
    refine lv_iload hx hb d_MM_element_101 (lv_at hl 0 rfl) ?_
    refine lv_if_eq (tgt := 110) hx hb d_MM_element_103 (by decide) (fun _ => ?_) (fun h => absurd (by decide) h)
    refine lv_iconst (v := 1) hx hb d_MM_element_110 (by decide) ?_
    refine va_put (D := (dC, dI)) (ci := 0) (v := .int 1) (ty := .int) (C := R_MM) (T := F_MM) (N := 132) hx hb hts i_MM t_MM t_MM_ok n_MM hown hK.1 hP hD hS 0 rfl rfl 0 (by decide) (hts _ xm_73) (fun _ h9 => h9) rfl (by decide +kernel) rfl rfl (Nat.le_of_ble_eq_true rfl) d_MM_element_111 (fun H locs hP hD hS => ?_)
    have hP : va_P (dC, dI) classes [(h0, .inr (0, mF q 1)), ((q 117), .inl (ca 1, 2, .inl (fun _ => 0))), ((q 120), .inl (ca 1, 8000, .inl (fun _ => 0)))] H := hP
    have hD : va_D A [(h0, .inr (0, mF q 1)), ((q 117), .inl (ca 1, 2, .inl (fun _ => 0))), ((q 120), .inl (ca 1, 8000, .inl (fun _ => 0)))] := hD
    refine lv_iload hx hb d_MM_element_114 (lv_at hl 0 rfl) ?_
    refine lv_if_ne (tgt := 123) hx hb d_MM_element_116 (by decide) (fun h => absurd h (by decide)) (fun _ => ?_)
    refine lv_lconst (v := 0) hx hb d_MM_element_119 (by decide) ?_
    refine lv_goto (tgt := 153) hx hb d_MM_element_120 (by decide) ?_
    exact ax_lret hx hb hr hlocks hP hD hS () rfl [0] rfl (by decide) rfl (Nat.le_of_ble_eq_true rfl) (Nat.le_of_ble_eq_true rfl) d_MM_element_153
theorem d_MM_steps_0 : decode b_MM_steps 0 = .ok (.iload_n 1, 1) := by decide +kernel
theorem d_MM_steps_1 : decode b_MM_steps 1 = .ok (.i2l, 1) := by decide +kernel
theorem d_MM_steps_2 : decode b_MM_steps 2 = .ok (.lconst 0, 1) := by decide +kernel
theorem d_MM_steps_3 : decode b_MM_steps 3 = .ok (.lconst 1, 1) := by decide +kernel
theorem d_MM_steps_4 : decode b_MM_steps 4 = .ok (.invokestatic 349, 3) := by decide +kernel
theorem d_MM_steps_7 : decode b_MM_steps 7 = .ok (.ifCond .eq 15, 3) := by decide +kernel
theorem d_MM_steps_10 : decode b_MM_steps 10 = .ok (.iload_n 2, 1) := by decide +kernel
theorem d_MM_steps_11 : decode b_MM_steps 11 = .ok (.i2l, 1) := by decide +kernel
theorem d_MM_steps_12 : decode b_MM_steps 12 = .ok (.lconst 1, 1) := by decide +kernel
theorem d_MM_steps_13 : decode b_MM_steps 13 = .ok (.ldc2_w 580, 3) := by decide +kernel
theorem d_MM_steps_16 : decode b_MM_steps 16 = .ok (.invokestatic 349, 3) := by decide +kernel
theorem d_MM_steps_19 : decode b_MM_steps 19 = .ok (.ifCond .ne 10, 3) := by decide +kernel
theorem d_MM_steps_22 : decode b_MM_steps 22 = .ok (.aload_n 0, 1) := by decide +kernel
theorem d_MM_steps_23 : decode b_MM_steps 23 = .ok (.iconst 1, 1) := by decide +kernel
theorem d_MM_steps_24 : decode b_MM_steps 24 = .ok (.putfield 343, 3) := by decide +kernel
theorem d_MM_steps_27 : decode b_MM_steps 27 = .ok (.iconst 0, 1) := by decide +kernel
theorem d_MM_steps_28 : decode b_MM_steps 28 = .ok (.ireturn, 1) := by decide +kernel
theorem d_MM_steps_29 : decode b_MM_steps 29 = .ok (.aload_n 0, 1) := by decide +kernel
theorem d_MM_steps_30 : decode b_MM_steps 30 = .ok (.aload_n 0, 1) := by decide +kernel
theorem d_MM_steps_31 : decode b_MM_steps 31 = .ok (.getfield 283, 3) := by decide +kernel
theorem d_MM_steps_34 : decode b_MM_steps 34 = .ok (.iload_n 1, 1) := by decide +kernel
theorem d_MM_steps_35 : decode b_MM_steps 35 = .ok (.iaload, 1) := by decide +kernel
theorem d_MM_steps_36 : decode b_MM_steps 36 = .ok (.iconst 1, 1) := by decide +kernel
theorem d_MM_steps_37 : decode b_MM_steps 37 = .ok (.if_icmp .ne 7, 3) := by decide +kernel
theorem d_MM_steps_44 : decode b_MM_steps 44 = .ok (.iconst 2, 1) := by decide +kernel
theorem d_MM_steps_45 : decode b_MM_steps 45 = .ok (.putfield 343, 3) := by decide +kernel
theorem d_MM_steps_48 : decode b_MM_steps 48 = .ok (.aload_n 0, 1) := by decide +kernel
theorem d_MM_steps_49 : decode b_MM_steps 49 = .ok (.getfield 343, 3) := by decide +kernel
theorem d_MM_steps_52 : decode b_MM_steps 52 = .ok (.ifCond .le 5, 3) := by decide +kernel
theorem d_MM_steps_55 : decode b_MM_steps 55 = .ok (.iconst 0, 1) := by decide +kernel
theorem d_MM_steps_56 : decode b_MM_steps 56 = .ok (.ireturn, 1) := by decide +kernel
set_option maxHeartbeats 4000000 in
set_option maxRecDepth 100000 in
theorem c_MM_steps (l : Launch) (dC : Nat → ClassId) (dI : Nat → Nat → Nat) (ca : Nat → ClassId) (h0 : Nat) (q : Nat → Nat) (th : Int32) (s0 : Int32) (n : Int32) : CT l classes (dC, dI) (mK dC dI ca) wm y_MM_steps b_MM_steps 4 (some (.int)) 1 25 0 0 [.ref h0, .int s0, .int n] [(h0, .inr (0, mF q th)), ((q 110), .inl (ca 1, 2, .inl (fun _ => 0)))] (fun (v : Option Value) (u : Int32) => v = some (.int 0) ∧ ((u = 2 ∧ (0 ≤ s0.toInt64 ∧ s0.toInt64 ≤ 1) ∧ (1 ≤ n.toInt64 ∧ n.toInt64 ≤ 4000)) ∨ (u = 1 ∧ ¬ ((0 ≤ s0.toInt64 ∧ s0.toInt64 ≤ 1) ∧ (1 ≤ n.toInt64 ∧ n.toInt64 ≤ 4000))))) (fun (u : Int32) => [(h0, .inr (0, mF q u))]) := by
  refine ax_of (by decide) (Nat.le_of_ble_eq_true rfl) ?_
  intro p e s m below meth c A ls hAt hK hP hD hS hA hl
  obtain ⟨hx, hb, hr, hml, hown, hts, hlocks, hin⟩ := hAt
  have hl : lv_has ls 4 [(0, .ref h0), (1, .int s0), (2, .int n)] := hl
  refine lv_iload_n hx hb d_MM_steps_0 rfl (lv_at hl 1 rfl) ?_
  refine lv_i2l hx hb d_MM_steps_1 rfl ?_
  refine lv_lconst (v := 0) hx hb d_MM_steps_2 (by decide) ?_
  refine lv_lconst (v := 1) hx hb d_MM_steps_3 (by decide) ?_
  refine ax_St (k := 3) (As := [.long (s0.toInt64), .long 0, .long 1]) (rest := []) (wr := [(h0, .inr (0, mF q th)), ((q 110), .inl (ca 1, 2, .inl (fun _ => 0)))]) rfl hx hb hml hown hts g_wm (mK_bl dC dI ca) (c_MM_in l dC dI ca s0.toInt64 0 1) xm_182 xm_183 xm_0 xm_184 (by decide +kernel) rfl (Nat.le_of_ble_eq_true rfl) (Nat.le_of_ble_eq_true rfl) hl.1 (Nat.le_of_ble_eq_true rfl) (mK_up hK) hP hD hS hA [] [0, 1] rfl (by decide) rfl rfl (by decide) (by decide) (Nat.le_of_ble_eq_true rfl) (Nat.le_of_ble_eq_true rfl) d_MM_steps_4 (fun v _ H locs hp hP hD hS => ?_)
  rcases hp with ⟨rfl, hc_1⟩ | ⟨rfl, hc_1⟩
  · have h9 := True.intro
    have hP : va_P (dC, dI) classes [(h0, .inr (0, mF q th)), ((q 110), .inl (ca 1, 2, .inl (fun _ => 0)))] H := hP
    have hD : va_D A [(h0, .inr (0, mF q th)), ((q 110), .inl (ca 1, 2, .inl (fun _ => 0)))] := hD
    refine W.eq (g2 := F0 m 7 ls [.int 1]) rfl ?_
    refine lv_if_eq (tgt := 22) hx hb d_MM_steps_7 (by decide) (fun h => absurd h (by decide)) (fun _ => ?_)
    refine lv_iload_n hx hb d_MM_steps_10 rfl (lv_at hl 2 rfl) ?_
    refine lv_i2l hx hb d_MM_steps_11 rfl ?_
    refine lv_lconst (v := 1) hx hb d_MM_steps_12 (by decide) ?_
    refine lv_ldc2 (v := 4000) hx hb hown (hts _ xm_255) d_MM_steps_13 ?_
    refine ax_St (k := 3) (As := [.long (n.toInt64), .long 1, .long 4000]) (rest := []) (wr := [(h0, .inr (0, mF q th)), ((q 110), .inl (ca 1, 2, .inl (fun _ => 0)))]) rfl hx hb hml hown hts g_wm (mK_bl dC dI ca) (c_MM_in l dC dI ca n.toInt64 1 4000) xm_182 xm_183 xm_0 xm_184 (by decide +kernel) rfl (Nat.le_of_ble_eq_true rfl) (Nat.le_of_ble_eq_true rfl) hl.1 (Nat.le_of_ble_eq_true rfl) (mK_up hK) hP hD hS hA [] [0, 1] rfl (by decide) rfl rfl (by decide) (by decide) (Nat.le_of_ble_eq_true rfl) (Nat.le_of_ble_eq_true rfl) d_MM_steps_16 (fun v _ H locs hp hP hD hS => ?_)
    rcases hp with ⟨rfl, hc_2⟩ | ⟨rfl, hc_2⟩
    · have h9 := True.intro
      have hP : va_P (dC, dI) classes [(h0, .inr (0, mF q th)), ((q 110), .inl (ca 1, 2, .inl (fun _ => 0)))] H := hP
      have hD : va_D A [(h0, .inr (0, mF q th)), ((q 110), .inl (ca 1, 2, .inl (fun _ => 0)))] := hD
      refine W.eq (g2 := F0 m 19 ls [.int 1]) rfl ?_
      refine lv_if_ne (tgt := 29) hx hb d_MM_steps_19 (by decide) (fun _ => ?_) (fun h => absurd h (by decide))
      refine lv_aload_n hx hb d_MM_steps_29 rfl (lv_at hl 0 rfl) ?_
      refine lv_aload_n hx hb d_MM_steps_30 rfl (lv_at hl 0 rfl) ?_
      refine va_get (D := (dC, dI)) (ci := 0) (v := .ref (q 110)) (C := R_MM) (T := F_MM) (N := 132) hx hb hts i_MM hown hK.1 hP 0 rfl rfl 110 (by decide) (hts _ xm_152) (fun _ h9 => h9) rfl d_MM_steps_31 ?_
      refine lv_iload_n hx hb d_MM_steps_34 rfl (lv_at hl 1 rfl) ?_
      refine va_iald hx hb hK.1 hP 1 1 rfl rfl (vp_in2 hc_1) d_MM_steps_35 ?_
      refine W.eq (g2 := F0 m 36 ls [.int 0, .ref h0]) rfl ?_
      refine lv_iconst (v := 1) hx hb d_MM_steps_36 (by decide) ?_
      refine lv_icmp_ne (tgt := 44) hx hb d_MM_steps_37 (by decide) (fun _ => ?_) (fun h => absurd h (by decide))
      refine lv_iconst (v := 2) hx hb d_MM_steps_44 (by decide) ?_
      refine va_put (D := (dC, dI)) (ci := 0) (v := .int 2) (ty := .int) (C := R_MM) (T := F_MM) (N := 132) hx hb hts i_MM t_MM t_MM_ok n_MM hown hK.1 hP hD hS 0 rfl rfl 0 (by decide) (hts _ xm_73) (fun _ h9 => h9) rfl (by decide +kernel) rfl rfl (Nat.le_of_ble_eq_true rfl) d_MM_steps_45 (fun H locs hP hD hS => ?_)
      have hP : va_P (dC, dI) classes [(h0, .inr (0, mF q 2)), ((q 110), .inl (ca 1, 2, .inl (fun _ => 0)))] H := hP
      have hD : va_D A [(h0, .inr (0, mF q 2)), ((q 110), .inl (ca 1, 2, .inl (fun _ => 0)))] := hD
      refine lv_aload_n hx hb d_MM_steps_48 rfl (lv_at hl 0 rfl) ?_
      refine va_get (D := (dC, dI)) (ci := 0) (v := .int 2) (C := R_MM) (T := F_MM) (N := 132) hx hb hts i_MM hown hK.1 hP 0 rfl rfl 0 (by decide) (hts _ xm_73) (fun _ h9 => h9) rfl d_MM_steps_49 ?_
      refine lv_if_le (tgt := 57) hx hb d_MM_steps_52 (by decide) (fun h => absurd h (by decide)) (fun _ => ?_)
      refine lv_iconst (v := 0) hx hb d_MM_steps_55 (by decide) ?_
      exact ax_iret hx hb hr hlocks hP hD hS 2 ⟨rfl, Or.inl ⟨rfl, hc_1, hc_2⟩⟩ [0] rfl (by decide) rfl (Nat.le_of_ble_eq_true rfl) (Nat.le_of_ble_eq_true rfl) d_MM_steps_56
    · have h9 := True.intro
      have hP : va_P (dC, dI) classes [(h0, .inr (0, mF q th)), ((q 110), .inl (ca 1, 2, .inl (fun _ => 0)))] H := hP
      have hD : va_D A [(h0, .inr (0, mF q th)), ((q 110), .inl (ca 1, 2, .inl (fun _ => 0)))] := hD
      refine W.eq (g2 := F0 m 19 ls [.int 0]) rfl ?_
      refine lv_if_ne (tgt := 29) hx hb d_MM_steps_19 (by decide) (fun h => absurd h (by decide)) (fun _ => ?_)
      refine lv_aload_n hx hb d_MM_steps_22 rfl (lv_at hl 0 rfl) ?_
      refine lv_iconst (v := 1) hx hb d_MM_steps_23 (by decide) ?_
      refine va_put (D := (dC, dI)) (ci := 0) (v := .int 1) (ty := .int) (C := R_MM) (T := F_MM) (N := 132) hx hb hts i_MM t_MM t_MM_ok n_MM hown hK.1 hP hD hS 0 rfl rfl 0 (by decide) (hts _ xm_73) (fun _ h9 => h9) rfl (by decide +kernel) rfl rfl (Nat.le_of_ble_eq_true rfl) d_MM_steps_24 (fun H locs hP hD hS => ?_)
      have hP : va_P (dC, dI) classes [(h0, .inr (0, mF q 1)), ((q 110), .inl (ca 1, 2, .inl (fun _ => 0)))] H := hP
      have hD : va_D A [(h0, .inr (0, mF q 1)), ((q 110), .inl (ca 1, 2, .inl (fun _ => 0)))] := hD
      refine lv_iconst (v := 0) hx hb d_MM_steps_27 (by decide) ?_
      exact ax_iret hx hb hr hlocks hP hD hS 1 ⟨rfl, Or.inr ⟨rfl, fun h => hc_2 h.2⟩⟩ [0] rfl (by decide) rfl (Nat.le_of_ble_eq_true rfl) (Nat.le_of_ble_eq_true rfl) d_MM_steps_28
  · have h9 := True.intro
    have hP : va_P (dC, dI) classes [(h0, .inr (0, mF q th)), ((q 110), .inl (ca 1, 2, .inl (fun _ => 0)))] H := hP
    have hD : va_D A [(h0, .inr (0, mF q th)), ((q 110), .inl (ca 1, 2, .inl (fun _ => 0)))] := hD
    refine W.eq (g2 := F0 m 7 ls [.int 0]) rfl ?_
    refine lv_if_eq (tgt := 22) hx hb d_MM_steps_7 (by decide) (fun _ => ?_) (fun h => absurd (by decide) h)
    refine lv_aload_n hx hb d_MM_steps_22 rfl (lv_at hl 0 rfl) ?_
    refine lv_iconst (v := 1) hx hb d_MM_steps_23 (by decide) ?_
    refine va_put (D := (dC, dI)) (ci := 0) (v := .int 1) (ty := .int) (C := R_MM) (T := F_MM) (N := 132) hx hb hts i_MM t_MM t_MM_ok n_MM hown hK.1 hP hD hS 0 rfl rfl 0 (by decide) (hts _ xm_73) (fun _ h9 => h9) rfl (by decide +kernel) rfl rfl (Nat.le_of_ble_eq_true rfl) d_MM_steps_24 (fun H locs hP hD hS => ?_)
    have hP : va_P (dC, dI) classes [(h0, .inr (0, mF q 1)), ((q 110), .inl (ca 1, 2, .inl (fun _ => 0)))] H := hP
    have hD : va_D A [(h0, .inr (0, mF q 1)), ((q 110), .inl (ca 1, 2, .inl (fun _ => 0)))] := hD
    refine lv_iconst (v := 0) hx hb d_MM_steps_27 (by decide) ?_
    exact ax_iret hx hb hr hlocks hP hD hS 1 ⟨rfl, Or.inr ⟨rfl, fun h => hc_1 h.1⟩⟩ [0] rfl (by decide) rfl (Nat.le_of_ble_eq_true rfl) (Nat.le_of_ble_eq_true rfl) d_MM_steps_28
