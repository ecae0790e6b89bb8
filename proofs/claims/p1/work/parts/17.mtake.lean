theorem d_MM_reads_0 : decode b_MM_reads 0 = .ok (.aload_n 0, 1) := by decide +kernel
theorem d_MM_reads_1 : decode b_MM_reads 1 = .ok (.aload_n 0, 1) := by decide +kernel
theorem d_MM_reads_2 : decode b_MM_reads 2 = .ok (.getfield 387, 3) := by decide +kernel
theorem d_MM_reads_5 : decode b_MM_reads 5 = .ok (.iload_n 1, 1) := by decide +kernel
theorem d_MM_reads_6 : decode b_MM_reads 6 = .ok (.iadd, 1) := by decide +kernel
theorem d_MM_reads_7 : decode b_MM_reads 7 = .ok (.aload_n 0, 1) := by decide +kernel
theorem d_MM_reads_8 : decode b_MM_reads 8 = .ok (.getfield 390, 3) := by decide +kernel
theorem d_MM_reads_11 : decode b_MM_reads 11 = .ok (.if_icmp .gt 7, 3) := by decide +kernel
theorem d_MM_reads_18 : decode b_MM_reads 18 = .ok (.iconst 0, 1) := by decide +kernel
theorem d_MM_reads_19 : decode b_MM_reads 19 = .ok (.iconst 1, 1) := by decide +kernel
theorem d_MM_reads_20 : decode b_MM_reads 20 = .ok (.aload_n 0, 1) := by decide +kernel
theorem d_MM_reads_21 : decode b_MM_reads 21 = .ok (.getfield 390, 3) := by decide +kernel
theorem d_MM_reads_24 : decode b_MM_reads 24 = .ok (.invokevirtual 391, 3) := by decide +kernel
set_option maxHeartbeats 4000000 in
set_option maxRecDepth 100000 in
theorem c_MM_readsT (l : Launch) (dC : Nat → ClassId) (dI : Nat → Nat → Nat) (ca : Nat → ClassId) (h0 : Nat) (q : Nat → Nat) (th : Int32) (bx : Value) (sc : Int32) (x0 x1 x2 x3 x4 x5 x6 x7 : Value) : CTT l classes (dC, dI) (mK dC dI ca) wm y_MM_reads b_MM_reads 5 (some (.long)) 2 45 0 0 [.ref h0, .int 4] [(h0, .inr (0, mF2 q th (bx) 0 0 sc)), ((q 1), .inr (1, [x0, x1, x2, x3, x4, x5, x6, x7]))] (fun (x : Addr) (_ : Unit) => x = q 1) (fun (_ : Unit) => [(h0, .inr (0, mF2 q th (bx) 0 0 sc)), ((q 1), .inr (1, [x0, x1, x2, x3, x4, .int 1, .int 0, x7]))]) := by
  refine ax_ofT (by decide) (Nat.le_of_ble_eq_true rfl) ?_
  intro p e s m below meth c A ls hAt hne hK hP hD hS hA hAi hl
  obtain ⟨hx, hb, hr, hml, hown, hts, hlocks, hin⟩ := hAt
  have hl : lv_has ls 5 [(0, .ref h0), (1, .int 4)] := hl
  refine lv_aload_n hx hb d_MM_reads_0 rfl (lv_at hl 0 rfl) ?_
  refine lv_aload_n hx hb d_MM_reads_1 rfl (lv_at hl 0 rfl) ?_
  refine va_get (D := (dC, dI)) (ci := 0) (v := .int 0) (C := R_MM) (T := F_MM) (N := 132) hx hb hts i_MM hown hK.1 hP 0 rfl rfl 7 (by decide) (hts _ xm_80) (fun _ h9 => h9) rfl d_MM_reads_2 ?_
  refine lv_iload_n hx hb d_MM_reads_5 rfl (lv_at hl 1 rfl) ?_
  refine lv_iadd hx hb d_MM_reads_6 ?_
  refine lv_topi (fun z e9 => ?_)
  obtain rfl : z = 4 := by rw [e9]; decide
  refine lv_aload_n hx hb d_MM_reads_7 rfl (lv_at hl 0 rfl) ?_
  refine va_get (D := (dC, dI)) (ci := 0) (v := .int 0) (C := R_MM) (T := F_MM) (N := 132) hx hb hts i_MM hown hK.1 hP 0 rfl rfl 6 (by decide) (hts _ xm_79) (fun _ h9 => h9) rfl d_MM_reads_8 ?_
  refine lv_icmp_gt (tgt := 18) hx hb d_MM_reads_11 (by decide) (fun _ => ?_) (fun h => absurd (by decide) h)
  refine lv_iconst (v := 0) hx hb d_MM_reads_18 (by decide) ?_
  refine lv_iconst (v := 1) hx hb d_MM_reads_19 (by decide) ?_
  refine lv_aload_n hx hb d_MM_reads_20 rfl (lv_at hl 0 rfl) ?_
  refine va_get (D := (dC, dI)) (ci := 0) (v := .int 0) (C := R_MM) (T := F_MM) (N := 132) hx hb hts i_MM hown hK.1 hP 0 rfl rfl 6 (by decide) (hts _ xm_79) (fun _ h9 => h9) rfl d_MM_reads_21 ?_
  exact ax_VT (mc := 0) (ms := 0) (rest := []) (wr := []) hlocks hne (ax_runVT (ci := 0) (q0 := 0) (k := 3) (As := [.int 0, .int 1, .int 0]) (rest := []) (wr := []) rfl hx hb hml hown hts g_wm (mK_bl dC dI ca) (c_MM_mustT l dC dI ca h0 q th (bx) 0 0 sc x0 x1 x2 x3 x4 (x5) (x6) x7 1 0) xm_238 xm_239 xm_0 xm_240 xm_332 (by decide +kernel) rfl (Nat.le_of_ble_eq_true rfl) (Nat.le_of_ble_eq_true rfl) hl.1 (Nat.le_of_ble_eq_true rfl) (mK_up hK) hK.1 hP hD hS hA rfl rfl [0, 1] [] rfl (by decide) rfl rfl (by decide) (by decide) (Nat.le_of_ble_eq_true rfl) (Nat.le_of_ble_eq_true rfl) d_MM_reads_24) (Nat.le_of_ble_eq_true rfl) (Nat.le_of_ble_eq_true rfl) (fun x u H1 hp hP hD => ⟨(), hp, hP.sub [0, 1] rfl, hD.sub [0, 1] (by decide) rfl⟩)
theorem d_MM_readsFile_0 : decode b_MM_readsFile 0 = .ok (.aload_n 0, 1) := by decide +kernel
theorem d_MM_readsFile_1 : decode b_MM_readsFile 1 = .ok (.aload_n 0, 1) := by decide +kernel
theorem d_MM_readsFile_2 : decode b_MM_readsFile 2 = .ok (.iconst 4, 1) := by decide +kernel
theorem d_MM_readsFile_3 : decode b_MM_readsFile 3 = .ok (.invokevirtual 399, 3) := by decide +kernel
set_option maxHeartbeats 4000000 in
set_option maxRecDepth 100000 in
theorem c_MM_readsFileT (l : Launch) (dC : Nat → ClassId) (dI : Nat → Nat → Nat) (ca : Nat → ClassId) (h0 : Nat) (q : Nat → Nat) (th : Int32) (bx : Value) (sc : Int32) (x0 x1 x2 x3 x4 x5 x6 x7 : Value) : CTT l classes (dC, dI) (mK dC dI ca) wm y_MM_readsFile b_MM_readsFile 5 none 3 69 0 0 [.ref h0] [(h0, .inr (0, mF2 q th (bx) 0 0 sc)), ((q 1), .inr (1, [x0, x1, x2, x3, x4, x5, x6, x7]))] (fun (x : Addr) (_ : Unit) => x = q 1) (fun (_ : Unit) => [(h0, .inr (0, mF2 q th (bx) 0 0 sc)), ((q 1), .inr (1, [x0, x1, x2, x3, x4, .int 1, .int 0, x7]))]) := by
  refine ax_ofT (by decide) (Nat.le_of_ble_eq_true rfl) ?_
  intro p e s m below meth c A ls hAt hne hK hP hD hS hA hAi hl
  obtain ⟨hx, hb, hr, hml, hown, hts, hlocks, hin⟩ := hAt
  have hl : lv_has ls 5 [(0, .ref h0)] := hl
  refine lv_aload_n hx hb d_MM_readsFile_0 rfl (lv_at hl 0 rfl) ?_
  refine lv_aload_n hx hb d_MM_readsFile_1 rfl (lv_at hl 0 rfl) ?_
  refine lv_iconst (v := 4) hx hb d_MM_readsFile_2 (by decide) ?_
  exact ax_VT (mc := 0) (ms := 0) (rest := [.ref h0]) (wr := []) hlocks hne (ax_runVT (ci := 0) (q0 := 0) (k := 1) (As := [.int 4]) (rest := [.ref h0]) (wr := []) rfl hx hb hml hown hts g_wm (mK_bl dC dI ca) (c_MM_readsT l dC dI ca h0 q th (bx) sc x0 x1 x2 x3 x4 (x5) (x6) x7) xm_248 xm_249 xm_0 xm_250 xm_333 (by decide +kernel) rfl (Nat.le_of_ble_eq_true rfl) (Nat.le_of_ble_eq_true rfl) hl.1 (Nat.le_of_ble_eq_true rfl) (mK_up hK) hK.1 hP hD hS hA rfl rfl [0, 1] [] rfl (by decide) rfl rfl (by decide) (by decide) (Nat.le_of_ble_eq_true rfl) (Nat.le_of_ble_eq_true rfl) d_MM_readsFile_3) (Nat.le_of_ble_eq_true rfl) (Nat.le_of_ble_eq_true rfl) (fun x u H1 hp hP hD => ⟨(), hp, hP.sub [0, 1] rfl, hD.sub [0, 1] (by decide) rfl⟩)
theorem d_MM_take_0 : decode b_MM_take 0 = .ok (.aload_n 0, 1) := by decide +kernel
theorem d_MM_take_1 : decode b_MM_take 1 = .ok (.iconst 0, 1) := by decide +kernel
theorem d_MM_take_2 : decode b_MM_take 2 = .ok (.putfield 343, 3) := by decide +kernel
theorem d_MM_take_5 : decode b_MM_take 5 = .ok (.aload_n 0, 1) := by decide +kernel
theorem d_MM_take_6 : decode b_MM_take 6 = .ok (.getfield 410, 3) := by decide +kernel
theorem d_MM_take_9 : decode b_MM_take 9 = .ok (.istore_n 1, 1) := by decide +kernel
theorem d_MM_take_10 : decode b_MM_take 10 = .ok (.aload_n 0, 1) := by decide +kernel
theorem d_MM_take_11 : decode b_MM_take 11 = .ok (.aload_n 0, 1) := by decide +kernel
theorem d_MM_take_12 : decode b_MM_take 12 = .ok (.invokevirtual 413, 3) := by decide +kernel
theorem d_MM_take_15 : decode b_MM_take 15 = .ok (.putfield 417, 3) := by decide +kernel
theorem d_MM_take_18 : decode b_MM_take 18 = .ok (.aload_n 0, 1) := by decide +kernel
theorem d_MM_take_19 : decode b_MM_take 19 = .ok (.aload_n 0, 1) := by decide +kernel
theorem d_MM_take_20 : decode b_MM_take 20 = .ok (.getfield 410, 3) := by decide +kernel
theorem d_MM_take_23 : decode b_MM_take 23 = .ok (.bipush 16, 2) := by decide +kernel
theorem d_MM_take_25 : decode b_MM_take 25 = .ok (.if_icmp .ge 7, 3) := by decide +kernel
theorem d_MM_take_28 : decode b_MM_take 28 = .ok (.iconst 1, 1) := by decide +kernel
theorem d_MM_take_29 : decode b_MM_take 29 = .ok (.goto 4, 3) := by decide +kernel
theorem d_MM_take_33 : decode b_MM_take 33 = .ok (.bipush 25, 2) := by decide +kernel
theorem d_MM_take_35 : decode b_MM_take 35 = .ok (.iconst 0, 1) := by decide +kernel
theorem d_MM_take_36 : decode b_MM_take 36 = .ok (.invokevirtual 391, 3) := by decide +kernel
theorem d_MM_take_39 : decode b_MM_take 39 = .ok (.aload_n 0, 1) := by decide +kernel
theorem d_MM_take_40 : decode b_MM_take 40 = .ok (.aload_n 0, 1) := by decide +kernel
theorem d_MM_take_41 : decode b_MM_take 41 = .ok (.getfield 19, 3) := by decide +kernel
theorem d_MM_take_44 : decode b_MM_take 44 = .ok (.getfield 353, 3) := by decide +kernel
theorem d_MM_take_47 : decode b_MM_take 47 = .ok (.putfield 390, 3) := by decide +kernel
theorem d_MM_take_50 : decode b_MM_take 50 = .ok (.aload_n 0, 1) := by decide +kernel
theorem d_MM_take_51 : decode b_MM_take 51 = .ok (.iconst 0, 1) := by decide +kernel
theorem d_MM_take_52 : decode b_MM_take 52 = .ok (.putfield 387, 3) := by decide +kernel
theorem d_MM_take_55 : decode b_MM_take 55 = .ok (.aload_n 0, 1) := by decide +kernel
theorem d_MM_take_56 : decode b_MM_take 56 = .ok (.invokevirtual 421, 3) := by decide +kernel
theorem d_MM_take_129 : decode b_MM_take 129 = .ok (.astore_n 2, 1) := by decide +kernel
theorem d_MM_take_130 : decode b_MM_take 130 = .ok (.aload_n 0, 1) := by decide +kernel
theorem d_MM_take_131 : decode b_MM_take 131 = .ok (.aload_n 0, 1) := by decide +kernel
theorem d_MM_take_132 : decode b_MM_take 132 = .ok (.getfield 417, 3) := by decide +kernel
theorem d_MM_take_135 : decode b_MM_take 135 = .ok (.invokevirtual 441, 3) := by decide +kernel
theorem d_MM_take_138 : decode b_MM_take 138 = .ok (.iconst (-1), 1) := by decide +kernel
theorem d_MM_take_139 : decode b_MM_take 139 = .ok (.aload_n 2, 1) := by decide +kernel
theorem d_MM_take_140 : decode b_MM_take 140 = .ok (.getfield 444, 3) := by decide +kernel
theorem d_MM_take_143 : decode b_MM_take 143 = .ok (.bipush 32, 2) := by decide +kernel
theorem d_MM_take_145 : decode b_MM_take 145 = .ok (.aload_n 2, 1) := by decide +kernel
theorem d_MM_take_146 : decode b_MM_take 146 = .ok (.getfield 447, 3) := by decide +kernel
theorem d_MM_take_149 : decode b_MM_take 149 = .ok (.imul, 1) := by decide +kernel
theorem d_MM_take_150 : decode b_MM_take 150 = .ok (.iadd, 1) := by decide +kernel
theorem d_MM_take_151 : decode b_MM_take 151 = .ok (.isub, 1) := by decide +kernel
theorem d_MM_take_152 : decode b_MM_take 152 = .ok (.istore_n 1, 1) := by decide +kernel
theorem d_MM_take_153 : decode b_MM_take 153 = .ok (.aload_n 0, 1) := by decide +kernel
theorem d_MM_take_154 : decode b_MM_take 154 = .ok (.getfield 19, 3) := by decide +kernel
theorem d_MM_take_157 : decode b_MM_take 157 = .ok (.iconst 0, 1) := by decide +kernel
theorem d_MM_take_158 : decode b_MM_take 158 = .ok (.putfield 353, 3) := by decide +kernel
theorem d_MM_take_161 : decode b_MM_take 161 = .ok (.iload_n 1, 1) := by decide +kernel
theorem d_MM_take_162 : decode b_MM_take 162 = .ok (.ireturn, 1) := by decide +kernel
set_option maxHeartbeats 4000000 in
set_option maxRecDepth 100000 in
theorem c_MM_take (l : Launch) (dC : Nat → ClassId) (dI : Nat → Nat → Nat) (ca : Nat → ClassId) (h0 : Nat) (q : Nat → Nat) (th : Int32) (qa : Nat) (x0 x1 x2 x3 x4 x5 x6 x7 : Value) : CTw l classes (dC, dI) (mK dC dI ca) wm y_MM_take b_MM_take 3 (some (.int)) [(18, 126, 129, 7)] 4 93 20 181 [.ref h0] [(h0, .inr (0, mF2 q th (.null) 0 0 0)), ((q 1), .inr (1, [x0, x1, x2, x3, x4, x5, x6, x7])), ((q 2), .inr (2, [.ref qa, .int 0])), ((q 12), .inl (ca 4, 148, .inr (.inr (.inr (.inr (fun _ => none))))))] (fun (v : Option Value) (_ : Unit) => v = some (.int (-2))) (fun (_ : Unit) => []) := by
  refine ax_ofw (by decide) (Nat.le_of_ble_eq_true rfl) ?_
  intro p e s m below meth c A ls hAt htab hK hP hD hS hA hl
  obtain ⟨hx, hb, hr, hml, hown, hts, hlocks, hin⟩ := hAt
  have hl : lv_has ls 3 [(0, .ref h0)] := hl
  refine lv_aload_n hx hb d_MM_take_0 rfl (lv_at hl 0 rfl) ?_
  refine lv_iconst (v := 0) hx hb d_MM_take_1 (by decide) ?_
  refine va_put (D := (dC, dI)) (ci := 0) (v := .int 0) (ty := .int) (C := R_MM) (T := F_MM) (N := 132) hx hb hts i_MM t_MM t_MM_ok n_MM hown hK.1 hP hD hS 0 rfl rfl 0 (by decide) (hts _ xm_73) (fun _ h9 => h9) rfl (by decide +kernel) rfl rfl (Nat.le_of_ble_eq_true rfl) d_MM_take_2 (fun H locs hP hD hS => ?_)
  have hP : va_P (dC, dI) classes [(h0, .inr (0, mF2 q 0 (.null) 0 0 0)), ((q 1), .inr (1, [x0, x1, x2, x3, x4, x5, x6, x7])), ((q 2), .inr (2, [.ref qa, .int 0])), ((q 12), .inl (ca 4, 148, .inr (.inr (.inr (.inr (fun _ => none))))))] H := hP
  have hD : va_D A [(h0, .inr (0, mF2 q 0 (.null) 0 0 0)), ((q 1), .inr (1, [x0, x1, x2, x3, x4, x5, x6, x7])), ((q 2), .inr (2, [.ref qa, .int 0])), ((q 12), .inl (ca 4, 148, .inr (.inr (.inr (.inr (fun _ => none))))))] := hD
  refine lv_aload_n hx hb d_MM_take_5 rfl (lv_at hl 0 rfl) ?_
  refine va_get (D := (dC, dI)) (ci := 0) (v := .int 0) (C := R_MM) (T := F_MM) (N := 132) hx hb hts i_MM hown hK.1 hP 0 rfl rfl 8 (by decide) (hts _ xm_81) (fun _ h9 => h9) rfl d_MM_take_6 ?_
  refine lv_istore_n (lv' := [(1, .int 0), (0, .ref h0)]) hx hb d_MM_take_9 rfl hl (by decide) rfl (fun ls hl => ?_)
  refine lv_aload_n hx hb d_MM_take_10 rfl (lv_at hl 1 rfl) ?_
  refine lv_aload_n hx hb d_MM_take_11 rfl (lv_at hl 1 rfl) ?_
  refine ax_V (ci := 0) (q0 := 0) (k := 0) (As := []) (rest := [.ref h0]) (wr := [((q 1), .inr (1, [x0, x1, x2, x3, x4, x5, x6, x7])), ((q 2), .inr (2, [.ref qa, .int 0])), ((q 12), .inl (ca 4, 148, .inr (.inr (.inr (.inr (fun _ => none))))))]) rfl hx hb hml hown hts g_wm (mK_bl dC dI ca) (c_MM_newBox l dC dI ca h0 q 0) xm_197 xm_198 xm_0 xm_199 xm_334 (by decide +kernel) rfl (Nat.le_of_ble_eq_true rfl) (Nat.le_of_ble_eq_true rfl) hl.1 (Nat.le_of_ble_eq_true rfl) (mK_up hK) hK.1 hP hD hS hA rfl rfl [0] [1, 2, 3] rfl (by decide) rfl rfl (by decide) (by decide) (Nat.le_of_ble_eq_true rfl) (Nat.le_of_ble_eq_true rfl) d_MM_take_12 (fun v u H locs hp hP hD hS => ?_)
  obtain ⟨bb_1, bf_2⟩ := u
  obtain rfl : v = some (.ref bb_1) := hp
  have hP : va_P (dC, dI) classes [((q 1), .inr (1, [x0, x1, x2, x3, x4, x5, x6, x7])), ((q 2), .inr (2, [.ref qa, .int 0])), ((q 12), .inl (ca 4, 148, .inr (.inr (.inr (.inr (fun _ => none)))))), (h0, .inr (0, mF2 q 0 (.null) 0 0 0)), (bb_1, .inr (6, bf_2))] H := hP
  have hD : va_D A [((q 1), .inr (1, [x0, x1, x2, x3, x4, x5, x6, x7])), ((q 2), .inr (2, [.ref qa, .int 0])), ((q 12), .inl (ca 4, 148, .inr (.inr (.inr (.inr (fun _ => none)))))), (h0, .inr (0, mF2 q 0 (.null) 0 0 0)), (bb_1, .inr (6, bf_2))] := hD
  refine W.eq (g2 := F0 m 15 ls [.ref bb_1, .ref h0]) rfl ?_
  refine W.widen (k := 20) (n := 181) (Nat.le_of_ble_eq_true rfl) (Nat.le_of_ble_eq_true rfl) ?_
  refine va_put (D := (dC, dI)) (ci := 0) (v := .ref bb_1) (ty := .object "SourceBackModel$Box") (C := R_MM) (T := F_MM) (N := 132) hx hb hts i_MM t_MM t_MM_ok n_MM hown hK.1 hP hD hS 3 rfl rfl 14 (by decide) (hts _ xm_87) (fun _ h9 => h9) rfl (by decide +kernel) rfl rfl (Nat.le_of_ble_eq_true rfl) d_MM_take_15 (fun H locs hP hD hS => ?_)
  have hP : va_P (dC, dI) classes [((q 1), .inr (1, [x0, x1, x2, x3, x4, x5, x6, x7])), ((q 2), .inr (2, [.ref qa, .int 0])), ((q 12), .inl (ca 4, 148, .inr (.inr (.inr (.inr (fun _ => none)))))), (h0, .inr (0, mF2 q 0 (.ref bb_1) 0 0 0)), (bb_1, .inr (6, bf_2))] H := hP
  have hD : va_D A [((q 1), .inr (1, [x0, x1, x2, x3, x4, x5, x6, x7])), ((q 2), .inr (2, [.ref qa, .int 0])), ((q 12), .inl (ca 4, 148, .inr (.inr (.inr (.inr (fun _ => none)))))), (h0, .inr (0, mF2 q 0 (.ref bb_1) 0 0 0)), (bb_1, .inr (6, bf_2))] := hD
  refine lv_aload_n hx hb d_MM_take_18 rfl (lv_at hl 1 rfl) ?_
  refine lv_aload_n hx hb d_MM_take_19 rfl (lv_at hl 1 rfl) ?_
  refine va_get (D := (dC, dI)) (ci := 0) (v := .int 0) (C := R_MM) (T := F_MM) (N := 132) hx hb hts i_MM hown hK.1 hP 3 rfl rfl 8 (by decide) (hts _ xm_81) (fun _ h9 => h9) rfl d_MM_take_20 ?_
  refine lv_bipush (v := 16) hx hb d_MM_take_23 (by decide +kernel) ?_
  refine lv_icmp_ge (tgt := 32) hx hb d_MM_take_25 (by decide) (fun h => absurd h (by decide)) (fun _ => ?_)
  refine lv_iconst (v := 1) hx hb d_MM_take_28 (by decide) ?_
  refine lv_goto (tgt := 33) hx hb d_MM_take_29 (by decide) ?_
  refine lv_bipush (v := 25) hx hb d_MM_take_33 (by decide +kernel) ?_
  refine lv_iconst (v := 0) hx hb d_MM_take_35 (by decide) ?_
  refine ax_V (ci := 0) (q0 := 0) (k := 3) (As := [.int 1, .int 25, .int 0]) (rest := []) (wr := [((q 1), .inr (1, [x0, x1, x2, x3, x4, x5, x6, x7])), ((q 2), .inr (2, [.ref qa, .int 0])), ((q 12), .inl (ca 4, 148, .inr (.inr (.inr (.inr (fun _ => none)))))), (bb_1, .inr (6, bf_2))]) rfl hx hb hml hown hts g_wm (mK_bl dC dI ca) (c_MM_must l dC dI ca h0 q 0 (.ref bb_1) 0 0 0 25 0) xm_238 xm_239 xm_0 xm_240 xm_332 (by decide +kernel) rfl (Nat.le_of_ble_eq_true rfl) (Nat.le_of_ble_eq_true rfl) hl.1 (Nat.le_of_ble_eq_true rfl) (mK_up hK) hK.1 hP hD hS hA rfl rfl [3] [0, 1, 2, 4] rfl (by decide) rfl rfl (by decide) (by decide) (Nat.le_of_ble_eq_true rfl) (Nat.le_of_ble_eq_true rfl) d_MM_take_36 (fun v _ H locs hp hP hD hS => ?_)
  obtain rfl : v = none := hp
  have hP : va_P (dC, dI) classes [((q 1), .inr (1, [x0, x1, x2, x3, x4, x5, x6, x7])), ((q 2), .inr (2, [.ref qa, .int 0])), ((q 12), .inl (ca 4, 148, .inr (.inr (.inr (.inr (fun _ => none)))))), (bb_1, .inr (6, bf_2)), (h0, .inr (0, mF2 q 0 (.ref bb_1) 0 0 0))] H := hP
  have hD : va_D A [((q 1), .inr (1, [x0, x1, x2, x3, x4, x5, x6, x7])), ((q 2), .inr (2, [.ref qa, .int 0])), ((q 12), .inl (ca 4, 148, .inr (.inr (.inr (.inr (fun _ => none)))))), (bb_1, .inr (6, bf_2)), (h0, .inr (0, mF2 q 0 (.ref bb_1) 0 0 0))] := hD
  refine W.eq (g2 := F0 m 39 ls []) rfl ?_
  refine lv_aload_n hx hb d_MM_take_39 rfl (lv_at hl 1 rfl) ?_
  refine lv_aload_n hx hb d_MM_take_40 rfl (lv_at hl 1 rfl) ?_
  refine va_get (D := (dC, dI)) (ci := 0) (v := .ref (q 2)) (C := R_MM) (T := F_MM) (N := 132) hx hb hts i_MM hown hK.1 hP 4 rfl rfl 2 (by decide) (hts _ xm_75) (fun _ h9 => h9) rfl d_MM_take_41 ?_
  refine va_getN (D := (dC, dI)) (ci := 2) (v := .int 0) (C := R_MB) (T := F_MB) (N := 2) hx hb hts i_MB hown hK.1 hP 1 rfl rfl 1 (by decide) (va_Nw.use rfl (hK.2.1 _ zm_6)) (fun _ h9 => h9) rfl d_MM_take_44 ?_
  refine va_put (D := (dC, dI)) (ci := 0) (v := .int 0) (ty := .int) (C := R_MM) (T := F_MM) (N := 132) hx hb hts i_MM t_MM t_MM_ok n_MM hown hK.1 hP hD hS 4 rfl rfl 6 (by decide) (hts _ xm_79) (fun _ h9 => h9) rfl (by decide +kernel) rfl rfl (Nat.le_of_ble_eq_true rfl) d_MM_take_47 (fun H locs hP hD hS => ?_)
  have hP : va_P (dC, dI) classes [((q 1), .inr (1, [x0, x1, x2, x3, x4, x5, x6, x7])), ((q 2), .inr (2, [.ref qa, .int 0])), ((q 12), .inl (ca 4, 148, .inr (.inr (.inr (.inr (fun _ => none)))))), (bb_1, .inr (6, bf_2)), (h0, .inr (0, mF2 q 0 (.ref bb_1) 0 0 0))] H := hP
  have hD : va_D A [((q 1), .inr (1, [x0, x1, x2, x3, x4, x5, x6, x7])), ((q 2), .inr (2, [.ref qa, .int 0])), ((q 12), .inl (ca 4, 148, .inr (.inr (.inr (.inr (fun _ => none)))))), (bb_1, .inr (6, bf_2)), (h0, .inr (0, mF2 q 0 (.ref bb_1) 0 0 0))] := hD
  refine lv_aload_n hx hb d_MM_take_50 rfl (lv_at hl 1 rfl) ?_
  refine lv_iconst (v := 0) hx hb d_MM_take_51 (by decide) ?_
  refine va_put (D := (dC, dI)) (ci := 0) (v := .int 0) (ty := .int) (C := R_MM) (T := F_MM) (N := 132) hx hb hts i_MM t_MM t_MM_ok n_MM hown hK.1 hP hD hS 4 rfl rfl 7 (by decide) (hts _ xm_80) (fun _ h9 => h9) rfl (by decide +kernel) rfl rfl (Nat.le_of_ble_eq_true rfl) d_MM_take_52 (fun H locs hP hD hS => ?_)
  have hP : va_P (dC, dI) classes [((q 1), .inr (1, [x0, x1, x2, x3, x4, x5, x6, x7])), ((q 2), .inr (2, [.ref qa, .int 0])), ((q 12), .inl (ca 4, 148, .inr (.inr (.inr (.inr (fun _ => none)))))), (bb_1, .inr (6, bf_2)), (h0, .inr (0, mF2 q 0 (.ref bb_1) 0 0 0))] H := hP
  have hD : va_D A [((q 1), .inr (1, [x0, x1, x2, x3, x4, x5, x6, x7])), ((q 2), .inr (2, [.ref qa, .int 0])), ((q 12), .inl (ca 4, 148, .inr (.inr (.inr (.inr (fun _ => none)))))), (bb_1, .inr (6, bf_2)), (h0, .inr (0, mF2 q 0 (.ref bb_1) 0 0 0))] := hD
  refine lv_aload_n hx hb d_MM_take_55 rfl (lv_at hl 1 rfl) ?_
  refine ax_VC (hpc := 129) (mc := 0) (ms := 0) (rest := []) (wr := [((q 2), .inr (2, [.ref qa, .int 0])), ((q 12), .inl (ca 4, 148, .inr (.inr (.inr (.inr (fun _ => none)))))), (bb_1, .inr (6, bf_2))]) (ax_runVT (ci := 0) (q0 := 0) (k := 0) (As := []) (rest := []) (wr := [((q 2), .inr (2, [.ref qa, .int 0])), ((q 12), .inl (ca 4, 148, .inr (.inr (.inr (.inr (fun _ => none)))))), (bb_1, .inr (6, bf_2))]) rfl hx hb hml hown hts g_wm (mK_bl dC dI ca) (c_MM_readsFileT l dC dI ca h0 q 0 (.ref bb_1) 0 x0 x1 x2 x3 x4 (x5) (x6) x7) xm_245 xm_246 xm_0 xm_247 xm_336 (by decide +kernel) rfl (Nat.le_of_ble_eq_true rfl) (Nat.le_of_ble_eq_true rfl) hl.1 (Nat.le_of_ble_eq_true rfl) (mK_up hK) hK.1 hP hD hS hA rfl rfl [4, 0] [1, 2, 3] rfl (by decide) rfl rfl (by decide) (by decide) (Nat.le_of_ble_eq_true rfl) (Nat.le_of_ble_eq_true rfl) d_MM_take_56) (fun x u T9 locs9 hp hP X9 => ?_) (fun x u H locs hp hP hD hS => ?_)
  · obtain rfl : x = (q 1) := hp
    obtain ⟨cell9, g1, g2, g3⟩ := va_recv hK.1 hP (ci := 1) (q0 := 4) rfl rfl
    exact ax_fnd1 X9 htab (by decide) (by decide) hown (hts _ xm_18) g1 g2 g3
  obtain rfl : x = (q 1) := hp
  have hP : va_P (dC, dI) classes [((q 2), .inr (2, [.ref qa, .int 0])), ((q 12), .inl (ca 4, 148, .inr (.inr (.inr (.inr (fun _ => none)))))), (bb_1, .inr (6, bf_2)), (h0, .inr (0, mF2 q 0 (.ref bb_1) 0 0 0)), ((q 1), .inr (1, [x0, x1, x2, x3, x4, .int 1, .int 0, x7]))] H := hP
  have hD : va_D A [((q 2), .inr (2, [.ref qa, .int 0])), ((q 12), .inl (ca 4, 148, .inr (.inr (.inr (.inr (fun _ => none)))))), (bb_1, .inr (6, bf_2)), (h0, .inr (0, mF2 q 0 (.ref bb_1) 0 0 0)), ((q 1), .inr (1, [x0, x1, x2, x3, x4, .int 1, .int 0, x7]))] := hD
  refine W.widen (k := 20) (n := 181) (Nat.le_of_ble_eq_true rfl) (Nat.le_of_ble_eq_true rfl) ?_
  refine lv_astore_n (lv' := [(2, .ref (q 1)), (1, .int 0), (0, .ref h0)]) hx hb d_MM_take_129 rfl hl (by decide) rfl (fun ls hl => ?_)
  refine lv_aload_n hx hb d_MM_take_130 rfl (lv_at hl 2 rfl) ?_
  refine lv_aload_n hx hb d_MM_take_131 rfl (lv_at hl 2 rfl) ?_
  refine va_get (D := (dC, dI)) (ci := 0) (v := .ref bb_1) (C := R_MM) (T := F_MM) (N := 132) hx hb hts i_MM hown hK.1 hP 3 rfl rfl 14 (by decide) (hts _ xm_87) (fun _ h9 => h9) rfl d_MM_take_132 ?_
  refine ax_V (ci := 0) (q0 := 0) (k := 1) (As := [.ref bb_1]) (rest := []) (wr := [((q 2), .inr (2, [.ref qa, .int 0])), ((q 1), .inr (1, [x0, x1, x2, x3, x4, .int 1, .int 0, x7]))]) rfl hx hb hml hown hts g_wm (mK_bl dC dI ca) (c_MM_gives l dC dI ca h0 q 0 (.ref bb_1) 0 0 bb_1 bf_2) xm_264 xm_265 xm_0 xm_266 xm_335 (by decide +kernel) rfl (Nat.le_of_ble_eq_true rfl) (Nat.le_of_ble_eq_true rfl) hl.1 (Nat.le_of_ble_eq_true rfl) (mK_up hK) hK.1 hP hD hS hA rfl rfl [3, 1, 2] [0, 4] rfl (by decide) rfl rfl (by decide) (by decide) (Nat.le_of_ble_eq_true rfl) (Nat.le_of_ble_eq_true rfl) d_MM_take_135 (fun v _ H locs hp hP hD hS => ?_)
  obtain rfl : v = none := hp
  have hP : va_P (dC, dI) classes [((q 2), .inr (2, [.ref qa, .int 0])), ((q 1), .inr (1, [x0, x1, x2, x3, x4, .int 1, .int 0, x7])), (h0, .inr (0, mF2 q 0 (.ref bb_1) 0 0 1))] H := hP
  have hD : va_D A [((q 2), .inr (2, [.ref qa, .int 0])), ((q 1), .inr (1, [x0, x1, x2, x3, x4, .int 1, .int 0, x7])), (h0, .inr (0, mF2 q 0 (.ref bb_1) 0 0 1))] := hD
  refine W.eq (g2 := F0 m 138 ls []) rfl ?_
  refine lv_iconst (v := (-1)) hx hb d_MM_take_138 (by decide) ?_
  refine lv_aload_n hx hb d_MM_take_139 rfl (lv_at hl 0 rfl) ?_
  refine va_getN (D := (dC, dI)) (ci := 1) (v := .int 1) (C := R_MH) (T := F_MH) (N := 8) hx hb hts i_MH hown hK.1 hP 1 rfl rfl 5 (by decide) (va_Nw.use rfl (hK.2.1 _ zm_1)) (fun _ h9 => h9) rfl d_MM_take_140 ?_
  refine lv_bipush (v := 32) hx hb d_MM_take_143 (by decide +kernel) ?_
  refine lv_aload_n hx hb d_MM_take_145 rfl (lv_at hl 0 rfl) ?_
  refine va_getN (D := (dC, dI)) (ci := 1) (v := .int 0) (C := R_MH) (T := F_MH) (N := 8) hx hb hts i_MH hown hK.1 hP 1 rfl rfl 6 (by decide) (va_Nw.use rfl (hK.2.1 _ zm_2)) (fun _ h9 => h9) rfl d_MM_take_146 ?_
  refine lv_imul hx hb d_MM_take_149 ?_
  refine lv_topi (fun z e9 => ?_)
  obtain rfl : z = 0 := by rw [e9]; decide
  refine lv_iadd hx hb d_MM_take_150 ?_
  refine lv_topi (fun z e9 => ?_)
  obtain rfl : z = 1 := by rw [e9]; decide
  refine lv_isub hx hb d_MM_take_151 ?_
  refine lv_topi (fun z e9 => ?_)
  obtain rfl : z = (-2) := by rw [e9]; decide
  refine lv_istore_n (lv' := [(1, .int (-2)), (2, .ref (q 1)), (0, .ref h0)]) hx hb d_MM_take_152 rfl hl (by decide) rfl (fun ls hl => ?_)
  refine lv_aload_n hx hb d_MM_take_153 rfl (lv_at hl 2 rfl) ?_
  refine va_get (D := (dC, dI)) (ci := 0) (v := .ref (q 2)) (C := R_MM) (T := F_MM) (N := 132) hx hb hts i_MM hown hK.1 hP 2 rfl rfl 2 (by decide) (hts _ xm_75) (fun _ h9 => h9) rfl d_MM_take_154 ?_
  refine lv_iconst (v := 0) hx hb d_MM_take_157 (by decide) ?_
  refine va_putN (D := (dC, dI)) (ci := 2) (v := .int 0) (ty := .int) (C := R_MB) (T := F_MB) (N := 2) hx hb hts i_MB t_MB t_MB_ok n_MB hown hK.1 hP hD hS 0 rfl rfl 1 (by decide) (va_Nw.use rfl (hK.2.1 _ zm_6)) (fun _ h9 => h9) rfl (by decide +kernel) rfl rfl (Nat.le_of_ble_eq_true rfl) d_MM_take_158 (fun H locs hP hD hS => ?_)
  have hP : va_P (dC, dI) classes [((q 2), .inr (2, [.ref qa, .int 0])), ((q 1), .inr (1, [x0, x1, x2, x3, x4, .int 1, .int 0, x7])), (h0, .inr (0, mF2 q 0 (.ref bb_1) 0 0 1))] H := hP
  have hD : va_D A [((q 2), .inr (2, [.ref qa, .int 0])), ((q 1), .inr (1, [x0, x1, x2, x3, x4, .int 1, .int 0, x7])), (h0, .inr (0, mF2 q 0 (.ref bb_1) 0 0 1))] := hD
  refine lv_iload_n hx hb d_MM_take_161 rfl (lv_at hl 0 rfl) ?_
  exact ax_iret hx hb hr hlocks hP hD hS () rfl [] rfl (by decide) rfl (Nat.le_of_ble_eq_true rfl) (Nat.le_of_ble_eq_true rfl) d_MM_take_162
theorem d_MM_judge_0 : decode b_MM_judge 0 = .ok (.aload_n 0, 1) := by decide +kernel
theorem d_MM_judge_1 : decode b_MM_judge 1 = .ok (.iconst 0, 1) := by decide +kernel
theorem d_MM_judge_2 : decode b_MM_judge 2 = .ok (.putfield 343, 3) := by decide +kernel
theorem d_MM_judge_5 : decode b_MM_judge 5 = .ok (.iconst (-1), 1) := by decide +kernel
theorem d_MM_judge_6 : decode b_MM_judge 6 = .ok (.istore_n 2, 1) := by decide +kernel
theorem d_MM_judge_7 : decode b_MM_judge 7 = .ok (.iload_n 1, 1) := by decide +kernel
theorem d_MM_judge_8 : decode b_MM_judge 8 = .ok (.i2l, 1) := by decide +kernel
theorem d_MM_judge_9 : decode b_MM_judge 9 = .ok (.lconst 0, 1) := by decide +kernel
theorem d_MM_judge_10 : decode b_MM_judge 10 = .ok (.aload_n 0, 1) := by decide +kernel
theorem d_MM_judge_11 : decode b_MM_judge 11 = .ok (.getfield 410, 3) := by decide +kernel
theorem d_MM_judge_14 : decode b_MM_judge 14 = .ok (.iconst 1, 1) := by decide +kernel
theorem d_MM_judge_15 : decode b_MM_judge 15 = .ok (.isub, 1) := by decide +kernel
theorem d_MM_judge_16 : decode b_MM_judge 16 = .ok (.i2l, 1) := by decide +kernel
theorem d_MM_judge_17 : decode b_MM_judge 17 = .ok (.invokestatic 349, 3) := by decide +kernel
theorem d_MM_judge_20 : decode b_MM_judge 20 = .ok (.ifCond .eq 44, 3) := by decide +kernel
theorem d_MM_judge_64 : decode b_MM_judge 64 = .ok (.aload_n 0, 1) := by decide +kernel
theorem d_MM_judge_65 : decode b_MM_judge 65 = .ok (.getfield 19, 3) := by decide +kernel
theorem d_MM_judge_68 : decode b_MM_judge 68 = .ok (.iconst 0, 1) := by decide +kernel
theorem d_MM_judge_69 : decode b_MM_judge 69 = .ok (.putfield 353, 3) := by decide +kernel
theorem d_MM_judge_72 : decode b_MM_judge 72 = .ok (.iload_n 2, 1) := by decide +kernel
theorem d_MM_judge_73 : decode b_MM_judge 73 = .ok (.ireturn, 1) := by decide +kernel
set_option maxHeartbeats 4000000 in
set_option maxRecDepth 100000 in
theorem c_MM_judge (l : Launch) (dC : Nat → ClassId) (dI : Nat → Nat → Nat) (ca : Nat → ClassId) (h0 : Nat) (q : Nat → Nat) (th : Int32) (qa : Nat) (f : Int32) : CTw l classes (dC, dI) (mK dC dI ca) wm y_MM_judge b_MM_judge 4 (some (.int)) [(25, 47, 50, 7)] 1 25 0 0 [.ref h0, .int f] [(h0, .inr (0, mF2 q th (.null) 0 0 0)), ((q 2), .inr (2, [.ref qa, .int 0]))] (fun (v : Option Value) (_ : Unit) => v = some (.int (-1))) (fun (_ : Unit) => []) := by
  refine ax_ofw (by decide) (Nat.le_of_ble_eq_true rfl) ?_
  intro p e s m below meth c A ls hAt htab hK hP hD hS hA hl
  obtain ⟨hx, hb, hr, hml, hown, hts, hlocks, hin⟩ := hAt
  have hl : lv_has ls 4 [(0, .ref h0), (1, .int f)] := hl
  refine lv_aload_n hx hb d_MM_judge_0 rfl (lv_at hl 0 rfl) ?_
  refine lv_iconst (v := 0) hx hb d_MM_judge_1 (by decide) ?_
  refine va_put (D := (dC, dI)) (ci := 0) (v := .int 0) (ty := .int) (C := R_MM) (T := F_MM) (N := 132) hx hb hts i_MM t_MM t_MM_ok n_MM hown hK.1 hP hD hS 0 rfl rfl 0 (by decide) (hts _ xm_73) (fun _ h9 => h9) rfl (by decide +kernel) rfl rfl (Nat.le_of_ble_eq_true rfl) d_MM_judge_2 (fun H locs hP hD hS => ?_)
  have hP : va_P (dC, dI) classes [(h0, .inr (0, mF2 q 0 (.null) 0 0 0)), ((q 2), .inr (2, [.ref qa, .int 0]))] H := hP
  have hD : va_D A [(h0, .inr (0, mF2 q 0 (.null) 0 0 0)), ((q 2), .inr (2, [.ref qa, .int 0]))] := hD
  refine lv_iconst (v := (-1)) hx hb d_MM_judge_5 (by decide) ?_
  refine lv_istore_n (lv' := [(2, .int (-1)), (0, .ref h0), (1, .int f)]) hx hb d_MM_judge_6 rfl hl (by decide) rfl (fun ls hl => ?_)
  refine lv_iload_n hx hb d_MM_judge_7 rfl (lv_at hl 2 rfl) ?_
  refine lv_i2l hx hb d_MM_judge_8 rfl ?_
  refine lv_lconst (v := 0) hx hb d_MM_judge_9 (by decide) ?_
  refine lv_aload_n hx hb d_MM_judge_10 rfl (lv_at hl 1 rfl) ?_
  refine va_get (D := (dC, dI)) (ci := 0) (v := .int 0) (C := R_MM) (T := F_MM) (N := 132) hx hb hts i_MM hown hK.1 hP 0 rfl rfl 8 (by decide) (hts _ xm_81) (fun _ h9 => h9) rfl d_MM_judge_11 ?_
  refine lv_iconst (v := 1) hx hb d_MM_judge_14 (by decide) ?_
  refine lv_isub hx hb d_MM_judge_15 ?_
  refine lv_topi (fun z e9 => ?_)
  obtain rfl : z = (-1) := by rw [e9]; decide
  refine lv_i2l (v := (-1)) hx hb d_MM_judge_16 (by decide) ?_
  refine ax_St (k := 3) (As := [.long (f.toInt64), .long 0, .long (-1)]) (rest := []) (wr := [(h0, .inr (0, mF2 q 0 (.null) 0 0 0)), ((q 2), .inr (2, [.ref qa, .int 0]))]) rfl hx hb hml hown hts g_wm (mK_bl dC dI ca) (c_MM_in l dC dI ca f.toInt64 0 (-1)) xm_182 xm_183 xm_0 xm_184 (by decide +kernel) rfl (Nat.le_of_ble_eq_true rfl) (Nat.le_of_ble_eq_true rfl) hl.1 (Nat.le_of_ble_eq_true rfl) (mK_up hK) hP hD hS hA [] [0, 1] rfl (by decide) rfl rfl (by decide) (by decide) (Nat.le_of_ble_eq_true rfl) (Nat.le_of_ble_eq_true rfl) d_MM_judge_17 (fun v _ H locs hp hP hD hS => ?_)
  obtain rfl : v = some (.int 0) := hp.elim (fun h => absurd h.2 in_no) (fun h => h.1)
  have hP : va_P (dC, dI) classes [(h0, .inr (0, mF2 q 0 (.null) 0 0 0)), ((q 2), .inr (2, [.ref qa, .int 0]))] H := hP
  have hD : va_D A [(h0, .inr (0, mF2 q 0 (.null) 0 0 0)), ((q 2), .inr (2, [.ref qa, .int 0]))] := hD
  refine W.eq (g2 := F0 m 20 ls [.int 0]) rfl ?_
  refine lv_if_eq (tgt := 64) hx hb d_MM_judge_20 (by decide) (fun _ => ?_) (fun h => absurd (by decide) h)
  refine lv_aload_n hx hb d_MM_judge_64 rfl (lv_at hl 1 rfl) ?_
  refine va_get (D := (dC, dI)) (ci := 0) (v := .ref (q 2)) (C := R_MM) (T := F_MM) (N := 132) hx hb hts i_MM hown hK.1 hP 0 rfl rfl 2 (by decide) (hts _ xm_75) (fun _ h9 => h9) rfl d_MM_judge_65 ?_
  refine lv_iconst (v := 0) hx hb d_MM_judge_68 (by decide) ?_
  refine va_putN (D := (dC, dI)) (ci := 2) (v := .int 0) (ty := .int) (C := R_MB) (T := F_MB) (N := 2) hx hb hts i_MB t_MB t_MB_ok n_MB hown hK.1 hP hD hS 1 rfl rfl 1 (by decide) (va_Nw.use rfl (hK.2.1 _ zm_6)) (fun _ h9 => h9) rfl (by decide +kernel) rfl rfl (Nat.le_of_ble_eq_true rfl) d_MM_judge_69 (fun H locs hP hD hS => ?_)
  have hP : va_P (dC, dI) classes [(h0, .inr (0, mF2 q 0 (.null) 0 0 0)), ((q 2), .inr (2, [.ref qa, .int 0]))] H := hP
  have hD : va_D A [(h0, .inr (0, mF2 q 0 (.null) 0 0 0)), ((q 2), .inr (2, [.ref qa, .int 0]))] := hD
  refine lv_iload_n hx hb d_MM_judge_72 rfl (lv_at hl 0 rfl) ?_
  exact ax_iret hx hb hr hlocks hP hD hS () rfl [] rfl (by decide) rfl (Nat.le_of_ble_eq_true rfl) (Nat.le_of_ble_eq_true rfl) d_MM_judge_73
theorem d_MM_edit_0 : decode b_MM_edit 0 = .ok (.aload_n 0, 1) := by decide +kernel
theorem d_MM_edit_1 : decode b_MM_edit 1 = .ok (.iconst 0, 1) := by decide +kernel
theorem d_MM_edit_2 : decode b_MM_edit 2 = .ok (.putfield 343, 3) := by decide +kernel
theorem d_MM_edit_5 : decode b_MM_edit 5 = .ok (.iconst (-1), 1) := by decide +kernel
theorem d_MM_edit_6 : decode b_MM_edit 6 = .ok (.istore_n 3, 1) := by decide +kernel
theorem d_MM_edit_7 : decode b_MM_edit 7 = .ok (.iload_n 1, 1) := by decide +kernel
theorem d_MM_edit_8 : decode b_MM_edit 8 = .ok (.i2l, 1) := by decide +kernel
theorem d_MM_edit_9 : decode b_MM_edit 9 = .ok (.lconst 0, 1) := by decide +kernel
theorem d_MM_edit_10 : decode b_MM_edit 10 = .ok (.aload_n 0, 1) := by decide +kernel
theorem d_MM_edit_11 : decode b_MM_edit 11 = .ok (.getfield 410, 3) := by decide +kernel
theorem d_MM_edit_14 : decode b_MM_edit 14 = .ok (.iconst 1, 1) := by decide +kernel
theorem d_MM_edit_15 : decode b_MM_edit 15 = .ok (.isub, 1) := by decide +kernel
theorem d_MM_edit_16 : decode b_MM_edit 16 = .ok (.i2l, 1) := by decide +kernel
theorem d_MM_edit_17 : decode b_MM_edit 17 = .ok (.invokestatic 349, 3) := by decide +kernel
theorem d_MM_edit_20 : decode b_MM_edit 20 = .ok (.ifCond .eq 142, 3) := by decide +kernel
theorem d_MM_edit_162 : decode b_MM_edit 162 = .ok (.aload_n 0, 1) := by decide +kernel
theorem d_MM_edit_163 : decode b_MM_edit 163 = .ok (.getfield 19, 3) := by decide +kernel
theorem d_MM_edit_166 : decode b_MM_edit 166 = .ok (.iconst 0, 1) := by decide +kernel
theorem d_MM_edit_167 : decode b_MM_edit 167 = .ok (.putfield 353, 3) := by decide +kernel
theorem d_MM_edit_170 : decode b_MM_edit 170 = .ok (.iload_n 3, 1) := by decide +kernel
theorem d_MM_edit_171 : decode b_MM_edit 171 = .ok (.ireturn, 1) := by decide +kernel
set_option maxHeartbeats 4000000 in
set_option maxRecDepth 100000 in
theorem c_MM_edit (l : Launch) (dC : Nat → ClassId) (dI : Nat → Nat → Nat) (ca : Nat → ClassId) (h0 : Nat) (q : Nat → Nat) (th : Int32) (qa : Nat) (f : Int32) (g : Int32) : CTw l classes (dC, dI) (mK dC dI ca) wm y_MM_edit b_MM_edit 6 (some (.int)) [(44, 142, 145, 7)] 1 25 0 0 [.ref h0, .int f, .int g] [(h0, .inr (0, mF2 q th (.null) 0 0 0)), ((q 2), .inr (2, [.ref qa, .int 0]))] (fun (v : Option Value) (_ : Unit) => v = some (.int (-1))) (fun (_ : Unit) => []) := by
  refine ax_ofw (by decide) (Nat.le_of_ble_eq_true rfl) ?_
  intro p e s m below meth c A ls hAt htab hK hP hD hS hA hl
  obtain ⟨hx, hb, hr, hml, hown, hts, hlocks, hin⟩ := hAt
  have hl : lv_has ls 6 [(0, .ref h0), (1, .int f), (2, .int g)] := hl
  refine lv_aload_n hx hb d_MM_edit_0 rfl (lv_at hl 0 rfl) ?_
  refine lv_iconst (v := 0) hx hb d_MM_edit_1 (by decide) ?_
  refine va_put (D := (dC, dI)) (ci := 0) (v := .int 0) (ty := .int) (C := R_MM) (T := F_MM) (N := 132) hx hb hts i_MM t_MM t_MM_ok n_MM hown hK.1 hP hD hS 0 rfl rfl 0 (by decide) (hts _ xm_73) (fun _ h9 => h9) rfl (by decide +kernel) rfl rfl (Nat.le_of_ble_eq_true rfl) d_MM_edit_2 (fun H locs hP hD hS => ?_)
  have hP : va_P (dC, dI) classes [(h0, .inr (0, mF2 q 0 (.null) 0 0 0)), ((q 2), .inr (2, [.ref qa, .int 0]))] H := hP
  have hD : va_D A [(h0, .inr (0, mF2 q 0 (.null) 0 0 0)), ((q 2), .inr (2, [.ref qa, .int 0]))] := hD
  refine lv_iconst (v := (-1)) hx hb d_MM_edit_5 (by decide) ?_
  refine lv_istore_n (lv' := [(3, .int (-1)), (0, .ref h0), (1, .int f), (2, .int g)]) hx hb d_MM_edit_6 rfl hl (by decide) rfl (fun ls hl => ?_)
  refine lv_iload_n hx hb d_MM_edit_7 rfl (lv_at hl 2 rfl) ?_
  refine lv_i2l hx hb d_MM_edit_8 rfl ?_
  refine lv_lconst (v := 0) hx hb d_MM_edit_9 (by decide) ?_
  refine lv_aload_n hx hb d_MM_edit_10 rfl (lv_at hl 1 rfl) ?_
  refine va_get (D := (dC, dI)) (ci := 0) (v := .int 0) (C := R_MM) (T := F_MM) (N := 132) hx hb hts i_MM hown hK.1 hP 0 rfl rfl 8 (by decide) (hts _ xm_81) (fun _ h9 => h9) rfl d_MM_edit_11 ?_
  refine lv_iconst (v := 1) hx hb d_MM_edit_14 (by decide) ?_
  refine lv_isub hx hb d_MM_edit_15 ?_
  refine lv_topi (fun z e9 => ?_)
  obtain rfl : z = (-1) := by rw [e9]; decide
  refine lv_i2l (v := (-1)) hx hb d_MM_edit_16 (by decide) ?_
  refine ax_St (k := 3) (As := [.long (f.toInt64), .long 0, .long (-1)]) (rest := []) (wr := [(h0, .inr (0, mF2 q 0 (.null) 0 0 0)), ((q 2), .inr (2, [.ref qa, .int 0]))]) rfl hx hb hml hown hts g_wm (mK_bl dC dI ca) (c_MM_in l dC dI ca f.toInt64 0 (-1)) xm_182 xm_183 xm_0 xm_184 (by decide +kernel) rfl (Nat.le_of_ble_eq_true rfl) (Nat.le_of_ble_eq_true rfl) hl.1 (Nat.le_of_ble_eq_true rfl) (mK_up hK) hP hD hS hA [] [0, 1] rfl (by decide) rfl rfl (by decide) (by decide) (Nat.le_of_ble_eq_true rfl) (Nat.le_of_ble_eq_true rfl) d_MM_edit_17 (fun v _ H locs hp hP hD hS => ?_)
  obtain rfl : v = some (.int 0) := hp.elim (fun h => absurd h.2 in_no) (fun h => h.1)
  have hP : va_P (dC, dI) classes [(h0, .inr (0, mF2 q 0 (.null) 0 0 0)), ((q 2), .inr (2, [.ref qa, .int 0]))] H := hP
  have hD : va_D A [(h0, .inr (0, mF2 q 0 (.null) 0 0 0)), ((q 2), .inr (2, [.ref qa, .int 0]))] := hD
  refine W.eq (g2 := F0 m 20 ls [.int 0]) rfl ?_
  refine lv_if_eq (tgt := 162) hx hb d_MM_edit_20 (by decide) (fun _ => ?_) (fun h => absurd (by decide) h)
  refine lv_aload_n hx hb d_MM_edit_162 rfl (lv_at hl 1 rfl) ?_
  refine va_get (D := (dC, dI)) (ci := 0) (v := .ref (q 2)) (C := R_MM) (T := F_MM) (N := 132) hx hb hts i_MM hown hK.1 hP 0 rfl rfl 2 (by decide) (hts _ xm_75) (fun _ h9 => h9) rfl d_MM_edit_163 ?_
  refine lv_iconst (v := 0) hx hb d_MM_edit_166 (by decide) ?_
  refine va_putN (D := (dC, dI)) (ci := 2) (v := .int 0) (ty := .int) (C := R_MB) (T := F_MB) (N := 2) hx hb hts i_MB t_MB t_MB_ok n_MB hown hK.1 hP hD hS 1 rfl rfl 1 (by decide) (va_Nw.use rfl (hK.2.1 _ zm_6)) (fun _ h9 => h9) rfl (by decide +kernel) rfl rfl (Nat.le_of_ble_eq_true rfl) d_MM_edit_167 (fun H locs hP hD hS => ?_)
  have hP : va_P (dC, dI) classes [(h0, .inr (0, mF2 q 0 (.null) 0 0 0)), ((q 2), .inr (2, [.ref qa, .int 0]))] H := hP
  have hD : va_D A [(h0, .inr (0, mF2 q 0 (.null) 0 0 0)), ((q 2), .inr (2, [.ref qa, .int 0]))] := hD
  refine lv_iload_n hx hb d_MM_edit_170 rfl (lv_at hl 0 rfl) ?_
  exact ax_iret hx hb hr hlocks hP hD hS () rfl [] rfl (by decide) rfl (Nat.le_of_ble_eq_true rfl) (Nat.le_of_ble_eq_true rfl) d_MM_edit_171
