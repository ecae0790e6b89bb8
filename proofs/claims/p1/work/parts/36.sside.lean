/-- what a side tells on which nothing has run -/
def tdV (i : Int32) : Int64 := if i = 0 ∨ i = 1 ∨ i = 2 ∨ i = 3 ∨ i = 4 ∨ i = 5 then 0 else -1
theorem td_out {i : Int32} (h : i.toInt < 0 ∨ 7 < i.toInt) : tdV i = -1 := by
  unfold tdV
  refine if_neg (fun h2 => ?_)
  rcases h2 with rfl | rfl | rfl | rfl | rfl | rfl <;> revert h <;> decide
theorem d_SD_told_0 : decode b_SD_told 0 = .ok (.aload_n 0, 1) := by decide +kernel
theorem d_SD_told_1 : decode b_SD_told 1 = .ok (.getfield 57, 3) := by decide +kernel
theorem d_SD_told_4 : decode b_SD_told 4 = .ok (.iconst 1, 1) := by decide +kernel
theorem d_SD_told_5 : decode b_SD_told 5 = .ok (.if_icmp .ne 14, 3) := by decide +kernel
theorem d_SD_told_19 : decode b_SD_told 19 = .ok (.iconst 0, 1) := by decide +kernel
theorem d_SD_told_20 : decode b_SD_told 20 = .ok (.istore_n 2, 1) := by decide +kernel
theorem d_SD_told_21 : decode b_SD_told 21 = .ok (.iconst 4, 1) := by decide +kernel
theorem d_SD_told_22 : decode b_SD_told 22 = .ok (.aload_n 0, 1) := by decide +kernel
theorem d_SD_told_23 : decode b_SD_told 23 = .ok (.getfield 54, 3) := by decide +kernel
theorem d_SD_told_26 : decode b_SD_told 26 = .ok (.iconst 1, 1) := by decide +kernel
theorem d_SD_told_27 : decode b_SD_told 27 = .ok (.isub, 1) := by decide +kernel
theorem d_SD_told_28 : decode b_SD_told 28 = .ok (.imul, 1) := by decide +kernel
theorem d_SD_told_29 : decode b_SD_told 29 = .ok (.istore_n 3, 1) := by decide +kernel
theorem d_SD_told_30 : decode b_SD_told 30 = .ok (.iload_n 1, 1) := by decide +kernel
theorem d_SD_told_31 : decode b_SD_told 31 = .ok (.tableswitch 117 0 7 #[45, 51, 56, 62, 67, 73, 79, 97], 45) := by decide +kernel
theorem d_SD_told_76 : decode b_SD_told 76 = .ok (.aload_n 0, 1) := by decide +kernel
theorem d_SD_told_77 : decode b_SD_told 77 = .ok (.getfield 57, 3) := by decide +kernel
theorem d_SD_told_80 : decode b_SD_told 80 = .ok (.i2l, 1) := by decide +kernel
theorem d_SD_told_81 : decode b_SD_told 81 = .ok (.lreturn, 1) := by decide +kernel
theorem d_SD_told_82 : decode b_SD_told 82 = .ok (.aload_n 0, 1) := by decide +kernel
theorem d_SD_told_83 : decode b_SD_told 83 = .ok (.getfield 67, 3) := by decide +kernel
theorem d_SD_told_86 : decode b_SD_told 86 = .ok (.lreturn, 1) := by decide +kernel
theorem d_SD_told_87 : decode b_SD_told 87 = .ok (.aload_n 0, 1) := by decide +kernel
theorem d_SD_told_88 : decode b_SD_told 88 = .ok (.getfield 60, 3) := by decide +kernel
theorem d_SD_told_91 : decode b_SD_told 91 = .ok (.i2l, 1) := by decide +kernel
theorem d_SD_told_92 : decode b_SD_told 92 = .ok (.lreturn, 1) := by decide +kernel
theorem d_SD_told_93 : decode b_SD_told 93 = .ok (.aload_n 0, 1) := by decide +kernel
theorem d_SD_told_94 : decode b_SD_told 94 = .ok (.getfield 63, 3) := by decide +kernel
theorem d_SD_told_97 : decode b_SD_told 97 = .ok (.lreturn, 1) := by decide +kernel
theorem d_SD_told_98 : decode b_SD_told 98 = .ok (.aload_n 0, 1) := by decide +kernel
theorem d_SD_told_99 : decode b_SD_told 99 = .ok (.getfield 70, 3) := by decide +kernel
theorem d_SD_told_102 : decode b_SD_told 102 = .ok (.i2l, 1) := by decide +kernel
theorem d_SD_told_103 : decode b_SD_told 103 = .ok (.lreturn, 1) := by decide +kernel
theorem d_SD_told_104 : decode b_SD_told 104 = .ok (.aload_n 0, 1) := by decide +kernel
theorem d_SD_told_105 : decode b_SD_told 105 = .ok (.getfield 54, 3) := by decide +kernel
theorem d_SD_told_108 : decode b_SD_told 108 = .ok (.i2l, 1) := by decide +kernel
theorem d_SD_told_109 : decode b_SD_told 109 = .ok (.lreturn, 1) := by decide +kernel
theorem d_SD_told_110 : decode b_SD_told 110 = .ok (.iload_n 2, 1) := by decide +kernel
theorem d_SD_told_111 : decode b_SD_told 111 = .ok (.ifCond .eq 13, 3) := by decide +kernel
theorem d_SD_told_124 : decode b_SD_told 124 = .ok (.ldc2_w 49, 3) := by decide +kernel
theorem d_SD_told_127 : decode b_SD_told 127 = .ok (.lreturn, 1) := by decide +kernel
theorem d_SD_told_128 : decode b_SD_told 128 = .ok (.iload_n 2, 1) := by decide +kernel
theorem d_SD_told_129 : decode b_SD_told 129 = .ok (.ifCond .eq 15, 3) := by decide +kernel
theorem d_SD_told_144 : decode b_SD_told 144 = .ok (.ldc2_w 49, 3) := by decide +kernel
theorem d_SD_told_147 : decode b_SD_told 147 = .ok (.lreturn, 1) := by decide +kernel
theorem d_SD_told_148 : decode b_SD_told 148 = .ok (.iload_n 2, 1) := by decide +kernel
theorem d_SD_told_149 : decode b_SD_told 149 = .ok (.ifCond .eq 33, 3) := by decide +kernel
theorem d_SD_told_182 : decode b_SD_told 182 = .ok (.ldc2_w 49, 3) := by decide +kernel
theorem d_SD_told_185 : decode b_SD_told 185 = .ok (.lreturn, 1) := by decide +kernel
set_option maxHeartbeats 4000000 in
set_option maxRecDepth 100000 in
theorem c_SD_told (l : Launch) (dC : Nat → ClassId) (dI : Nat → Nat → Nat) (ca : Nat → ClassId) (h0 : Nat) (r : Nat → Nat) (i : Int32) : CT l classes (dC, dI) (sK dC dI ca) sk y_SD_told b_SD_told 4 (some (.long)) 0 0 0 0 [.ref h0, .int i] [(h0, .inr (17, sD r))] (fun (v : Option Value) (_ : Unit) => v = some (.long (tdV i))) (fun (_ : Unit) => [(h0, .inr (17, sD r))]) := by
  refine ax_of (by decide) (Nat.le_of_ble_eq_true rfl) ?_
  intro p e s m below meth c A ls hAt hK hP hD hS hA hl
  obtain ⟨hx, hb, hr, hml, hown, hts, hlocks, hin⟩ := hAt
  have hl : lv_has ls 4 [(0, .ref h0), (1, .int i)] := hl
  refine lv_aload_n hx hb d_SD_told_0 rfl (lv_at hl 0 rfl) ?_
  refine va_get (D := (dC, dI)) (ci := 17) (v := .int 0) (C := R_SD) (T := F_SD) (N := 14) hx hb hts i_SD hown hK.1 hP 0 rfl rfl 9 (by decide) (hts _ xs_147) (fun _ h9 => h9) rfl d_SD_told_1 ?_
  refine lv_iconst (v := 1) hx hb d_SD_told_4 (by decide) ?_
  refine lv_icmp_ne (tgt := 19) hx hb d_SD_told_5 (by decide) (fun _ => ?_) (fun h => absurd h (by decide))
  refine lv_iconst (v := 0) hx hb d_SD_told_19 (by decide) ?_
  refine lv_istore_n (lv' := [(2, .int 0), (0, .ref h0), (1, .int i)]) hx hb d_SD_told_20 rfl hl (by decide) rfl (fun ls hl => ?_)
  refine lv_iconst (v := 4) hx hb d_SD_told_21 (by decide) ?_
  refine lv_aload_n hx hb d_SD_told_22 rfl (lv_at hl 1 rfl) ?_
  refine va_get (D := (dC, dI)) (ci := 17) (v := .int 0) (C := R_SD) (T := F_SD) (N := 14) hx hb hts i_SD hown hK.1 hP 0 rfl rfl 7 (by decide) (hts _ xs_145) (fun _ h9 => h9) rfl d_SD_told_23 ?_
  refine lv_iconst (v := 1) hx hb d_SD_told_26 (by decide) ?_
  refine lv_isub hx hb d_SD_told_27 ?_
  refine lv_topi (fun z e9 => ?_)
  obtain rfl : z = (-1) := by rw [e9]; decide
  refine lv_imul hx hb d_SD_told_28 ?_
  refine lv_topi (fun z e9 => ?_)
  obtain rfl : z = (-4) := by rw [e9]; decide
  refine lv_istore_n (lv' := [(3, .int (-4)), (2, .int 0), (0, .ref h0), (1, .int i)]) hx hb d_SD_told_29 rfl hl (by decide) rfl (fun ls hl => ?_)
  refine lv_iload_n hx hb d_SD_told_30 rfl (lv_at hl 3 rfl) ?_
  rcases sw_7 i with rfl | rfl | rfl | rfl | rfl | rfl | rfl | rfl | c_1
  · have h9 := True.intro
    refine lv_tableIn (tgt := 76) hx hb d_SD_told_31 (by decide) (by decide) rfl (by decide) ?_
    refine lv_aload_n hx hb d_SD_told_76 rfl (lv_at hl 2 rfl) ?_
    refine va_get (D := (dC, dI)) (ci := 17) (v := .int 0) (C := R_SD) (T := F_SD) (N := 14) hx hb hts i_SD hown hK.1 hP 0 rfl rfl 9 (by decide) (hts _ xs_147) (fun _ h9 => h9) rfl d_SD_told_77 ?_
    refine lv_i2l (v := 0) hx hb d_SD_told_80 (by decide) ?_
    exact ax_lret hx hb hr hlocks hP hD hS () rfl [0] rfl (by decide) rfl (Nat.le_of_ble_eq_true rfl) (Nat.le_of_ble_eq_true rfl) d_SD_told_81
  · have h9 := True.intro
    refine lv_tableIn (tgt := 82) hx hb d_SD_told_31 (by decide) (by decide) rfl (by decide) ?_
    refine lv_aload_n hx hb d_SD_told_82 rfl (lv_at hl 2 rfl) ?_
    refine va_get (D := (dC, dI)) (ci := 17) (v := .long 0) (C := R_SD) (T := F_SD) (N := 14) hx hb hts i_SD hown hK.1 hP 0 rfl rfl 12 (by decide) (hts _ xs_151) (fun _ h9 => h9) rfl d_SD_told_83 ?_
    exact ax_lret hx hb hr hlocks hP hD hS () rfl [0] rfl (by decide) rfl (Nat.le_of_ble_eq_true rfl) (Nat.le_of_ble_eq_true rfl) d_SD_told_86
  · have h9 := True.intro
    refine lv_tableIn (tgt := 87) hx hb d_SD_told_31 (by decide) (by decide) rfl (by decide) ?_
    refine lv_aload_n hx hb d_SD_told_87 rfl (lv_at hl 2 rfl) ?_
    refine va_get (D := (dC, dI)) (ci := 17) (v := .int 0) (C := R_SD) (T := F_SD) (N := 14) hx hb hts i_SD hown hK.1 hP 0 rfl rfl 10 (by decide) (hts _ xs_149) (fun _ h9 => h9) rfl d_SD_told_88 ?_
    refine lv_i2l (v := 0) hx hb d_SD_told_91 (by decide) ?_
    exact ax_lret hx hb hr hlocks hP hD hS () rfl [0] rfl (by decide) rfl (Nat.le_of_ble_eq_true rfl) (Nat.le_of_ble_eq_true rfl) d_SD_told_92
  · have h9 := True.intro
    refine lv_tableIn (tgt := 93) hx hb d_SD_told_31 (by decide) (by decide) rfl (by decide) ?_
    refine lv_aload_n hx hb d_SD_told_93 rfl (lv_at hl 2 rfl) ?_
    refine va_get (D := (dC, dI)) (ci := 17) (v := .long 0) (C := R_SD) (T := F_SD) (N := 14) hx hb hts i_SD hown hK.1 hP 0 rfl rfl 11 (by decide) (hts _ xs_150) (fun _ h9 => h9) rfl d_SD_told_94 ?_
    exact ax_lret hx hb hr hlocks hP hD hS () rfl [0] rfl (by decide) rfl (Nat.le_of_ble_eq_true rfl) (Nat.le_of_ble_eq_true rfl) d_SD_told_97
  · have h9 := True.intro
    refine lv_tableIn (tgt := 98) hx hb d_SD_told_31 (by decide) (by decide) rfl (by decide) ?_
    refine lv_aload_n hx hb d_SD_told_98 rfl (lv_at hl 2 rfl) ?_
    refine va_get (D := (dC, dI)) (ci := 17) (v := .int 0) (C := R_SD) (T := F_SD) (N := 14) hx hb hts i_SD hown hK.1 hP 0 rfl rfl 13 (by decide) (hts _ xs_152) (fun _ h9 => h9) rfl d_SD_told_99 ?_
    refine lv_i2l (v := 0) hx hb d_SD_told_102 (by decide) ?_
    exact ax_lret hx hb hr hlocks hP hD hS () rfl [0] rfl (by decide) rfl (Nat.le_of_ble_eq_true rfl) (Nat.le_of_ble_eq_true rfl) d_SD_told_103
  · have h9 := True.intro
    refine lv_tableIn (tgt := 104) hx hb d_SD_told_31 (by decide) (by decide) rfl (by decide) ?_
    refine lv_aload_n hx hb d_SD_told_104 rfl (lv_at hl 2 rfl) ?_
    refine va_get (D := (dC, dI)) (ci := 17) (v := .int 0) (C := R_SD) (T := F_SD) (N := 14) hx hb hts i_SD hown hK.1 hP 0 rfl rfl 7 (by decide) (hts _ xs_145) (fun _ h9 => h9) rfl d_SD_told_105 ?_
    refine lv_i2l (v := 0) hx hb d_SD_told_108 (by decide) ?_
    exact ax_lret hx hb hr hlocks hP hD hS () rfl [0] rfl (by decide) rfl (Nat.le_of_ble_eq_true rfl) (Nat.le_of_ble_eq_true rfl) d_SD_told_109
  · have h9 := True.intro
    refine lv_tableIn (tgt := 110) hx hb d_SD_told_31 (by decide) (by decide) rfl (by decide) ?_
    refine lv_iload_n hx hb d_SD_told_110 rfl (lv_at hl 1 rfl) ?_
    refine lv_if_eq (tgt := 124) hx hb d_SD_told_111 (by decide) (fun _ => ?_) (fun h => absurd (by decide) h)
    refine lv_ldc2 (v := (-1)) hx hb hown (hts _ xs_248) d_SD_told_124 ?_
    exact ax_lret hx hb hr hlocks hP hD hS () rfl [0] rfl (by decide) rfl (Nat.le_of_ble_eq_true rfl) (Nat.le_of_ble_eq_true rfl) d_SD_told_127
  · have h9 := True.intro
    refine lv_tableIn (tgt := 128) hx hb d_SD_told_31 (by decide) (by decide) rfl (by decide) ?_
    refine lv_iload_n hx hb d_SD_told_128 rfl (lv_at hl 1 rfl) ?_
    refine lv_if_eq (tgt := 144) hx hb d_SD_told_129 (by decide) (fun _ => ?_) (fun h => absurd (by decide) h)
    refine lv_ldc2 (v := (-1)) hx hb hown (hts _ xs_248) d_SD_told_144 ?_
    exact ax_lret hx hb hr hlocks hP hD hS () rfl [0] rfl (by decide) rfl (Nat.le_of_ble_eq_true rfl) (Nat.le_of_ble_eq_true rfl) d_SD_told_147
  · have h9 := True.intro
    refine lv_tableOut (tgt := 148) hx hb d_SD_told_31 c_1 (by decide) ?_
    refine lv_iload_n hx hb d_SD_told_148 rfl (lv_at hl 1 rfl) ?_
    refine lv_if_eq (tgt := 182) hx hb d_SD_told_149 (by decide) (fun _ => ?_) (fun h => absurd (by decide) h)
    refine lv_ldc2 (v := (-1)) hx hb hown (hts _ xs_248) d_SD_told_182 ?_
    exact ax_lret hx hb hr hlocks hP hD hS () (by rw [td_out c_1]) [0] rfl (by decide) rfl (Nat.le_of_ble_eq_true rfl) (Nat.le_of_ble_eq_true rfl) d_SD_told_185
theorem d_SS_state_0 : decode b_SS_state 0 = .ok (.iload_n 1, 1) := by decide +kernel
theorem d_SS_state_1 : decode b_SS_state 1 = .ok (.ifCond .lt 18, 3) := by decide +kernel
theorem d_SS_state_4 : decode b_SS_state 4 = .ok (.iload_n 1, 1) := by decide +kernel
theorem d_SS_state_5 : decode b_SS_state 5 = .ok (.iconst 1, 1) := by decide +kernel
theorem d_SS_state_6 : decode b_SS_state 6 = .ok (.if_icmp .gt 13, 3) := by decide +kernel
theorem d_SS_state_9 : decode b_SS_state 9 = .ok (.iload_n 2, 1) := by decide +kernel
theorem d_SS_state_10 : decode b_SS_state 10 = .ok (.ifCond .lt 9, 3) := by decide +kernel
theorem d_SS_state_13 : decode b_SS_state 13 = .ok (.iload_n 2, 1) := by decide +kernel
theorem d_SS_state_14 : decode b_SS_state 14 = .ok (.bipush 8, 2) := by decide +kernel
theorem d_SS_state_16 : decode b_SS_state 16 = .ok (.if_icmp .le 13, 3) := by decide +kernel
theorem d_SS_state_29 : decode b_SS_state 29 = .ok (.aload_n 0, 1) := by decide +kernel
theorem d_SS_state_30 : decode b_SS_state 30 = .ok (.getfield 28, 3) := by decide +kernel
theorem d_SS_state_33 : decode b_SS_state 33 = .ok (.iload_n 1, 1) := by decide +kernel
theorem d_SS_state_34 : decode b_SS_state 34 = .ok (.aaload, 1) := by decide +kernel
theorem d_SS_state_35 : decode b_SS_state 35 = .ok (.iload_n 2, 1) := by decide +kernel
theorem d_SS_state_36 : decode b_SS_state 36 = .ok (.invokevirtual 356, 3) := by decide +kernel
theorem d_SS_state_39 : decode b_SS_state 39 = .ok (.lreturn, 1) := by decide +kernel
set_option maxHeartbeats 4000000 in
set_option maxRecDepth 100000 in
theorem c_SS_state (l : Launch) (dC : Nat → ClassId) (dI : Nat → Nat → Nat) (ca : Nat → ClassId) (h0 : Nat) (q : Nat → Nat) (a b : Nat) (r0 r1 : Nat → Nat) (s0 i : Int32) (hc : (¬ s0 < 0 ∧ ¬ 1 < s0) ∧ (¬ i < 0 ∧ i ≤ 8)) : CT l classes (dC, dI) (sK dC dI ca) sk y_SS_state b_SS_state 3 (some (.long)) 1 23 0 0 [.ref h0, .int s0, .int i] [(h0, .inr (7, sF q 0)), ((q 7), .inl (ca 5, 2, .inr (.inr (.inr (.inr (va_up (va_up (fun _ => none) 0 (some a)) 1 (some b))))))), (a, .inr (17, sD r0)), (b, .inr (17, sD r1))] (fun (v : Option Value) (_ : Unit) => v = some (.long (tdV i))) (fun (_ : Unit) => [(h0, .inr (7, sF q 0))]) := by
  refine ax_of (by decide) (Nat.le_of_ble_eq_true rfl) ?_
  intro p e s m below meth c A ls hAt hK hP hD hS hA hl
  obtain ⟨hx, hb, hr, hml, hown, hts, hlocks, hin⟩ := hAt
  have hl : lv_has ls 3 [(0, .ref h0), (1, .int s0), (2, .int i)] := hl
  refine lv_iload_n hx hb d_SS_state_0 rfl (lv_at hl 1 rfl) ?_
  refine lv_if_lt (tgt := 19) hx hb d_SS_state_1 (by decide) (fun c_1 => ?_) (fun c_1 => ?_)
  · have h9 := True.intro
    exact absurd hc (fun h => h.1.1 c_1)
  · have h9 := True.intro
    refine lv_iload_n hx hb d_SS_state_4 rfl (lv_at hl 1 rfl) ?_
    refine lv_iconst (v := 1) hx hb d_SS_state_5 (by decide) ?_
    refine lv_icmp_gt (tgt := 19) hx hb d_SS_state_6 (by decide) (fun c_2 => ?_) (fun c_2 => ?_)
    · have h9 := True.intro
      exact absurd hc (fun h => h.1.2 c_2)
    · have h9 := True.intro
      refine lv_iload_n hx hb d_SS_state_9 rfl (lv_at hl 2 rfl) ?_
      refine lv_if_lt (tgt := 19) hx hb d_SS_state_10 (by decide) (fun c_3 => ?_) (fun c_3 => ?_)
      · have h9 := True.intro
        exact absurd hc (fun h => h.2.1 c_3)
      · have h9 := True.intro
        refine lv_iload_n hx hb d_SS_state_13 rfl (lv_at hl 2 rfl) ?_
        refine lv_bipush (v := 8) hx hb d_SS_state_14 (by decide +kernel) ?_
        refine lv_icmp_le (tgt := 29) hx hb d_SS_state_16 (by decide) (fun c_4 => ?_) (fun c_4 => ?_)
        · have h9 := True.intro
          refine lv_aload_n hx hb d_SS_state_29 rfl (lv_at hl 0 rfl) ?_
          refine va_get (D := (dC, dI)) (ci := 7) (v := .ref (q 7)) (C := R_SS) (T := F_SS) (N := 18) hx hb hts i_SS hown hK.1 hP 0 rfl rfl 7 (by decide) (hts _ xs_160) (fun _ h9 => h9) rfl d_SS_state_30 ?_
          refine lv_iload_n hx hb d_SS_state_33 rfl (lv_at hl 1 rfl) ?_
          rcases s01 c_1 c_2 with rfl | rfl
          · have h9 := True.intro
            refine va_aldq hx hb hK.1 hP 1 5 rfl rfl (by unfold vp_in; decide) d_SS_state_34 ?_
            refine W.eq (g2 := F0 m 35 ls [.ref a]) rfl ?_
            refine lv_iload_n hx hb d_SS_state_35 rfl (lv_at hl 2 rfl) ?_
            refine ax_V (ci := 17) (q0 := 0) (k := 1) (As := [.int i]) (rest := []) (wr := [(h0, .inr (7, sF q 0)), ((q 7), .inl (ca 5, 2, .inr (.inr (.inr (.inr (va_up (va_up (fun _ => none) 0 (some a)) 1 (some b))))))), (b, .inr (17, sD r1))]) rfl hx hb hml hown hts g_sk (sK_bl dC dI ca) (c_SD_told l dC dI ca a r0 i) xs_314 xs_315 xs_10 xs_317 xs_316 (by decide +kernel) rfl (Nat.le_of_ble_eq_true rfl) (Nat.le_of_ble_eq_true rfl) hl.1 (Nat.le_of_ble_eq_true rfl) (sK_up hK) hK.1 hP hD hS hA rfl rfl [2] [0, 1, 3] rfl (by decide) rfl rfl (by decide) (by decide) (Nat.le_of_ble_eq_true rfl) (Nat.le_of_ble_eq_true rfl) d_SS_state_36 (fun v _ H locs hp hP hD hS => ?_)
            obtain rfl : v = some (.long (tdV i)) := hp
            have hP : va_P (dC, dI) classes [(h0, .inr (7, sF q 0)), ((q 7), .inl (ca 5, 2, .inr (.inr (.inr (.inr (va_up (va_up (fun _ => none) 0 (some a)) 1 (some b))))))), (b, .inr (17, sD r1)), (a, .inr (17, sD r0))] H := hP
            have hD : va_D A [(h0, .inr (7, sF q 0)), ((q 7), .inl (ca 5, 2, .inr (.inr (.inr (.inr (va_up (va_up (fun _ => none) 0 (some a)) 1 (some b))))))), (b, .inr (17, sD r1)), (a, .inr (17, sD r0))] := hD
            refine W.eq (g2 := F0 m 39 ls [.long (tdV i)]) rfl ?_
            exact ax_lret hx hb hr hlocks hP hD hS () rfl [0] rfl (by decide) rfl (Nat.le_of_ble_eq_true rfl) (Nat.le_of_ble_eq_true rfl) d_SS_state_39
          · have h9 := True.intro
            refine va_aldq hx hb hK.1 hP 1 5 rfl rfl (by unfold vp_in; decide) d_SS_state_34 ?_
            refine W.eq (g2 := F0 m 35 ls [.ref b]) rfl ?_
            refine lv_iload_n hx hb d_SS_state_35 rfl (lv_at hl 2 rfl) ?_
            refine ax_V (ci := 17) (q0 := 0) (k := 1) (As := [.int i]) (rest := []) (wr := [(h0, .inr (7, sF q 0)), ((q 7), .inl (ca 5, 2, .inr (.inr (.inr (.inr (va_up (va_up (fun _ => none) 0 (some a)) 1 (some b))))))), (a, .inr (17, sD r0))]) rfl hx hb hml hown hts g_sk (sK_bl dC dI ca) (c_SD_told l dC dI ca b r1 i) xs_314 xs_315 xs_10 xs_317 xs_316 (by decide +kernel) rfl (Nat.le_of_ble_eq_true rfl) (Nat.le_of_ble_eq_true rfl) hl.1 (Nat.le_of_ble_eq_true rfl) (sK_up hK) hK.1 hP hD hS hA rfl rfl [3] [0, 1, 2] rfl (by decide) rfl rfl (by decide) (by decide) (Nat.le_of_ble_eq_true rfl) (Nat.le_of_ble_eq_true rfl) d_SS_state_36 (fun v _ H locs hp hP hD hS => ?_)
            obtain rfl : v = some (.long (tdV i)) := hp
            have hP : va_P (dC, dI) classes [(h0, .inr (7, sF q 0)), ((q 7), .inl (ca 5, 2, .inr (.inr (.inr (.inr (va_up (va_up (fun _ => none) 0 (some a)) 1 (some b))))))), (a, .inr (17, sD r0)), (b, .inr (17, sD r1))] H := hP
            have hD : va_D A [(h0, .inr (7, sF q 0)), ((q 7), .inl (ca 5, 2, .inr (.inr (.inr (.inr (va_up (va_up (fun _ => none) 0 (some a)) 1 (some b))))))), (a, .inr (17, sD r0)), (b, .inr (17, sD r1))] := hD
            refine W.eq (g2 := F0 m 39 ls [.long (tdV i)]) rfl ?_
            exact ax_lret hx hb hr hlocks hP hD hS () rfl [0] rfl (by decide) rfl (Nat.le_of_ble_eq_true rfl) (Nat.le_of_ble_eq_true rfl) d_SS_state_39
        · have h9 := True.intro
          exact absurd hc (fun h => c_4 h.2.2)
theorem d_SS_count_0 : decode b_SS_count 0 = .ok (.iload_n 1, 1) := by decide +kernel
theorem d_SS_count_1 : decode b_SS_count 1 = .ok (.tableswitch 139 0 5 #[39, 44, 49, 59, 69, 74], 39) := by decide +kernel
theorem d_SS_count_40 : decode b_SS_count 40 = .ok (.aload_n 0, 1) := by decide +kernel
theorem d_SS_count_41 : decode b_SS_count 41 = .ok (.getfield 97, 3) := by decide +kernel
theorem d_SS_count_44 : decode b_SS_count 44 = .ok (.ireturn, 1) := by decide +kernel
theorem d_SS_count_45 : decode b_SS_count 45 = .ok (.aload_n 0, 1) := by decide +kernel
theorem d_SS_count_46 : decode b_SS_count 46 = .ok (.getfield 107, 3) := by decide +kernel
theorem d_SS_count_49 : decode b_SS_count 49 = .ok (.ireturn, 1) := by decide +kernel
theorem d_SS_count_50 : decode b_SS_count 50 = .ok (.aload_n 0, 1) := by decide +kernel
theorem d_SS_count_51 : decode b_SS_count 51 = .ok (.getfield 28, 3) := by decide +kernel
theorem d_SS_count_54 : decode b_SS_count 54 = .ok (.iconst 0, 1) := by decide +kernel
theorem d_SS_count_55 : decode b_SS_count 55 = .ok (.aaload, 1) := by decide +kernel
theorem d_SS_count_56 : decode b_SS_count 56 = .ok (.getfield 362, 3) := by decide +kernel
theorem d_SS_count_59 : decode b_SS_count 59 = .ok (.ireturn, 1) := by decide +kernel
theorem d_SS_count_60 : decode b_SS_count 60 = .ok (.aload_n 0, 1) := by decide +kernel
theorem d_SS_count_61 : decode b_SS_count 61 = .ok (.getfield 28, 3) := by decide +kernel
theorem d_SS_count_64 : decode b_SS_count 64 = .ok (.iconst 1, 1) := by decide +kernel
theorem d_SS_count_65 : decode b_SS_count 65 = .ok (.aaload, 1) := by decide +kernel
theorem d_SS_count_66 : decode b_SS_count 66 = .ok (.getfield 362, 3) := by decide +kernel
theorem d_SS_count_69 : decode b_SS_count 69 = .ok (.ireturn, 1) := by decide +kernel
theorem d_SS_count_70 : decode b_SS_count 70 = .ok (.aload_n 0, 1) := by decide +kernel
theorem d_SS_count_71 : decode b_SS_count 71 = .ok (.getfield 337, 3) := by decide +kernel
theorem d_SS_count_74 : decode b_SS_count 74 = .ok (.ireturn, 1) := by decide +kernel
theorem d_SS_count_75 : decode b_SS_count 75 = .ok (.iconst 0, 1) := by decide +kernel
theorem d_SS_count_76 : decode b_SS_count 76 = .ok (.istore_n 2, 1) := by decide +kernel
theorem d_SS_count_77 : decode b_SS_count 77 = .ok (.iconst 0, 1) := by decide +kernel
theorem d_SS_count_78 : decode b_SS_count 78 = .ok (.istore_n 3, 1) := by decide +kernel
theorem d_SS_count_79 : decode b_SS_count 79 = .ok (.iload_n 3, 1) := by decide +kernel
theorem d_SS_count_80 : decode b_SS_count 80 = .ok (.aload_n 0, 1) := by decide +kernel
theorem d_SS_count_81 : decode b_SS_count 81 = .ok (.getfield 107, 3) := by decide +kernel
theorem d_SS_count_84 : decode b_SS_count 84 = .ok (.if_icmp .ge 54, 3) := by decide +kernel
theorem d_SS_count_138 : decode b_SS_count 138 = .ok (.iload_n 2, 1) := by decide +kernel
theorem d_SS_count_139 : decode b_SS_count 139 = .ok (.ireturn, 1) := by decide +kernel
theorem d_SS_count_140 : decode b_SS_count 140 = .ok (.iconst (-1), 1) := by decide +kernel
theorem d_SS_count_141 : decode b_SS_count 141 = .ok (.ireturn, 1) := by decide +kernel
set_option maxHeartbeats 4000000 in
set_option maxRecDepth 100000 in
theorem c_SS_count (l : Launch) (dC : Nat → ClassId) (dI : Nat → Nat → Nat) (ca : Nat → ClassId) (h0 : Nat) (q : Nat → Nat) (a b : Nat) (r0 r1 : Nat → Nat) (i : Int32) : CT l classes (dC, dI) (sK dC dI ca) sk y_SS_count b_SS_count 4 (some (.int)) 0 0 0 0 [.ref h0, .int i] [(h0, .inr (7, sF q 0)), ((q 7), .inl (ca 5, 2, .inr (.inr (.inr (.inr (va_up (va_up (fun _ => none) 0 (some a)) 1 (some b))))))), (a, .inr (17, sD r0)), (b, .inr (17, sD r1))] (fun (v : Option Value) (_ : Unit) => v = some (.int (cnV i))) (fun (_ : Unit) => [(h0, .inr (7, sF q 0))]) := by
  refine ax_of (by decide) (Nat.le_of_ble_eq_true rfl) ?_
  intro p e s m below meth c A ls hAt hK hP hD hS hA hl
  obtain ⟨hx, hb, hr, hml, hown, hts, hlocks, hin⟩ := hAt
  have hl : lv_has ls 4 [(0, .ref h0), (1, .int i)] := hl
  refine lv_iload_n hx hb d_SS_count_0 rfl (lv_at hl 1 rfl) ?_
  rcases sw_5 i with rfl | rfl | rfl | rfl | rfl | rfl | c_1
  · have h9 := True.intro
    refine lv_tableIn (tgt := 40) hx hb d_SS_count_1 (by decide) (by decide) rfl (by decide) ?_
    refine lv_aload_n hx hb d_SS_count_40 rfl (lv_at hl 0 rfl) ?_
    refine va_get (D := (dC, dI)) (ci := 7) (v := .int 0) (C := R_SS) (T := F_SS) (N := 18) hx hb hts i_SS hown hK.1 hP 0 rfl rfl 1 (by decide) (hts _ xs_154) (fun _ h9 => h9) rfl d_SS_count_41 ?_
    exact ax_iret hx hb hr hlocks hP hD hS () rfl [0] rfl (by decide) rfl (Nat.le_of_ble_eq_true rfl) (Nat.le_of_ble_eq_true rfl) d_SS_count_44
  · have h9 := True.intro
    refine lv_tableIn (tgt := 45) hx hb d_SS_count_1 (by decide) (by decide) rfl (by decide) ?_
    refine lv_aload_n hx hb d_SS_count_45 rfl (lv_at hl 0 rfl) ?_
    refine va_get (D := (dC, dI)) (ci := 7) (v := .int 0) (C := R_SS) (T := F_SS) (N := 18) hx hb hts i_SS hown hK.1 hP 0 rfl rfl 3 (by decide) (hts _ xs_156) (fun _ h9 => h9) rfl d_SS_count_46 ?_
    exact ax_iret hx hb hr hlocks hP hD hS () rfl [0] rfl (by decide) rfl (Nat.le_of_ble_eq_true rfl) (Nat.le_of_ble_eq_true rfl) d_SS_count_49
  · have h9 := True.intro
    refine lv_tableIn (tgt := 50) hx hb d_SS_count_1 (by decide) (by decide) rfl (by decide) ?_
    refine lv_aload_n hx hb d_SS_count_50 rfl (lv_at hl 0 rfl) ?_
    refine va_get (D := (dC, dI)) (ci := 7) (v := .ref (q 7)) (C := R_SS) (T := F_SS) (N := 18) hx hb hts i_SS hown hK.1 hP 0 rfl rfl 7 (by decide) (hts _ xs_160) (fun _ h9 => h9) rfl d_SS_count_51 ?_
    refine lv_iconst (v := 0) hx hb d_SS_count_54 (by decide) ?_
    refine va_aldq hx hb hK.1 hP 1 5 rfl rfl (by unfold vp_in; decide) d_SS_count_55 ?_
    refine W.eq (g2 := F0 m 56 ls [.ref a]) rfl ?_
    refine va_get (D := (dC, dI)) (ci := 17) (v := .int 0) (C := R_SD) (T := F_SD) (N := 14) hx hb hts i_SD hown hK.1 hP 2 rfl rfl 3 (by decide) (hts _ xs_141) (fun _ h9 => h9) rfl d_SS_count_56 ?_
    exact ax_iret hx hb hr hlocks hP hD hS () rfl [0] rfl (by decide) rfl (Nat.le_of_ble_eq_true rfl) (Nat.le_of_ble_eq_true rfl) d_SS_count_59
  · have h9 := True.intro
    refine lv_tableIn (tgt := 60) hx hb d_SS_count_1 (by decide) (by decide) rfl (by decide) ?_
    refine lv_aload_n hx hb d_SS_count_60 rfl (lv_at hl 0 rfl) ?_
    refine va_get (D := (dC, dI)) (ci := 7) (v := .ref (q 7)) (C := R_SS) (T := F_SS) (N := 18) hx hb hts i_SS hown hK.1 hP 0 rfl rfl 7 (by decide) (hts _ xs_160) (fun _ h9 => h9) rfl d_SS_count_61 ?_
    refine lv_iconst (v := 1) hx hb d_SS_count_64 (by decide) ?_
    refine va_aldq hx hb hK.1 hP 1 5 rfl rfl (by unfold vp_in; decide) d_SS_count_65 ?_
    refine W.eq (g2 := F0 m 66 ls [.ref b]) rfl ?_
    refine va_get (D := (dC, dI)) (ci := 17) (v := .int 0) (C := R_SD) (T := F_SD) (N := 14) hx hb hts i_SD hown hK.1 hP 3 rfl rfl 3 (by decide) (hts _ xs_141) (fun _ h9 => h9) rfl d_SS_count_66 ?_
    exact ax_iret hx hb hr hlocks hP hD hS () rfl [0] rfl (by decide) rfl (Nat.le_of_ble_eq_true rfl) (Nat.le_of_ble_eq_true rfl) d_SS_count_69
  · have h9 := True.intro
    refine lv_tableIn (tgt := 70) hx hb d_SS_count_1 (by decide) (by decide) rfl (by decide) ?_
    refine lv_aload_n hx hb d_SS_count_70 rfl (lv_at hl 0 rfl) ?_
    refine va_get (D := (dC, dI)) (ci := 7) (v := .int 0) (C := R_SS) (T := F_SS) (N := 18) hx hb hts i_SS hown hK.1 hP 0 rfl rfl 6 (by decide) (hts _ xs_159) (fun _ h9 => h9) rfl d_SS_count_71 ?_
    exact ax_iret hx hb hr hlocks hP hD hS () rfl [0] rfl (by decide) rfl (Nat.le_of_ble_eq_true rfl) (Nat.le_of_ble_eq_true rfl) d_SS_count_74
  · have h9 := True.intro
    refine lv_tableIn (tgt := 75) hx hb d_SS_count_1 (by decide) (by decide) rfl (by decide) ?_
    refine lv_iconst (v := 0) hx hb d_SS_count_75 (by decide) ?_
    refine lv_istore_n (lv' := [(2, .int 0), (0, .ref h0), (1, .int 5)]) hx hb d_SS_count_76 rfl hl (by decide) rfl (fun ls hl => ?_)
    refine lv_iconst (v := 0) hx hb d_SS_count_77 (by decide) ?_
    refine lv_istore_n (lv' := [(3, .int 0), (2, .int 0), (0, .ref h0), (1, .int 5)]) hx hb d_SS_count_78 rfl hl (by decide) rfl (fun ls hl => ?_)
    refine lv_iload_n hx hb d_SS_count_79 rfl (lv_at hl 0 rfl) ?_
    refine lv_aload_n hx hb d_SS_count_80 rfl (lv_at hl 2 rfl) ?_
    refine va_get (D := (dC, dI)) (ci := 7) (v := .int 0) (C := R_SS) (T := F_SS) (N := 18) hx hb hts i_SS hown hK.1 hP 0 rfl rfl 3 (by decide) (hts _ xs_156) (fun _ h9 => h9) rfl d_SS_count_81 ?_
    refine lv_icmp_ge (tgt := 138) hx hb d_SS_count_84 (by decide) (fun _ => ?_) (fun h => absurd (by decide) h)
    refine lv_iload_n hx hb d_SS_count_138 rfl (lv_at hl 1 rfl) ?_
    exact ax_iret hx hb hr hlocks hP hD hS () rfl [0] rfl (by decide) rfl (Nat.le_of_ble_eq_true rfl) (Nat.le_of_ble_eq_true rfl) d_SS_count_139
  · have h9 := True.intro
    refine lv_tableOut (tgt := 140) hx hb d_SS_count_1 c_1 (by decide) ?_
    refine lv_iconst (v := (-1)) hx hb d_SS_count_140 (by decide) ?_
    exact ax_iret hx hb hr hlocks hP hD hS () (by rw [cn_out c_1]) [0] rfl (by decide) rfl (Nat.le_of_ble_eq_true rfl) (Nat.le_of_ble_eq_true rfl) d_SS_count_141
theorem d_SD_beginAnew_0 : decode b_SD_beginAnew 0 = .ok (.aload_n 0, 1) := by decide +kernel
theorem d_SD_beginAnew_1 : decode b_SD_beginAnew 1 = .ok (.iload_n 2, 1) := by decide +kernel
theorem d_SD_beginAnew_2 : decode b_SD_beginAnew 2 = .ok (.putfield 36, 3) := by decide +kernel
theorem d_SD_beginAnew_5 : decode b_SD_beginAnew 5 = .ok (.iconst 0, 1) := by decide +kernel
theorem d_SD_beginAnew_6 : decode b_SD_beginAnew 6 = .ok (.istore_n 3, 1) := by decide +kernel
theorem d_SD_beginAnew_7 : decode b_SD_beginAnew 7 = .ok (.iload_n 3, 1) := by decide +kernel
theorem d_SD_beginAnew_8 : decode b_SD_beginAnew 8 = .ok (.iload_n 2, 1) := by decide +kernel
theorem d_SD_beginAnew_9 : decode b_SD_beginAnew 9 = .ok (.if_icmp .ge 109, 3) := by decide +kernel
theorem d_SD_beginAnew_118 : decode b_SD_beginAnew 118 = .ok (.aload_n 0, 1) := by decide +kernel
theorem d_SD_beginAnew_119 : decode b_SD_beginAnew 119 = .ok (.iconst 0, 1) := by decide +kernel
theorem d_SD_beginAnew_120 : decode b_SD_beginAnew 120 = .ok (.putfield 51, 3) := by decide +kernel
theorem d_SD_beginAnew_123 : decode b_SD_beginAnew 123 = .ok (.aload_n 0, 1) := by decide +kernel
theorem d_SD_beginAnew_124 : decode b_SD_beginAnew 124 = .ok (.iconst 0, 1) := by decide +kernel
theorem d_SD_beginAnew_125 : decode b_SD_beginAnew 125 = .ok (.putfield 54, 3) := by decide +kernel
theorem d_SD_beginAnew_128 : decode b_SD_beginAnew 128 = .ok (.aload_n 0, 1) := by decide +kernel
theorem d_SD_beginAnew_129 : decode b_SD_beginAnew 129 = .ok (.iconst 0, 1) := by decide +kernel
theorem d_SD_beginAnew_130 : decode b_SD_beginAnew 130 = .ok (.putfield 57, 3) := by decide +kernel
theorem d_SD_beginAnew_133 : decode b_SD_beginAnew 133 = .ok (.aload_n 0, 1) := by decide +kernel
theorem d_SD_beginAnew_134 : decode b_SD_beginAnew 134 = .ok (.iconst 0, 1) := by decide +kernel
theorem d_SD_beginAnew_135 : decode b_SD_beginAnew 135 = .ok (.putfield 60, 3) := by decide +kernel
theorem d_SD_beginAnew_138 : decode b_SD_beginAnew 138 = .ok (.aload_n 0, 1) := by decide +kernel
theorem d_SD_beginAnew_139 : decode b_SD_beginAnew 139 = .ok (.lconst 0, 1) := by decide +kernel
theorem d_SD_beginAnew_140 : decode b_SD_beginAnew 140 = .ok (.putfield 63, 3) := by decide +kernel
theorem d_SD_beginAnew_143 : decode b_SD_beginAnew 143 = .ok (.aload_n 0, 1) := by decide +kernel
theorem d_SD_beginAnew_144 : decode b_SD_beginAnew 144 = .ok (.lconst 0, 1) := by decide +kernel
theorem d_SD_beginAnew_145 : decode b_SD_beginAnew 145 = .ok (.putfield 67, 3) := by decide +kernel
theorem d_SD_beginAnew_148 : decode b_SD_beginAnew 148 = .ok (.aload_n 0, 1) := by decide +kernel
theorem d_SD_beginAnew_149 : decode b_SD_beginAnew 149 = .ok (.iconst 0, 1) := by decide +kernel
theorem d_SD_beginAnew_150 : decode b_SD_beginAnew 150 = .ok (.putfield 70, 3) := by decide +kernel
theorem d_SD_beginAnew_153 : decode b_SD_beginAnew 153 = .ok (.return_, 1) := by decide +kernel
set_option maxHeartbeats 4000000 in
set_option maxRecDepth 100000 in
theorem c_SD_beginAnew (l : Launch) (dC : Nat → ClassId) (dI : Nat → Nat → Nat) (ca : Nat → ClassId) (h0 : Nat) (r : Nat → Nat) (x0 : Nat) : CT l classes (dC, dI) (sK dC dI ca) sk y_SD_beginAnew b_SD_beginAnew 7 none 0 0 0 0 [.ref h0, .ref x0, .int 0] [(h0, .inr (17, sD r))] (fun (v : Option Value) (_ : Unit) => v = none) (fun (_ : Unit) => [(h0, .inr (17, sD r))]) := by
  refine ax_of (by decide) (Nat.le_of_ble_eq_true rfl) ?_
  intro p e s m below meth c A ls hAt hK hP hD hS hA hl
  obtain ⟨hx, hb, hr, hml, hown, hts, hlocks, hin⟩ := hAt
  have hl : lv_has ls 7 [(0, .ref h0), (1, .ref x0), (2, .int 0)] := hl
  refine lv_aload_n hx hb d_SD_beginAnew_0 rfl (lv_at hl 0 rfl) ?_
  refine lv_iload_n hx hb d_SD_beginAnew_1 rfl (lv_at hl 2 rfl) ?_
  refine va_put (D := (dC, dI)) (ci := 17) (v := .int 0) (ty := .int) (C := R_SD) (T := F_SD) (N := 14) hx hb hts i_SD t_SD t_SD_ok n_SD hown hK.1 hP hD hS 0 rfl rfl 1 (by decide) (hts _ xs_138) (fun _ h9 => h9) rfl (by decide +kernel) rfl rfl (Nat.le_of_ble_eq_true rfl) d_SD_beginAnew_2 (fun H locs hP hD hS => ?_)
  have hP : va_P (dC, dI) classes [(h0, .inr (17, sD r))] H := hP
  have hD : va_D A [(h0, .inr (17, sD r))] := hD
  refine lv_iconst (v := 0) hx hb d_SD_beginAnew_5 (by decide) ?_
  refine lv_istore_n (lv' := [(3, .int 0), (0, .ref h0), (1, .ref x0), (2, .int 0)]) hx hb d_SD_beginAnew_6 rfl hl (by decide) rfl (fun ls hl => ?_)
  refine lv_iload_n hx hb d_SD_beginAnew_7 rfl (lv_at hl 0 rfl) ?_
  refine lv_iload_n hx hb d_SD_beginAnew_8 rfl (lv_at hl 3 rfl) ?_
  refine lv_icmp_ge (tgt := 118) hx hb d_SD_beginAnew_9 (by decide) (fun _ => ?_) (fun h => absurd (by decide) h)
  refine lv_aload_n hx hb d_SD_beginAnew_118 rfl (lv_at hl 1 rfl) ?_
  refine lv_iconst (v := 0) hx hb d_SD_beginAnew_119 (by decide) ?_
  refine va_put (D := (dC, dI)) (ci := 17) (v := .int 0) (ty := .int) (C := R_SD) (T := F_SD) (N := 14) hx hb hts i_SD t_SD t_SD_ok n_SD hown hK.1 hP hD hS 0 rfl rfl 3 (by decide) (hts _ xs_140) (fun _ h9 => h9) rfl (by decide +kernel) rfl rfl (Nat.le_of_ble_eq_true rfl) d_SD_beginAnew_120 (fun H locs hP hD hS => ?_)
  have hP : va_P (dC, dI) classes [(h0, .inr (17, sD r))] H := hP
  have hD : va_D A [(h0, .inr (17, sD r))] := hD
  refine lv_aload_n hx hb d_SD_beginAnew_123 rfl (lv_at hl 1 rfl) ?_
  refine lv_iconst (v := 0) hx hb d_SD_beginAnew_124 (by decide) ?_
  refine va_put (D := (dC, dI)) (ci := 17) (v := .int 0) (ty := .int) (C := R_SD) (T := F_SD) (N := 14) hx hb hts i_SD t_SD t_SD_ok n_SD hown hK.1 hP hD hS 0 rfl rfl 7 (by decide) (hts _ xs_145) (fun _ h9 => h9) rfl (by decide +kernel) rfl rfl (Nat.le_of_ble_eq_true rfl) d_SD_beginAnew_125 (fun H locs hP hD hS => ?_)
  have hP : va_P (dC, dI) classes [(h0, .inr (17, sD r))] H := hP
  have hD : va_D A [(h0, .inr (17, sD r))] := hD
  refine lv_aload_n hx hb d_SD_beginAnew_128 rfl (lv_at hl 1 rfl) ?_
  refine lv_iconst (v := 0) hx hb d_SD_beginAnew_129 (by decide) ?_
  refine va_put (D := (dC, dI)) (ci := 17) (v := .int 0) (ty := .int) (C := R_SD) (T := F_SD) (N := 14) hx hb hts i_SD t_SD t_SD_ok n_SD hown hK.1 hP hD hS 0 rfl rfl 9 (by decide) (hts _ xs_147) (fun _ h9 => h9) rfl (by decide +kernel) rfl rfl (Nat.le_of_ble_eq_true rfl) d_SD_beginAnew_130 (fun H locs hP hD hS => ?_)
  have hP : va_P (dC, dI) classes [(h0, .inr (17, sD r))] H := hP
  have hD : va_D A [(h0, .inr (17, sD r))] := hD
  refine lv_aload_n hx hb d_SD_beginAnew_133 rfl (lv_at hl 1 rfl) ?_
  refine lv_iconst (v := 0) hx hb d_SD_beginAnew_134 (by decide) ?_
  refine va_put (D := (dC, dI)) (ci := 17) (v := .int 0) (ty := .int) (C := R_SD) (T := F_SD) (N := 14) hx hb hts i_SD t_SD t_SD_ok n_SD hown hK.1 hP hD hS 0 rfl rfl 10 (by decide) (hts _ xs_149) (fun _ h9 => h9) rfl (by decide +kernel) rfl rfl (Nat.le_of_ble_eq_true rfl) d_SD_beginAnew_135 (fun H locs hP hD hS => ?_)
  have hP : va_P (dC, dI) classes [(h0, .inr (17, sD r))] H := hP
  have hD : va_D A [(h0, .inr (17, sD r))] := hD
  refine lv_aload_n hx hb d_SD_beginAnew_138 rfl (lv_at hl 1 rfl) ?_
  refine lv_lconst (v := 0) hx hb d_SD_beginAnew_139 (by decide) ?_
  refine va_put (D := (dC, dI)) (ci := 17) (v := .long 0) (ty := .long) (C := R_SD) (T := F_SD) (N := 14) hx hb hts i_SD t_SD t_SD_ok n_SD hown hK.1 hP hD hS 0 rfl rfl 11 (by decide) (hts _ xs_150) (fun _ h9 => h9) rfl (by decide +kernel) rfl rfl (Nat.le_of_ble_eq_true rfl) d_SD_beginAnew_140 (fun H locs hP hD hS => ?_)
  have hP : va_P (dC, dI) classes [(h0, .inr (17, sD r))] H := hP
  have hD : va_D A [(h0, .inr (17, sD r))] := hD
  refine lv_aload_n hx hb d_SD_beginAnew_143 rfl (lv_at hl 1 rfl) ?_
  refine lv_lconst (v := 0) hx hb d_SD_beginAnew_144 (by decide) ?_
  refine va_put (D := (dC, dI)) (ci := 17) (v := .long 0) (ty := .long) (C := R_SD) (T := F_SD) (N := 14) hx hb hts i_SD t_SD t_SD_ok n_SD hown hK.1 hP hD hS 0 rfl rfl 12 (by decide) (hts _ xs_151) (fun _ h9 => h9) rfl (by decide +kernel) rfl rfl (Nat.le_of_ble_eq_true rfl) d_SD_beginAnew_145 (fun H locs hP hD hS => ?_)
  have hP : va_P (dC, dI) classes [(h0, .inr (17, sD r))] H := hP
  have hD : va_D A [(h0, .inr (17, sD r))] := hD
  refine lv_aload_n hx hb d_SD_beginAnew_148 rfl (lv_at hl 1 rfl) ?_
  refine lv_iconst (v := 0) hx hb d_SD_beginAnew_149 (by decide) ?_
  refine va_put (D := (dC, dI)) (ci := 17) (v := .int 0) (ty := .int) (C := R_SD) (T := F_SD) (N := 14) hx hb hts i_SD t_SD t_SD_ok n_SD hown hK.1 hP hD hS 0 rfl rfl 13 (by decide) (hts _ xs_152) (fun _ h9 => h9) rfl (by decide +kernel) rfl rfl (Nat.le_of_ble_eq_true rfl) d_SD_beginAnew_150 (fun H locs hP hD hS => ?_)
  have hP : va_P (dC, dI) classes [(h0, .inr (17, sD r))] H := hP
  have hD : va_D A [(h0, .inr (17, sD r))] := hD
  exact ax_vret hx hb hr hlocks hP hD hS () rfl [0] rfl (by decide) rfl (Nat.le_of_ble_eq_true rfl) (Nat.le_of_ble_eq_true rfl) d_SD_beginAnew_153
theorem d_SS_beginAnew_0 : decode b_SS_beginAnew 0 = .ok (.aload_n 0, 1) := by decide +kernel
theorem d_SS_beginAnew_1 : decode b_SS_beginAnew 1 = .ok (.getfield 28, 3) := by decide +kernel
theorem d_SS_beginAnew_4 : decode b_SS_beginAnew 4 = .ok (.iconst 0, 1) := by decide +kernel
theorem d_SS_beginAnew_5 : decode b_SS_beginAnew 5 = .ok (.aaload, 1) := by decide +kernel
theorem d_SS_beginAnew_6 : decode b_SS_beginAnew 6 = .ok (.aload_n 0, 1) := by decide +kernel
theorem d_SS_beginAnew_7 : decode b_SS_beginAnew 7 = .ok (.getfield 15, 3) := by decide +kernel
theorem d_SS_beginAnew_10 : decode b_SS_beginAnew 10 = .ok (.aload_n 0, 1) := by decide +kernel
theorem d_SS_beginAnew_11 : decode b_SS_beginAnew 11 = .ok (.getfield 107, 3) := by decide +kernel
theorem d_SS_beginAnew_14 : decode b_SS_beginAnew 14 = .ok (.invokevirtual 374, 3) := by decide +kernel
theorem d_SS_beginAnew_17 : decode b_SS_beginAnew 17 = .ok (.aload_n 0, 1) := by decide +kernel
theorem d_SS_beginAnew_18 : decode b_SS_beginAnew 18 = .ok (.getfield 28, 3) := by decide +kernel
theorem d_SS_beginAnew_21 : decode b_SS_beginAnew 21 = .ok (.iconst 1, 1) := by decide +kernel
theorem d_SS_beginAnew_22 : decode b_SS_beginAnew 22 = .ok (.aaload, 1) := by decide +kernel
theorem d_SS_beginAnew_23 : decode b_SS_beginAnew 23 = .ok (.aload_n 0, 1) := by decide +kernel
theorem d_SS_beginAnew_24 : decode b_SS_beginAnew 24 = .ok (.getfield 15, 3) := by decide +kernel
theorem d_SS_beginAnew_27 : decode b_SS_beginAnew 27 = .ok (.aload_n 0, 1) := by decide +kernel
theorem d_SS_beginAnew_28 : decode b_SS_beginAnew 28 = .ok (.getfield 107, 3) := by decide +kernel
theorem d_SS_beginAnew_31 : decode b_SS_beginAnew 31 = .ok (.invokevirtual 374, 3) := by decide +kernel
theorem d_SS_beginAnew_34 : decode b_SS_beginAnew 34 = .ok (.return_, 1) := by decide +kernel
set_option maxHeartbeats 4000000 in
set_option maxRecDepth 100000 in
theorem c_SS_beginAnew (l : Launch) (dC : Nat → ClassId) (dI : Nat → Nat → Nat) (ca : Nat → ClassId) (h0 : Nat) (q : Nat → Nat) (a b : Nat) (r0 r1 : Nat → Nat) : CT l classes (dC, dI) (sK dC dI ca) sk y_SS_beginAnew b_SS_beginAnew 1 none 1 26 0 0 [.ref h0] [(h0, .inr (7, sF q 0)), ((q 7), .inl (ca 5, 2, .inr (.inr (.inr (.inr (va_up (va_up (fun _ => none) 0 (some a)) 1 (some b))))))), (a, .inr (17, sD r0)), (b, .inr (17, sD r1))] (fun (v : Option Value) (_ : Unit) => v = none) (fun (_ : Unit) => [(h0, .inr (7, sF q 0))]) := by
  refine ax_of (by decide) (Nat.le_of_ble_eq_true rfl) ?_
  intro p e s m below meth c A ls hAt hK hP hD hS hA hl
  obtain ⟨hx, hb, hr, hml, hown, hts, hlocks, hin⟩ := hAt
  have hl : lv_has ls 1 [(0, .ref h0)] := hl
  refine lv_aload_n hx hb d_SS_beginAnew_0 rfl (lv_at hl 0 rfl) ?_
  refine va_get (D := (dC, dI)) (ci := 7) (v := .ref (q 7)) (C := R_SS) (T := F_SS) (N := 18) hx hb hts i_SS hown hK.1 hP 0 rfl rfl 7 (by decide) (hts _ xs_160) (fun _ h9 => h9) rfl d_SS_beginAnew_1 ?_
  refine lv_iconst (v := 0) hx hb d_SS_beginAnew_4 (by decide) ?_
  refine va_aldq hx hb hK.1 hP 1 5 rfl rfl (by unfold vp_in; decide) d_SS_beginAnew_5 ?_
  refine W.eq (g2 := F0 m 6 ls [.ref a]) rfl ?_
  refine lv_aload_n hx hb d_SS_beginAnew_6 rfl (lv_at hl 0 rfl) ?_
  refine va_get (D := (dC, dI)) (ci := 7) (v := .ref (q 2)) (C := R_SS) (T := F_SS) (N := 18) hx hb hts i_SS hown hK.1 hP 0 rfl rfl 2 (by decide) (hts _ xs_155) (fun _ h9 => h9) rfl d_SS_beginAnew_7 ?_
  refine lv_aload_n hx hb d_SS_beginAnew_10 rfl (lv_at hl 0 rfl) ?_
  refine va_get (D := (dC, dI)) (ci := 7) (v := .int 0) (C := R_SS) (T := F_SS) (N := 18) hx hb hts i_SS hown hK.1 hP 0 rfl rfl 3 (by decide) (hts _ xs_156) (fun _ h9 => h9) rfl d_SS_beginAnew_11 ?_
  refine ax_V (ci := 17) (q0 := 0) (k := 2) (As := [.ref (q 2), .int 0]) (rest := []) (wr := [(h0, .inr (7, sF q 0)), ((q 7), .inl (ca 5, 2, .inr (.inr (.inr (.inr (va_up (va_up (fun _ => none) 0 (some a)) 1 (some b))))))), (b, .inr (17, sD r1))]) rfl hx hb hml hown hts g_sk (sK_bl dC dI ca) (c_SD_beginAnew l dC dI ca a r0 (q 2)) xs_244 xs_245 xs_10 xs_247 xs_246 (by decide +kernel) rfl (Nat.le_of_ble_eq_true rfl) (Nat.le_of_ble_eq_true rfl) hl.1 (Nat.le_of_ble_eq_true rfl) (sK_up hK) hK.1 hP hD hS hA rfl rfl [2] [0, 1, 3] rfl (by decide) rfl rfl (by decide) (by decide) (Nat.le_of_ble_eq_true rfl) (Nat.le_of_ble_eq_true rfl) d_SS_beginAnew_14 (fun v _ H locs hp hP hD hS => ?_)
  obtain rfl : v = none := hp
  have hP : va_P (dC, dI) classes [(h0, .inr (7, sF q 0)), ((q 7), .inl (ca 5, 2, .inr (.inr (.inr (.inr (va_up (va_up (fun _ => none) 0 (some a)) 1 (some b))))))), (b, .inr (17, sD r1)), (a, .inr (17, sD r0))] H := hP
  have hD : va_D A [(h0, .inr (7, sF q 0)), ((q 7), .inl (ca 5, 2, .inr (.inr (.inr (.inr (va_up (va_up (fun _ => none) 0 (some a)) 1 (some b))))))), (b, .inr (17, sD r1)), (a, .inr (17, sD r0))] := hD
  refine W.eq (g2 := F0 m 17 ls []) rfl ?_
  refine lv_aload_n hx hb d_SS_beginAnew_17 rfl (lv_at hl 0 rfl) ?_
  refine va_get (D := (dC, dI)) (ci := 7) (v := .ref (q 7)) (C := R_SS) (T := F_SS) (N := 18) hx hb hts i_SS hown hK.1 hP 0 rfl rfl 7 (by decide) (hts _ xs_160) (fun _ h9 => h9) rfl d_SS_beginAnew_18 ?_
  refine lv_iconst (v := 1) hx hb d_SS_beginAnew_21 (by decide) ?_
  refine va_aldq hx hb hK.1 hP 1 5 rfl rfl (by unfold vp_in; decide) d_SS_beginAnew_22 ?_
  refine W.eq (g2 := F0 m 23 ls [.ref b]) rfl ?_
  refine lv_aload_n hx hb d_SS_beginAnew_23 rfl (lv_at hl 0 rfl) ?_
  refine va_get (D := (dC, dI)) (ci := 7) (v := .ref (q 2)) (C := R_SS) (T := F_SS) (N := 18) hx hb hts i_SS hown hK.1 hP 0 rfl rfl 2 (by decide) (hts _ xs_155) (fun _ h9 => h9) rfl d_SS_beginAnew_24 ?_
  refine lv_aload_n hx hb d_SS_beginAnew_27 rfl (lv_at hl 0 rfl) ?_
  refine va_get (D := (dC, dI)) (ci := 7) (v := .int 0) (C := R_SS) (T := F_SS) (N := 18) hx hb hts i_SS hown hK.1 hP 0 rfl rfl 3 (by decide) (hts _ xs_156) (fun _ h9 => h9) rfl d_SS_beginAnew_28 ?_
  refine ax_V (ci := 17) (q0 := 0) (k := 2) (As := [.ref (q 2), .int 0]) (rest := []) (wr := [(h0, .inr (7, sF q 0)), ((q 7), .inl (ca 5, 2, .inr (.inr (.inr (.inr (va_up (va_up (fun _ => none) 0 (some a)) 1 (some b))))))), (a, .inr (17, sD r0))]) rfl hx hb hml hown hts g_sk (sK_bl dC dI ca) (c_SD_beginAnew l dC dI ca b r1 (q 2)) xs_244 xs_245 xs_10 xs_247 xs_246 (by decide +kernel) rfl (Nat.le_of_ble_eq_true rfl) (Nat.le_of_ble_eq_true rfl) hl.1 (Nat.le_of_ble_eq_true rfl) (sK_up hK) hK.1 hP hD hS hA rfl rfl [2] [0, 1, 3] rfl (by decide) rfl rfl (by decide) (by decide) (Nat.le_of_ble_eq_true rfl) (Nat.le_of_ble_eq_true rfl) d_SS_beginAnew_31 (fun v _ H locs hp hP hD hS => ?_)
  obtain rfl : v = none := hp
  have hP : va_P (dC, dI) classes [(h0, .inr (7, sF q 0)), ((q 7), .inl (ca 5, 2, .inr (.inr (.inr (.inr (va_up (va_up (fun _ => none) 0 (some a)) 1 (some b))))))), (a, .inr (17, sD r0)), (b, .inr (17, sD r1))] H := hP
  have hD : va_D A [(h0, .inr (7, sF q 0)), ((q 7), .inl (ca 5, 2, .inr (.inr (.inr (.inr (va_up (va_up (fun _ => none) 0 (some a)) 1 (some b))))))), (a, .inr (17, sD r0)), (b, .inr (17, sD r1))] := hD
  refine W.eq (g2 := F0 m 34 ls []) rfl ?_
  exact ax_vret hx hb hr hlocks hP hD hS () rfl [0] rfl (by decide) rfl (Nat.le_of_ble_eq_true rfl) (Nat.le_of_ble_eq_true rfl) d_SS_beginAnew_34
theorem d_SS_settle_0 : decode b_SS_settle 0 = .ok (.aload_n 0, 1) := by decide +kernel
theorem d_SS_settle_1 : decode b_SS_settle 1 = .ok (.invokevirtual 151, 3) := by decide +kernel
theorem d_SS_settle_4 : decode b_SS_settle 4 = .ok (.return_, 1) := by decide +kernel
set_option maxHeartbeats 4000000 in
set_option maxRecDepth 100000 in
theorem c_SS_settle (l : Launch) (dC : Nat → ClassId) (dI : Nat → Nat → Nat) (ca : Nat → ClassId) (h0 : Nat) (q : Nat → Nat) (a b : Nat) (r0 r1 : Nat → Nat) : CT l classes (dC, dI) (sK dC dI ca) sk y_SS_settle b_SS_settle 1 none 2 46 0 0 [.ref h0] [(h0, .inr (7, sF q 0)), ((q 7), .inl (ca 5, 2, .inr (.inr (.inr (.inr (va_up (va_up (fun _ => none) 0 (some a)) 1 (some b))))))), (a, .inr (17, sD r0)), (b, .inr (17, sD r1))] (fun (v : Option Value) (_ : Unit) => v = none) (fun (_ : Unit) => [(h0, .inr (7, sF q 0))]) := by
  refine ax_of (by decide) (Nat.le_of_ble_eq_true rfl) ?_
  intro p e s m below meth c A ls hAt hK hP hD hS hA hl
  obtain ⟨hx, hb, hr, hml, hown, hts, hlocks, hin⟩ := hAt
  have hl : lv_has ls 1 [(0, .ref h0)] := hl
  refine lv_aload_n hx hb d_SS_settle_0 rfl (lv_at hl 0 rfl) ?_
  refine ax_V (ci := 7) (q0 := 0) (k := 0) (As := []) (rest := []) (wr := []) rfl hx hb hml hown hts g_sk (sK_bl dC dI ca) (c_SS_beginAnew l dC dI ca h0 q a b r0 r1) xs_241 xs_242 xs_0 xs_243 xs_325 (by decide +kernel) rfl (Nat.le_of_ble_eq_true rfl) (Nat.le_of_ble_eq_true rfl) hl.1 (Nat.le_of_ble_eq_true rfl) (sK_up hK) hK.1 hP hD hS hA rfl rfl [0, 1, 2, 3] [] rfl (by decide) rfl rfl (by decide) (by decide) (Nat.le_of_ble_eq_true rfl) (Nat.le_of_ble_eq_true rfl) d_SS_settle_1 (fun v _ H locs hp hP hD hS => ?_)
  obtain rfl : v = none := hp
  have hP : va_P (dC, dI) classes [(h0, .inr (7, sF q 0))] H := hP
  have hD : va_D A [(h0, .inr (7, sF q 0))] := hD
  refine W.eq (g2 := F0 m 4 ls []) rfl ?_
  exact ax_vret hx hb hr hlocks hP hD hS () rfl [0] rfl (by decide) rfl (Nat.le_of_ble_eq_true rfl) (Nat.le_of_ble_eq_true rfl) d_SS_settle_4
