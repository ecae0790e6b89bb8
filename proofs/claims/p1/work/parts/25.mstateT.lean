set_option maxHeartbeats 4000000 in
set_option maxRecDepth 100000 in
theorem c_MM_stateT (l : Launch) (dC : Nat → ClassId) (dI : Nat → Nat → Nat) (ca : Nat → ClassId) (h0 : Nat) (q : Nat → Nat) (th : Int32) (s0 i : Int32) (hc : ¬ ((0 ≤ s0.toInt64 ∧ s0.toInt64 ≤ 1) ∧ (0 ≤ i.toInt64 ∧ i.toInt64 ≤ 8))) : CT l classes (dC, dI) (mK dC dI ca) wm y_MM_state b_MM_state 5 (some (.long)) 1 25 0 0 [.ref h0, .int s0, .int i] [(h0, .inr (0, mF q th)), ((q 110), .inl (ca 1, 2, .inl (fun _ => 0))), ((q 111), .inl (ca 2, 2, .inr (.inl (fun _ => 0)))), ((q 112), .inl (ca 1, 2, .inl (fun _ => 0))), ((q 113), .inl (ca 2, 2, .inr (.inl (fun _ => 0)))), ((q 114), .inl (ca 2, 2, .inr (.inl (fun _ => 0)))), ((q 122), .inl (ca 1, 2, .inl (fun _ => 0)))] (fun (v : Option Value) (u : Int32) => u = 1 ∧ v = some (.long 0)) (fun (u : Int32) => [(h0, .inr (0, mF q u))]) := by
  refine ax_of (by decide) (Nat.le_of_ble_eq_true rfl) ?_
  intro p e s m below meth c A ls hAt hK hP hD hS hA hl
  obtain ⟨hx, hb, hr, hml, hown, hts, hlocks, hin⟩ := hAt
  have hl : lv_has ls 5 [(0, .ref h0), (1, .int s0), (2, .int i)] := hl
  refine lv_iload_n hx hb d_MM_state_0 rfl (lv_at hl 1 rfl) ?_
  refine lv_i2l hx hb d_MM_state_1 rfl ?_
  refine lv_lconst (v := 0) hx hb d_MM_state_2 (by decide) ?_
  refine lv_lconst (v := 1) hx hb d_MM_state_3 (by decide) ?_
  refine ax_St (k := 3) (As := [.long (s0.toInt64), .long 0, .long 1]) (rest := []) (wr := [(h0, .inr (0, mF q th)), ((q 110), .inl (ca 1, 2, .inl (fun _ => 0))), ((q 111), .inl (ca 2, 2, .inr (.inl (fun _ => 0)))), ((q 112), .inl (ca 1, 2, .inl (fun _ => 0))), ((q 113), .inl (ca 2, 2, .inr (.inl (fun _ => 0)))), ((q 114), .inl (ca 2, 2, .inr (.inl (fun _ => 0)))), ((q 122), .inl (ca 1, 2, .inl (fun _ => 0)))]) rfl hx hb hml hown hts g_wm (mK_bl dC dI ca) (c_MM_in l dC dI ca s0.toInt64 0 1) xm_182 xm_183 xm_0 xm_184 (by decide +kernel) rfl (Nat.le_of_ble_eq_true rfl) (Nat.le_of_ble_eq_true rfl) hl.1 (Nat.le_of_ble_eq_true rfl) (mK_up hK) hP hD hS hA [] [0, 1, 2, 3, 4, 5, 6] rfl (by decide) rfl rfl (by decide) (by decide) (Nat.le_of_ble_eq_true rfl) (Nat.le_of_ble_eq_true rfl) d_MM_state_4 (fun v _ H locs hp hP hD hS => ?_)
  rcases hp with ⟨rfl, hc_1⟩ | ⟨rfl, hc_1⟩
  · have h9 := True.intro
    have hP : va_P (dC, dI) classes [(h0, .inr (0, mF q th)), ((q 110), .inl (ca 1, 2, .inl (fun _ => 0))), ((q 111), .inl (ca 2, 2, .inr (.inl (fun _ => 0)))), ((q 112), .inl (ca 1, 2, .inl (fun _ => 0))), ((q 113), .inl (ca 2, 2, .inr (.inl (fun _ => 0)))), ((q 114), .inl (ca 2, 2, .inr (.inl (fun _ => 0)))), ((q 122), .inl (ca 1, 2, .inl (fun _ => 0)))] H := hP
    have hD : va_D A [(h0, .inr (0, mF q th)), ((q 110), .inl (ca 1, 2, .inl (fun _ => 0))), ((q 111), .inl (ca 2, 2, .inr (.inl (fun _ => 0)))), ((q 112), .inl (ca 1, 2, .inl (fun _ => 0))), ((q 113), .inl (ca 2, 2, .inr (.inl (fun _ => 0)))), ((q 114), .inl (ca 2, 2, .inr (.inl (fun _ => 0)))), ((q 122), .inl (ca 1, 2, .inl (fun _ => 0)))] := hD
    refine W.eq (g2 := F0 m 7 ls [.int 1]) rfl ?_
    refine lv_if_eq (tgt := 22) hx hb d_MM_state_7 (by decide) (fun h => absurd h (by decide)) (fun _ => ?_)
    refine lv_iload_n hx hb d_MM_state_10 rfl (lv_at hl 2 rfl) ?_
    refine lv_i2l hx hb d_MM_state_11 rfl ?_
    refine lv_lconst (v := 0) hx hb d_MM_state_12 (by decide) ?_
    refine lv_ldc2 (v := 8) hx hb hown (hts _ xm_181) d_MM_state_13 ?_
    refine ax_St (k := 3) (As := [.long (i.toInt64), .long 0, .long 8]) (rest := []) (wr := [(h0, .inr (0, mF q th)), ((q 110), .inl (ca 1, 2, .inl (fun _ => 0))), ((q 111), .inl (ca 2, 2, .inr (.inl (fun _ => 0)))), ((q 112), .inl (ca 1, 2, .inl (fun _ => 0))), ((q 113), .inl (ca 2, 2, .inr (.inl (fun _ => 0)))), ((q 114), .inl (ca 2, 2, .inr (.inl (fun _ => 0)))), ((q 122), .inl (ca 1, 2, .inl (fun _ => 0)))]) rfl hx hb hml hown hts g_wm (mK_bl dC dI ca) (c_MM_in l dC dI ca i.toInt64 0 8) xm_182 xm_183 xm_0 xm_184 (by decide +kernel) rfl (Nat.le_of_ble_eq_true rfl) (Nat.le_of_ble_eq_true rfl) hl.1 (Nat.le_of_ble_eq_true rfl) (mK_up hK) hP hD hS hA [] [0, 1, 2, 3, 4, 5, 6] rfl (by decide) rfl rfl (by decide) (by decide) (Nat.le_of_ble_eq_true rfl) (Nat.le_of_ble_eq_true rfl) d_MM_state_16 (fun v _ H locs hp hP hD hS => ?_)
    rcases hp with ⟨rfl, hc_2⟩ | ⟨rfl, hc_2⟩
    · have h9 := True.intro
      have hP : va_P (dC, dI) classes [(h0, .inr (0, mF q th)), ((q 110), .inl (ca 1, 2, .inl (fun _ => 0))), ((q 111), .inl (ca 2, 2, .inr (.inl (fun _ => 0)))), ((q 112), .inl (ca 1, 2, .inl (fun _ => 0))), ((q 113), .inl (ca 2, 2, .inr (.inl (fun _ => 0)))), ((q 114), .inl (ca 2, 2, .inr (.inl (fun _ => 0)))), ((q 122), .inl (ca 1, 2, .inl (fun _ => 0)))] H := hP
      have hD : va_D A [(h0, .inr (0, mF q th)), ((q 110), .inl (ca 1, 2, .inl (fun _ => 0))), ((q 111), .inl (ca 2, 2, .inr (.inl (fun _ => 0)))), ((q 112), .inl (ca 1, 2, .inl (fun _ => 0))), ((q 113), .inl (ca 2, 2, .inr (.inl (fun _ => 0)))), ((q 114), .inl (ca 2, 2, .inr (.inl (fun _ => 0)))), ((q 122), .inl (ca 1, 2, .inl (fun _ => 0)))] := hD
      refine W.eq (g2 := F0 m 19 ls [.int 1]) rfl ?_
      refine lv_if_ne (tgt := 29) hx hb d_MM_state_19 (by decide) (fun _ => ?_) (fun h => absurd h (by decide))
      refine lv_aload_n hx hb d_MM_state_29 rfl (lv_at hl 0 rfl) ?_
      refine lv_iconst (v := 0) hx hb d_MM_state_30 (by decide) ?_
      refine va_put (D := (dC, dI)) (ci := 0) (v := .int 0) (ty := .int) (C := R_MM) (T := F_MM) (N := 132) hx hb hts i_MM t_MM t_MM_ok n_MM hown hK.1 hP hD hS 0 rfl rfl 0 (by decide) (hts _ xm_73) (fun _ h9 => h9) rfl (by decide +kernel) rfl rfl (Nat.le_of_ble_eq_true rfl) d_MM_state_31 (fun H locs hP hD hS => ?_)
      have hP : va_P (dC, dI) classes [(h0, .inr (0, mF q 0)), ((q 110), .inl (ca 1, 2, .inl (fun _ => 0))), ((q 111), .inl (ca 2, 2, .inr (.inl (fun _ => 0)))), ((q 112), .inl (ca 1, 2, .inl (fun _ => 0))), ((q 113), .inl (ca 2, 2, .inr (.inl (fun _ => 0)))), ((q 114), .inl (ca 2, 2, .inr (.inl (fun _ => 0)))), ((q 122), .inl (ca 1, 2, .inl (fun _ => 0)))] H := hP
      have hD : va_D A [(h0, .inr (0, mF q 0)), ((q 110), .inl (ca 1, 2, .inl (fun _ => 0))), ((q 111), .inl (ca 2, 2, .inr (.inl (fun _ => 0)))), ((q 112), .inl (ca 1, 2, .inl (fun _ => 0))), ((q 113), .inl (ca 2, 2, .inr (.inl (fun _ => 0)))), ((q 114), .inl (ca 2, 2, .inr (.inl (fun _ => 0)))), ((q 122), .inl (ca 1, 2, .inl (fun _ => 0)))] := hD
      refine lv_bipush (v := 60) hx hb d_MM_state_34 (by decide +kernel) ?_
      refine lv_iload_n hx hb d_MM_state_36 rfl (lv_at hl 1 rfl) ?_
      refine lv_imul hx hb d_MM_state_37 ?_
      refine lv_aload_n hx hb d_MM_state_38 rfl (lv_at hl 0 rfl) ?_
      refine va_get (D := (dC, dI)) (ci := 0) (v := .ref (q 122)) (C := R_MM) (T := F_MM) (N := 132) hx hb hts i_MM hown hK.1 hP 0 rfl rfl 122 (by decide) (hts _ xm_164) (fun _ h9 => h9) rfl d_MM_state_39 ?_
      refine lv_iload_n hx hb d_MM_state_42 rfl (lv_at hl 1 rfl) ?_
      refine va_iald hx hb hK.1 hP 6 1 rfl rfl (vp_in2 hc_1) d_MM_state_43 ?_
      refine W.eq (g2 := F0 m 44 ls [.int 0, .int (60 * s0)]) rfl ?_
      refine lv_iadd hx hb d_MM_state_44 ?_
      refine lv_iconst (v := 1) hx hb d_MM_state_45 (by decide) ?_
      refine lv_isub hx hb d_MM_state_46 ?_
      refine lv_istore_n (lv' := [(3, .int (((60 * s0) + 0) - 1)), (0, .ref h0), (1, .int s0), (2, .int i)]) hx hb d_MM_state_47 rfl hl (by decide) rfl (fun ls hl => ?_)
      refine lv_aload_n hx hb d_MM_state_48 rfl (lv_at hl 1 rfl) ?_
      refine va_get (D := (dC, dI)) (ci := 0) (v := .ref (q 110)) (C := R_MM) (T := F_MM) (N := 132) hx hb hts i_MM hown hK.1 hP 0 rfl rfl 110 (by decide) (hts _ xm_152) (fun _ h9 => h9) rfl d_MM_state_49 ?_
      refine lv_iload_n hx hb d_MM_state_52 rfl (lv_at hl 2 rfl) ?_
      refine va_iald hx hb hK.1 hP 1 1 rfl rfl (vp_in2 hc_1) d_MM_state_53 ?_
      refine W.eq (g2 := F0 m 54 ls [.int 0]) rfl ?_
      refine lv_iconst (v := 1) hx hb d_MM_state_54 (by decide) ?_
      refine lv_icmp_ne (tgt := 62) hx hb d_MM_state_55 (by decide) (fun _ => ?_) (fun h => absurd h (by decide))
      refine lv_iconst (v := 0) hx hb d_MM_state_62 (by decide) ?_
      refine lv_istore (lv' := [(4, .int 0), (3, .int (((60 * s0) + 0) - 1)), (0, .ref h0), (1, .int s0), (2, .int i)]) hx hb d_MM_state_63 hl (by decide) rfl (fun ls hl => ?_)
      refine lv_iload_n hx hb d_MM_state_65 rfl (lv_at hl 4 rfl) ?_
      rcases sw_7 i with rfl | rfl | rfl | rfl | rfl | rfl | rfl | rfl | c_3
      · have h9 := True.intro
        refine lv_tableIn (tgt := 112) hx hb d_MM_state_66 (by decide) (by decide) rfl (by decide) ?_
        refine lv_aload_n hx hb d_MM_state_112 rfl (lv_at hl 2 rfl) ?_
        refine va_get (D := (dC, dI)) (ci := 0) (v := .ref (q 110)) (C := R_MM) (T := F_MM) (N := 132) hx hb hts i_MM hown hK.1 hP 0 rfl rfl 110 (by decide) (hts _ xm_152) (fun _ h9 => h9) rfl d_MM_state_113 ?_
        refine lv_iload_n hx hb d_MM_state_116 rfl (lv_at hl 3 rfl) ?_
        refine va_iald hx hb hK.1 hP 1 1 rfl rfl (vp_in2 hc_1) d_MM_state_117 ?_
        refine W.eq (g2 := F0 m 118 ls [.int 0]) rfl ?_
        refine lv_i2l (v := 0) hx hb d_MM_state_118 (by decide) ?_
        exact ax_lret hx hb hr hlocks hP hD hS 0 ((hc ⟨hc_1, hc_2⟩).elim) [0] rfl (by decide) rfl (Nat.le_of_ble_eq_true rfl) (Nat.le_of_ble_eq_true rfl) d_MM_state_119
      · have h9 := True.intro
        refine lv_tableIn (tgt := 120) hx hb d_MM_state_66 (by decide) (by decide) rfl (by decide) ?_
        refine lv_aload_n hx hb d_MM_state_120 rfl (lv_at hl 2 rfl) ?_
        refine va_get (D := (dC, dI)) (ci := 0) (v := .ref (q 111)) (C := R_MM) (T := F_MM) (N := 132) hx hb hts i_MM hown hK.1 hP 0 rfl rfl 111 (by decide) (hts _ xm_153) (fun _ h9 => h9) rfl d_MM_state_121 ?_
        refine lv_iload_n hx hb d_MM_state_124 rfl (lv_at hl 3 rfl) ?_
        refine va_lald hx hb hK.1 hP 2 2 rfl rfl (vp_in2 hc_1) d_MM_state_125 ?_
        refine W.eq (g2 := F0 m 126 ls [.long 0]) rfl ?_
        exact ax_lret hx hb hr hlocks hP hD hS 0 ((hc ⟨hc_1, hc_2⟩).elim) [0] rfl (by decide) rfl (Nat.le_of_ble_eq_true rfl) (Nat.le_of_ble_eq_true rfl) d_MM_state_126
      · have h9 := True.intro
        refine lv_tableIn (tgt := 127) hx hb d_MM_state_66 (by decide) (by decide) rfl (by decide) ?_
        refine lv_aload_n hx hb d_MM_state_127 rfl (lv_at hl 2 rfl) ?_
        refine va_get (D := (dC, dI)) (ci := 0) (v := .ref (q 112)) (C := R_MM) (T := F_MM) (N := 132) hx hb hts i_MM hown hK.1 hP 0 rfl rfl 112 (by decide) (hts _ xm_154) (fun _ h9 => h9) rfl d_MM_state_128 ?_
        refine lv_iload_n hx hb d_MM_state_131 rfl (lv_at hl 3 rfl) ?_
        refine va_iald hx hb hK.1 hP 3 1 rfl rfl (vp_in2 hc_1) d_MM_state_132 ?_
        refine W.eq (g2 := F0 m 133 ls [.int 0]) rfl ?_
        refine lv_i2l (v := 0) hx hb d_MM_state_133 (by decide) ?_
        exact ax_lret hx hb hr hlocks hP hD hS 0 ((hc ⟨hc_1, hc_2⟩).elim) [0] rfl (by decide) rfl (Nat.le_of_ble_eq_true rfl) (Nat.le_of_ble_eq_true rfl) d_MM_state_134
      · have h9 := True.intro
        refine lv_tableIn (tgt := 135) hx hb d_MM_state_66 (by decide) (by decide) rfl (by decide) ?_
        refine lv_aload_n hx hb d_MM_state_135 rfl (lv_at hl 2 rfl) ?_
        refine va_get (D := (dC, dI)) (ci := 0) (v := .ref (q 113)) (C := R_MM) (T := F_MM) (N := 132) hx hb hts i_MM hown hK.1 hP 0 rfl rfl 113 (by decide) (hts _ xm_155) (fun _ h9 => h9) rfl d_MM_state_136 ?_
        refine lv_iload_n hx hb d_MM_state_139 rfl (lv_at hl 3 rfl) ?_
        refine va_lald hx hb hK.1 hP 4 2 rfl rfl (vp_in2 hc_1) d_MM_state_140 ?_
        refine W.eq (g2 := F0 m 141 ls [.long 0]) rfl ?_
        exact ax_lret hx hb hr hlocks hP hD hS 0 ((hc ⟨hc_1, hc_2⟩).elim) [0] rfl (by decide) rfl (Nat.le_of_ble_eq_true rfl) (Nat.le_of_ble_eq_true rfl) d_MM_state_141
      · have h9 := True.intro
        refine lv_tableIn (tgt := 142) hx hb d_MM_state_66 (by decide) (by decide) rfl (by decide) ?_
        refine lv_aload_n hx hb d_MM_state_142 rfl (lv_at hl 2 rfl) ?_
        refine va_get (D := (dC, dI)) (ci := 0) (v := .ref (q 114)) (C := R_MM) (T := F_MM) (N := 132) hx hb hts i_MM hown hK.1 hP 0 rfl rfl 114 (by decide) (hts _ xm_156) (fun _ h9 => h9) rfl d_MM_state_143 ?_
        refine lv_iload_n hx hb d_MM_state_146 rfl (lv_at hl 3 rfl) ?_
        refine va_lald hx hb hK.1 hP 5 2 rfl rfl (vp_in2 hc_1) d_MM_state_147 ?_
        refine W.eq (g2 := F0 m 148 ls [.long 0]) rfl ?_
        exact ax_lret hx hb hr hlocks hP hD hS 0 ((hc ⟨hc_1, hc_2⟩).elim) [0] rfl (by decide) rfl (Nat.le_of_ble_eq_true rfl) (Nat.le_of_ble_eq_true rfl) d_MM_state_148
      · have h9 := True.intro
        refine lv_tableIn (tgt := 149) hx hb d_MM_state_66 (by decide) (by decide) rfl (by decide) ?_
        refine lv_iload hx hb d_MM_state_149 (lv_at hl 0 rfl) ?_
        refine lv_if_eq (tgt := 164) hx hb d_MM_state_151 (by decide) (fun _ => ?_) (fun h => absurd (by decide) h)
        refine lv_lconst (v := 0) hx hb d_MM_state_164 (by decide) ?_
        exact ax_lret hx hb hr hlocks hP hD hS 0 ((hc ⟨hc_1, hc_2⟩).elim) [0] rfl (by decide) rfl (Nat.le_of_ble_eq_true rfl) (Nat.le_of_ble_eq_true rfl) d_MM_state_165
      · have h9 := True.intro
        refine lv_tableIn (tgt := 166) hx hb d_MM_state_66 (by decide) (by decide) rfl (by decide) ?_
        refine lv_iload hx hb d_MM_state_166 (lv_at hl 0 rfl) ?_
        refine lv_if_eq (tgt := 181) hx hb d_MM_state_168 (by decide) (fun _ => ?_) (fun h => absurd (by decide) h)
        refine lv_ldc2 (v := (-1)) hx hb hown (hts _ xm_263) d_MM_state_181 ?_
        exact ax_lret hx hb hr hlocks hP hD hS 0 ((hc ⟨hc_1, hc_2⟩).elim) [0] rfl (by decide) rfl (Nat.le_of_ble_eq_true rfl) (Nat.le_of_ble_eq_true rfl) d_MM_state_184
      · have h9 := True.intro
        refine lv_tableIn (tgt := 185) hx hb d_MM_state_66 (by decide) (by decide) rfl (by decide) ?_
        refine lv_iload hx hb d_MM_state_185 (lv_at hl 0 rfl) ?_
        refine lv_if_eq (tgt := 200) hx hb d_MM_state_187 (by decide) (fun _ => ?_) (fun h => absurd (by decide) h)
        refine lv_ldc2 (v := (-1)) hx hb hown (hts _ xm_263) d_MM_state_200 ?_
        exact ax_lret hx hb hr hlocks hP hD hS 0 ((hc ⟨hc_1, hc_2⟩).elim) [0] rfl (by decide) rfl (Nat.le_of_ble_eq_true rfl) (Nat.le_of_ble_eq_true rfl) d_MM_state_203
      · have h9 := True.intro
        refine lv_tableOut (tgt := 204) hx hb d_MM_state_66 c_3 (by decide) ?_
        refine lv_iload hx hb d_MM_state_204 (lv_at hl 0 rfl) ?_
        refine lv_if_eq (tgt := 219) hx hb d_MM_state_206 (by decide) (fun _ => ?_) (fun h => absurd (by decide) h)
        refine lv_ldc2 (v := (-1)) hx hb hown (hts _ xm_263) d_MM_state_219 ?_
        exact ax_lret hx hb hr hlocks hP hD hS 0 ((hc ⟨hc_1, hc_2⟩).elim) [0] rfl (by decide) rfl (Nat.le_of_ble_eq_true rfl) (Nat.le_of_ble_eq_true rfl) d_MM_state_222
    · have h9 := True.intro
      have hP : va_P (dC, dI) classes [(h0, .inr (0, mF q th)), ((q 110), .inl (ca 1, 2, .inl (fun _ => 0))), ((q 111), .inl (ca 2, 2, .inr (.inl (fun _ => 0)))), ((q 112), .inl (ca 1, 2, .inl (fun _ => 0))), ((q 113), .inl (ca 2, 2, .inr (.inl (fun _ => 0)))), ((q 114), .inl (ca 2, 2, .inr (.inl (fun _ => 0)))), ((q 122), .inl (ca 1, 2, .inl (fun _ => 0)))] H := hP
      have hD : va_D A [(h0, .inr (0, mF q th)), ((q 110), .inl (ca 1, 2, .inl (fun _ => 0))), ((q 111), .inl (ca 2, 2, .inr (.inl (fun _ => 0)))), ((q 112), .inl (ca 1, 2, .inl (fun _ => 0))), ((q 113), .inl (ca 2, 2, .inr (.inl (fun _ => 0)))), ((q 114), .inl (ca 2, 2, .inr (.inl (fun _ => 0)))), ((q 122), .inl (ca 1, 2, .inl (fun _ => 0)))] := hD
      refine W.eq (g2 := F0 m 19 ls [.int 0]) rfl ?_
      refine lv_if_ne (tgt := 29) hx hb d_MM_state_19 (by decide) (fun h => absurd h (by decide)) (fun _ => ?_)
      refine lv_aload_n hx hb d_MM_state_22 rfl (lv_at hl 0 rfl) ?_
      refine lv_iconst (v := 1) hx hb d_MM_state_23 (by decide) ?_
      refine va_put (D := (dC, dI)) (ci := 0) (v := .int 1) (ty := .int) (C := R_MM) (T := F_MM) (N := 132) hx hb hts i_MM t_MM t_MM_ok n_MM hown hK.1 hP hD hS 0 rfl rfl 0 (by decide) (hts _ xm_73) (fun _ h9 => h9) rfl (by decide +kernel) rfl rfl (Nat.le_of_ble_eq_true rfl) d_MM_state_24 (fun H locs hP hD hS => ?_)
      have hP : va_P (dC, dI) classes [(h0, .inr (0, mF q 1)), ((q 110), .inl (ca 1, 2, .inl (fun _ => 0))), ((q 111), .inl (ca 2, 2, .inr (.inl (fun _ => 0)))), ((q 112), .inl (ca 1, 2, .inl (fun _ => 0))), ((q 113), .inl (ca 2, 2, .inr (.inl (fun _ => 0)))), ((q 114), .inl (ca 2, 2, .inr (.inl (fun _ => 0)))), ((q 122), .inl (ca 1, 2, .inl (fun _ => 0)))] H := hP
      have hD : va_D A [(h0, .inr (0, mF q 1)), ((q 110), .inl (ca 1, 2, .inl (fun _ => 0))), ((q 111), .inl (ca 2, 2, .inr (.inl (fun _ => 0)))), ((q 112), .inl (ca 1, 2, .inl (fun _ => 0))), ((q 113), .inl (ca 2, 2, .inr (.inl (fun _ => 0)))), ((q 114), .inl (ca 2, 2, .inr (.inl (fun _ => 0)))), ((q 122), .inl (ca 1, 2, .inl (fun _ => 0)))] := hD
      refine lv_lconst (v := 0) hx hb d_MM_state_27 (by decide) ?_
      exact ax_lret hx hb hr hlocks hP hD hS 1 ⟨rfl, rfl⟩ [0] rfl (by decide) rfl (Nat.le_of_ble_eq_true rfl) (Nat.le_of_ble_eq_true rfl) d_MM_state_28
  · have h9 := True.intro
    have hP : va_P (dC, dI) classes [(h0, .inr (0, mF q th)), ((q 110), .inl (ca 1, 2, .inl (fun _ => 0))), ((q 111), .inl (ca 2, 2, .inr (.inl (fun _ => 0)))), ((q 112), .inl (ca 1, 2, .inl (fun _ => 0))), ((q 113), .inl (ca 2, 2, .inr (.inl (fun _ => 0)))), ((q 114), .inl (ca 2, 2, .inr (.inl (fun _ => 0)))), ((q 122), .inl (ca 1, 2, .inl (fun _ => 0)))] H := hP
    have hD : va_D A [(h0, .inr (0, mF q th)), ((q 110), .inl (ca 1, 2, .inl (fun _ => 0))), ((q 111), .inl (ca 2, 2, .inr (.inl (fun _ => 0)))), ((q 112), .inl (ca 1, 2, .inl (fun _ => 0))), ((q 113), .inl (ca 2, 2, .inr (.inl (fun _ => 0)))), ((q 114), .inl (ca 2, 2, .inr (.inl (fun _ => 0)))), ((q 122), .inl (ca 1, 2, .inl (fun _ => 0)))] := hD
    refine W.eq (g2 := F0 m 7 ls [.int 0]) rfl ?_
    refine lv_if_eq (tgt := 22) hx hb d_MM_state_7 (by decide) (fun _ => ?_) (fun h => absurd (by decide) h)
    refine lv_aload_n hx hb d_MM_state_22 rfl (lv_at hl 0 rfl) ?_
    refine lv_iconst (v := 1) hx hb d_MM_state_23 (by decide) ?_
    refine va_put (D := (dC, dI)) (ci := 0) (v := .int 1) (ty := .int) (C := R_MM) (T := F_MM) (N := 132) hx hb hts i_MM t_MM t_MM_ok n_MM hown hK.1 hP hD hS 0 rfl rfl 0 (by decide) (hts _ xm_73) (fun _ h9 => h9) rfl (by decide +kernel) rfl rfl (Nat.le_of_ble_eq_true rfl) d_MM_state_24 (fun H locs hP hD hS => ?_)
    have hP : va_P (dC, dI) classes [(h0, .inr (0, mF q 1)), ((q 110), .inl (ca 1, 2, .inl (fun _ => 0))), ((q 111), .inl (ca 2, 2, .inr (.inl (fun _ => 0)))), ((q 112), .inl (ca 1, 2, .inl (fun _ => 0))), ((q 113), .inl (ca 2, 2, .inr (.inl (fun _ => 0)))), ((q 114), .inl (ca 2, 2, .inr (.inl (fun _ => 0)))), ((q 122), .inl (ca 1, 2, .inl (fun _ => 0)))] H := hP
    have hD : va_D A [(h0, .inr (0, mF q 1)), ((q 110), .inl (ca 1, 2, .inl (fun _ => 0))), ((q 111), .inl (ca 2, 2, .inr (.inl (fun _ => 0)))), ((q 112), .inl (ca 1, 2, .inl (fun _ => 0))), ((q 113), .inl (ca 2, 2, .inr (.inl (fun _ => 0)))), ((q 114), .inl (ca 2, 2, .inr (.inl (fun _ => 0)))), ((q 122), .inl (ca 1, 2, .inl (fun _ => 0)))] := hD
    refine lv_lconst (v := 0) hx hb d_MM_state_27 (by decide) ?_
    exact ax_lret hx hb hr hlocks hP hD hS 1 ⟨rfl, rfl⟩ [0] rfl (by decide) rfl (Nat.le_of_ble_eq_true rfl) (Nat.le_of_ble_eq_true rfl) d_MM_state_28
