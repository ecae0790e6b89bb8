/-- a reference's fields: thrown, the tape, and whatever the others are -/
def mG (th : Int32) (qt : Nat) (y : Nat → Value) : List Value := [.int th, y 1, .ref qt, y 3, y 4, y 5, y 6, y 7, y 8, y 9, y 10, y 11, y 12, y 13, y 14, y 15, y 16, y 17, y 18, y 19, y 20, y 21, y 22, y 23, y 24, y 25, y 26, y 27, y 28, y 29, y 30, y 31, y 32, y 33, y 34, y 35, y 36, y 37, y 38, y 39, y 40, y 41, y 42, y 43, y 44, y 45, y 46, y 47, y 48, y 49, y 50, y 51, y 52, y 53, y 54, y 55, y 56, y 57, y 58, y 59, y 60, y 61, y 62, y 63, y 64, y 65, y 66, y 67, y 68, y 69, y 70, y 71, y 72, y 73, y 74, y 75, y 76, y 77, y 78, y 79, y 80, y 81, y 82, y 83, y 84, y 85, y 86, y 87, y 88, y 89, y 90, y 91, y 92, y 93, y 94, y 95, y 96, y 97, y 98, y 99, y 100, y 101, y 102, y 103, y 104, y 105, y 106, y 107, y 108, y 109, y 110, y 111, y 112, y 113, y 114, y 115, y 116, y 117, y 118, y 119, y 120, y 121, y 122, y 123, y 124, y 125, y 126, y 127, y 128, y 129, y 130, y 131]
theorem in18 {j : Nat} (h1 : 1 ≤ j) (h8 : j ≤ 8) : 1 ≤ (nI j).toInt64 ∧ (nI j).toInt64 ≤ 8 := by
  have e1 : (1 : Int64).toInt = 1 := by decide
  have e2 : (8 : Int64).toInt = 8 := by decide
  constructor <;> rw [Int64.le_iff_toInt_le, Int32.toInt_toInt64, nI_toInt (by omega)] <;> omega
set_option maxHeartbeats 4000000 in
set_option maxRecDepth 100000 in
theorem gn_MM_feed (l : Launch) (dC : Nat → ClassId) (dI : Nat → Nat → Nat) (ca : Nat → ClassId) (h0 qt qa N k : Nat) (f : Nat → Int32) (y : Nat → Value) (th : Int32) (x : Int64) (n : Int32) (hc : ¬ (1 ≤ n.toInt64 ∧ n.toInt64 ≤ 8)) : CT l classes (dC, dI) (mK dC dI ca) wm y_MM_feed b_MM_feed 4 (some (.int)) 2 47 0 0 [.ref h0, .long x, .int n] [(h0, .inr (0, mG th qt y)), (qt, .inr (2, [.ref qa, .int (nI k)])), (qa, .inl (ca 0, N, .inl f))] (fun (v : Option Value) (_ : Unit) => v = some (.int (-1))) (fun (u : Unit) => [(h0, .inr (0, mG 0 qt y)), (qt, .inr (2, [.ref qa, .int (nI k)])), (qa, .inl (ca 0, N, .inl f))]) := by
  refine ax_of (by decide) (Nat.le_of_ble_eq_true rfl) ?_
  intro p e s m below meth c A ls hAt hK hP hD hS hA hl
  obtain ⟨hx, hb, hr, hml, hown, hts, hlocks, hin⟩ := hAt
  have hl : lv_has ls 4 [(0, .ref h0), (1, .long x), (3, .int n)] := hl
  refine lv_aload_n hx hb d_MM_feed_0 rfl (lv_at hl 0 rfl) ?_
  refine lv_iconst (v := 0) hx hb d_MM_feed_1 (by decide) ?_
  refine va_put (D := (dC, dI)) (ci := 0) (v := .int 0) (ty := .int) (C := R_MM) (T := F_MM) (N := 132) hx hb hts i_MM t_MM t_MM_ok n_MM hown hK.1 hP hD hS 0 rfl rfl 0 (by decide) (hts _ xm_73) (fun _ h9 => h9) rfl (by decide +kernel) rfl rfl (Nat.le_of_ble_eq_true rfl) d_MM_feed_2 (fun H locs hP hD hS => ?_)
  have hP : va_P (dC, dI) classes [(h0, .inr (0, mG 0 qt y)), (qt, .inr (2, [.ref qa, .int (nI k)])), (qa, .inl (ca 0, N, .inl f))] H := hP
  have hD : va_D A [(h0, .inr (0, mG 0 qt y)), (qt, .inr (2, [.ref qa, .int (nI k)])), (qa, .inl (ca 0, N, .inl f))] := hD
  refine lv_iload_n hx hb d_MM_feed_5 rfl (lv_at hl 2 rfl) ?_
  refine lv_i2l hx hb d_MM_feed_6 rfl ?_
  refine lv_lconst (v := 1) hx hb d_MM_feed_7 (by decide) ?_
  refine lv_ldc2 (v := 8) hx hb hown (hts _ xm_178) d_MM_feed_8 ?_
  refine ax_St (k := 3) (As := [.long (n).toInt64, .long 1, .long 8]) (rest := []) (wr := [(h0, .inr (0, mG 0 qt y)), (qt, .inr (2, [.ref qa, .int (nI k)])), (qa, .inl (ca 0, N, .inl f))]) rfl hx hb hml hown hts g_wm (mK_bl dC dI ca) (c_MM_in l dC dI ca (n).toInt64 1 8) xm_179 xm_180 xm_0 xm_181 (by decide +kernel) rfl (Nat.le_of_ble_eq_true rfl) (Nat.le_of_ble_eq_true rfl) hl.1 (Nat.le_of_ble_eq_true rfl) (mK_up hK) hP hD hS hA [] [0, 1, 2] rfl (by decide) rfl rfl (by decide) (by decide) (Nat.zero_le _) (Nat.zero_le _) d_MM_feed_11 (fun v _ H locs hp hP hD hS => ?_)
  have hP : va_P (dC, dI) classes [(h0, .inr (0, mG 0 qt y)), (qt, .inr (2, [.ref qa, .int (nI k)])), (qa, .inl (ca 0, N, .inl f))] H := hP
  have hD : va_D A [(h0, .inr (0, mG 0 qt y)), (qt, .inr (2, [.ref qa, .int (nI k)])), (qa, .inl (ca 0, N, .inl f))] := hD
  obtain rfl : v = some (.int 0) := hp.elim (fun h => absurd h.2 hc) (fun h => h.1)
  refine W.eq (g2 := F0 m 14 ls [.int 0]) rfl ?_
  refine lv_if_eq (tgt := 32) hx hb d_MM_feed_14 (by decide) (fun _ => ?_) (fun h => absurd (by decide) h)
  refine lv_iconst (v := (-1)) hx hb d_MM_feed_32 (by decide) ?_
  exact ax_iret hx hb hr hlocks hP hD hS () rfl [0, 1, 2] rfl (by decide) rfl (Nat.le_refl _) (Nat.le_refl _) d_MM_feed_33
set_option maxHeartbeats 4000000 in
set_option maxRecDepth 100000 in
theorem gl_MM_feed (l : Launch) (dC : Nat → ClassId) (dI : Nat → Nat → Nat) (ca : Nat → ClassId) (h0 qt qa N k : Nat) (f : Nat → Int32) (y : Nat → Value) (th : Int32) (x : Int64) (j : Nat) (h1 : 1 ≤ j) (h8 : j ≤ 8) (hk : k ≤ 65536) (hf : 65536 < k + j) : CT l classes (dC, dI) (mK dC dI ca) wm y_MM_feed b_MM_feed 4 (some (.int)) 2 47 0 0 [.ref h0, .long x, .int (nI j)] [(h0, .inr (0, mG th qt y)), (qt, .inr (2, [.ref qa, .int (nI k)])), (qa, .inl (ca 0, N, .inl f))] (fun (v : Option Value) (_ : Unit) => v = some (.int (-1))) (fun (u : Unit) => [(h0, .inr (0, mG 0 qt y)), (qt, .inr (2, [.ref qa, .int (nI k)])), (qa, .inl (ca 0, N, .inl f))]) := by
  refine ax_of (by decide) (Nat.le_of_ble_eq_true rfl) ?_
  intro p e s m below meth c A ls hAt hK hP hD hS hA hl
  obtain ⟨hx, hb, hr, hml, hown, hts, hlocks, hin⟩ := hAt
  have hl : lv_has ls 4 [(0, .ref h0), (1, .long x), (3, .int (nI j))] := hl
  refine lv_aload_n hx hb d_MM_feed_0 rfl (lv_at hl 0 rfl) ?_
  refine lv_iconst (v := 0) hx hb d_MM_feed_1 (by decide) ?_
  refine va_put (D := (dC, dI)) (ci := 0) (v := .int 0) (ty := .int) (C := R_MM) (T := F_MM) (N := 132) hx hb hts i_MM t_MM t_MM_ok n_MM hown hK.1 hP hD hS 0 rfl rfl 0 (by decide) (hts _ xm_73) (fun _ h9 => h9) rfl (by decide +kernel) rfl rfl (Nat.le_of_ble_eq_true rfl) d_MM_feed_2 (fun H locs hP hD hS => ?_)
  have hP : va_P (dC, dI) classes [(h0, .inr (0, mG 0 qt y)), (qt, .inr (2, [.ref qa, .int (nI k)])), (qa, .inl (ca 0, N, .inl f))] H := hP
  have hD : va_D A [(h0, .inr (0, mG 0 qt y)), (qt, .inr (2, [.ref qa, .int (nI k)])), (qa, .inl (ca 0, N, .inl f))] := hD
  refine lv_iload_n hx hb d_MM_feed_5 rfl (lv_at hl 2 rfl) ?_
  refine lv_i2l hx hb d_MM_feed_6 rfl ?_
  refine lv_lconst (v := 1) hx hb d_MM_feed_7 (by decide) ?_
  refine lv_ldc2 (v := 8) hx hb hown (hts _ xm_178) d_MM_feed_8 ?_
  refine ax_St (k := 3) (As := [.long ((nI j)).toInt64, .long 1, .long 8]) (rest := []) (wr := [(h0, .inr (0, mG 0 qt y)), (qt, .inr (2, [.ref qa, .int (nI k)])), (qa, .inl (ca 0, N, .inl f))]) rfl hx hb hml hown hts g_wm (mK_bl dC dI ca) (c_MM_in l dC dI ca ((nI j)).toInt64 1 8) xm_179 xm_180 xm_0 xm_181 (by decide +kernel) rfl (Nat.le_of_ble_eq_true rfl) (Nat.le_of_ble_eq_true rfl) hl.1 (Nat.le_of_ble_eq_true rfl) (mK_up hK) hP hD hS hA [] [0, 1, 2] rfl (by decide) rfl rfl (by decide) (by decide) (Nat.zero_le _) (Nat.zero_le _) d_MM_feed_11 (fun v _ H locs hp hP hD hS => ?_)
  have hP : va_P (dC, dI) classes [(h0, .inr (0, mG 0 qt y)), (qt, .inr (2, [.ref qa, .int (nI k)])), (qa, .inl (ca 0, N, .inl f))] H := hP
  have hD : va_D A [(h0, .inr (0, mG 0 qt y)), (qt, .inr (2, [.ref qa, .int (nI k)])), (qa, .inl (ca 0, N, .inl f))] := hD
  obtain rfl : v = some (.int 1) := hp.elim (fun h => h.1) (fun h => absurd (in18 h1 h8) h.2)
  refine W.eq (g2 := F0 m 14 ls [.int 1]) rfl ?_
  refine lv_if_eq (tgt := 32) hx hb d_MM_feed_14 (by decide) (fun h => absurd h (by decide)) (fun _ => ?_)
  refine lv_aload_n hx hb d_MM_feed_17 rfl (lv_at hl 0 rfl) ?_
  refine va_get (D := (dC, dI)) (ci := 0) (v := .ref qt) (C := R_MM) (T := F_MM) (N := 132) hx hb hts i_MM hown hK.1 hP 0 rfl rfl 2 (by decide) (hts _ xm_75) (fun _ h9 => h9) rfl d_MM_feed_18 ?_
  refine va_getN (D := (dC, dI)) (ci := 2) (v := .int (nI k)) (C := R_MB) (T := F_MB) (N := 2) hx hb hts i_MB hown hK.1 hP 1 rfl rfl 1 (by decide) (va_Nw.use rfl (hK.2.1 _ zm_6)) (fun _ h9 => h9) rfl d_MM_feed_21 ?_
  refine lv_iload_n hx hb d_MM_feed_24 rfl (lv_at hl 2 rfl) ?_
  refine lv_iadd hx hb d_MM_feed_25 ?_
  refine lv_topi (fun z e9 => ?_)
  obtain rfl : z = nI (k + j) := by rw [e9]; exact nI_add k j
  refine lv_ldcw (v := 65536) hx hb hown (hts _ xm_182) d_MM_feed_26 ?_
  refine lv_icmp_le (tgt := 34) hx hb d_MM_feed_29 (by decide) (fun h => absurd h (nI_ge (a := 65536) (by omega) (by omega))) (fun _ => ?_)
  refine lv_iconst (v := (-1)) hx hb d_MM_feed_32 (by decide) ?_
  exact ax_iret hx hb hr hlocks hP hD hS () rfl [0, 1, 2] rfl (by decide) rfl (Nat.le_refl _) (Nat.le_refl _) d_MM_feed_33
set_option maxHeartbeats 4000000 in
set_option maxRecDepth 100000 in
theorem g0_MM_feed (l : Launch) (dC : Nat → ClassId) (dI : Nat → Nat → Nat) (ca : Nat → ClassId) (h0 qt qa N k : Nat) (f : Nat → Int32) (y : Nat → Value) (th : Int32) (x : Int64) (j : Nat) (h1 : 1 ≤ j) (h8 : j ≤ 8) (hN8 : 8 ≤ N) (hN : N < 2 ^ 28) (hN2 : k + j ≤ N) (hf : k + j ≤ 65536) : CT l classes (dC, dI) (mK dC dI ca) wm y_MM_feed b_MM_feed 4 (some (.int)) 2 47 0 0 [.ref h0, .long x, .int (nI j)] [(h0, .inr (0, mG th qt y)), (qt, .inr (2, [.ref qa, .int (nI k)])), (qa, .inl (ca 0, N, .inl f))] (fun (v : Option Value) (_ : Nat → Int32) => v = some (.int (nI (k + j)))) (fun (u : Nat → Int32) => [(h0, .inr (0, mG 0 qt y)), (qt, .inr (2, [.ref qa, .int (nI (k + j))])), (qa, .inl (ca 0, N, .inl u))]) := by
  refine ax_of (by decide) (Nat.le_of_ble_eq_true rfl) ?_
  intro p e s m below meth c A ls hAt hK hP hD hS hA hl
  obtain ⟨hx, hb, hr, hml, hown, hts, hlocks, hin⟩ := hAt
  have hl : lv_has ls 4 [(0, .ref h0), (1, .long x), (3, .int (nI j))] := hl
  refine lv_aload_n hx hb d_MM_feed_0 rfl (lv_at hl 0 rfl) ?_
  refine lv_iconst (v := 0) hx hb d_MM_feed_1 (by decide) ?_
  refine va_put (D := (dC, dI)) (ci := 0) (v := .int 0) (ty := .int) (C := R_MM) (T := F_MM) (N := 132) hx hb hts i_MM t_MM t_MM_ok n_MM hown hK.1 hP hD hS 0 rfl rfl 0 (by decide) (hts _ xm_73) (fun _ h9 => h9) rfl (by decide +kernel) rfl rfl (Nat.le_of_ble_eq_true rfl) d_MM_feed_2 (fun H locs hP hD hS => ?_)
  have hP : va_P (dC, dI) classes [(h0, .inr (0, mG 0 qt y)), (qt, .inr (2, [.ref qa, .int (nI k)])), (qa, .inl (ca 0, N, .inl f))] H := hP
  have hD : va_D A [(h0, .inr (0, mG 0 qt y)), (qt, .inr (2, [.ref qa, .int (nI k)])), (qa, .inl (ca 0, N, .inl f))] := hD
  refine lv_iload_n hx hb d_MM_feed_5 rfl (lv_at hl 2 rfl) ?_
  refine lv_i2l hx hb d_MM_feed_6 rfl ?_
  refine lv_lconst (v := 1) hx hb d_MM_feed_7 (by decide) ?_
  refine lv_ldc2 (v := 8) hx hb hown (hts _ xm_178) d_MM_feed_8 ?_
  refine ax_St (k := 3) (As := [.long ((nI j)).toInt64, .long 1, .long 8]) (rest := []) (wr := [(h0, .inr (0, mG 0 qt y)), (qt, .inr (2, [.ref qa, .int (nI k)])), (qa, .inl (ca 0, N, .inl f))]) rfl hx hb hml hown hts g_wm (mK_bl dC dI ca) (c_MM_in l dC dI ca ((nI j)).toInt64 1 8) xm_179 xm_180 xm_0 xm_181 (by decide +kernel) rfl (Nat.le_of_ble_eq_true rfl) (Nat.le_of_ble_eq_true rfl) hl.1 (Nat.le_of_ble_eq_true rfl) (mK_up hK) hP hD hS hA [] [0, 1, 2] rfl (by decide) rfl rfl (by decide) (by decide) (Nat.zero_le _) (Nat.zero_le _) d_MM_feed_11 (fun v _ H locs hp hP hD hS => ?_)
  have hP : va_P (dC, dI) classes [(h0, .inr (0, mG 0 qt y)), (qt, .inr (2, [.ref qa, .int (nI k)])), (qa, .inl (ca 0, N, .inl f))] H := hP
  have hD : va_D A [(h0, .inr (0, mG 0 qt y)), (qt, .inr (2, [.ref qa, .int (nI k)])), (qa, .inl (ca 0, N, .inl f))] := hD
  obtain rfl : v = some (.int 1) := hp.elim (fun h => h.1) (fun h => absurd (in18 h1 h8) h.2)
  refine W.eq (g2 := F0 m 14 ls [.int 1]) rfl ?_
  refine lv_if_eq (tgt := 32) hx hb d_MM_feed_14 (by decide) (fun h => absurd h (by decide)) (fun _ => ?_)
  refine lv_aload_n hx hb d_MM_feed_17 rfl (lv_at hl 0 rfl) ?_
  refine va_get (D := (dC, dI)) (ci := 0) (v := .ref qt) (C := R_MM) (T := F_MM) (N := 132) hx hb hts i_MM hown hK.1 hP 0 rfl rfl 2 (by decide) (hts _ xm_75) (fun _ h9 => h9) rfl d_MM_feed_18 ?_
  refine va_getN (D := (dC, dI)) (ci := 2) (v := .int (nI k)) (C := R_MB) (T := F_MB) (N := 2) hx hb hts i_MB hown hK.1 hP 1 rfl rfl 1 (by decide) (va_Nw.use rfl (hK.2.1 _ zm_6)) (fun _ h9 => h9) rfl d_MM_feed_21 ?_
  refine lv_iload_n hx hb d_MM_feed_24 rfl (lv_at hl 2 rfl) ?_
  refine lv_iadd hx hb d_MM_feed_25 ?_
  refine lv_topi (fun z e9 => ?_)
  obtain rfl : z = nI (k + j) := by rw [e9]; exact nI_add k j
  refine lv_ldcw (v := 65536) hx hb hown (hts _ xm_182) d_MM_feed_26 ?_
  refine lv_icmp_le (tgt := 34) hx hb d_MM_feed_29 (by decide) (fun _ => ?_) (fun h => absurd (show nI (k + j) ≤ nI 65536 from nI_le (by omega) (by omega)) h)
  refine lv_aload_n hx hb d_MM_feed_34 rfl (lv_at hl 0 rfl) ?_
  refine va_get (D := (dC, dI)) (ci := 0) (v := .ref qt) (C := R_MM) (T := F_MM) (N := 132) hx hb hts i_MM hown hK.1 hP 0 rfl rfl 2 (by decide) (hts _ xm_75) (fun _ h9 => h9) rfl d_MM_feed_35 ?_
  refine lv_lload_n hx hb d_MM_feed_38 rfl (lv_at hl 1 rfl) ?_
  refine lv_iload_n hx hb d_MM_feed_39 rfl (lv_at hl 2 rfl) ?_
  refine ax_V (ci := 2) (q0 := 0) (k := 2) (As := [.long x, .int (nI j)]) (rest := []) (wr := [(h0, .inr (0, mG 0 qt y))]) rfl hx hb hml hown hts g_wm (mK_bl dC dI ca) (e_MB_addLong l dC dI ca qt qa N k j f x hN2 h8 hN8 hN) xm_183 xm_184 xm_2 xm_186 xm_185 (by decide +kernel) rfl (Nat.le_of_ble_eq_true rfl) (Nat.le_of_ble_eq_true rfl) hl.1 (Nat.le_of_ble_eq_true rfl) (mK_up hK) hK.1 hP hD hS hA rfl rfl [1, 2] [0] rfl (by decide) rfl rfl (by decide) (by decide) (Nat.zero_le _) (Nat.zero_le _) d_MM_feed_40 (fun v f2 H locs hp hP hD hS => ?_)
  obtain rfl : v = none := hp
  have hP : va_P (dC, dI) classes [(h0, .inr (0, mG 0 qt y)), (qt, .inr (2, [.ref qa, .int (nI (k + j))])), (qa, .inl (ca 0, N, .inl f2))] H := hP
  have hD : va_D A [(h0, .inr (0, mG 0 qt y)), (qt, .inr (2, [.ref qa, .int (nI (k + j))])), (qa, .inl (ca 0, N, .inl f2))] := hD
  refine W.eq (g2 := F0 m 43 ls []) rfl ?_
  refine lv_aload_n hx hb d_MM_feed_43 rfl (lv_at hl 0 rfl) ?_
  refine va_get (D := (dC, dI)) (ci := 0) (v := .ref qt) (C := R_MM) (T := F_MM) (N := 132) hx hb hts i_MM hown hK.1 hP 0 rfl rfl 2 (by decide) (hts _ xm_75) (fun _ h9 => h9) rfl d_MM_feed_44 ?_
  refine va_getN (D := (dC, dI)) (ci := 2) (v := .int (nI (k + j))) (C := R_MB) (T := F_MB) (N := 2) hx hb hts i_MB hown hK.1 hP 1 rfl rfl 1 (by decide) (va_Nw.use rfl (hK.2.1 _ zm_6)) (fun _ h9 => h9) rfl d_MM_feed_47 ?_
  exact ax_iret hx hb hr hlocks hP hD hS f2 rfl [0, 1, 2] rfl (by decide) rfl (Nat.le_refl _) (Nat.le_refl _) d_MM_feed_50
set_option maxHeartbeats 4000000 in
set_option maxRecDepth 100000 in
theorem g1_MM_feed (l : Launch) (dC : Nat → ClassId) (dI : Nat → Nat → Nat) (ca : Nat → ClassId) (h0 qt qa N k : Nat) (f : Nat → Int32) (y : Nat → Value) (th : Int32) (x : Int64) (j : Nat) (h1 : 1 ≤ j) (h8 : j ≤ 8) (hN8 : 8 ≤ N) (hN : N < 2 ^ 28) (hk : k ≤ N) (hN2 : N < k + j) (hf : k + j ≤ 65536) : CT l classes (dC, dI) (mK dC dI ca) wm y_MM_feed b_MM_feed 4 (some (.int)) 2 47 1 (2 * N) [.ref h0, .long x, .int (nI j)] [(h0, .inr (0, mG th qt y)), (qt, .inr (2, [.ref qa, .int (nI k)])), (qa, .inl (ca 0, N, .inl f))] (fun (v : Option Value) (_ : Nat × (Nat → Int32)) => v = some (.int (nI (k + j)))) (fun (u : Nat × (Nat → Int32)) => [(h0, .inr (0, mG 0 qt y)), (qt, .inr (2, [.ref u.1, .int (nI (k + j))])), (u.1, .inl (ca 0, (2 * N), .inl u.2))]) := by
  refine ax_of (by decide) (Nat.le_of_ble_eq_true rfl) ?_
  intro p e s m below meth c A ls hAt hK hP hD hS hA hl
  obtain ⟨hx, hb, hr, hml, hown, hts, hlocks, hin⟩ := hAt
  have hl : lv_has ls 4 [(0, .ref h0), (1, .long x), (3, .int (nI j))] := hl
  refine lv_aload_n hx hb d_MM_feed_0 rfl (lv_at hl 0 rfl) ?_
  refine lv_iconst (v := 0) hx hb d_MM_feed_1 (by decide) ?_
  refine va_put (D := (dC, dI)) (ci := 0) (v := .int 0) (ty := .int) (C := R_MM) (T := F_MM) (N := 132) hx hb hts i_MM t_MM t_MM_ok n_MM hown hK.1 hP hD hS 0 rfl rfl 0 (by decide) (hts _ xm_73) (fun _ h9 => h9) rfl (by decide +kernel) rfl rfl (Nat.le_of_ble_eq_true rfl) d_MM_feed_2 (fun H locs hP hD hS => ?_)
  have hP : va_P (dC, dI) classes [(h0, .inr (0, mG 0 qt y)), (qt, .inr (2, [.ref qa, .int (nI k)])), (qa, .inl (ca 0, N, .inl f))] H := hP
  have hD : va_D A [(h0, .inr (0, mG 0 qt y)), (qt, .inr (2, [.ref qa, .int (nI k)])), (qa, .inl (ca 0, N, .inl f))] := hD
  refine lv_iload_n hx hb d_MM_feed_5 rfl (lv_at hl 2 rfl) ?_
  refine lv_i2l hx hb d_MM_feed_6 rfl ?_
  refine lv_lconst (v := 1) hx hb d_MM_feed_7 (by decide) ?_
  refine lv_ldc2 (v := 8) hx hb hown (hts _ xm_178) d_MM_feed_8 ?_
  refine ax_St (k := 3) (As := [.long ((nI j)).toInt64, .long 1, .long 8]) (rest := []) (wr := [(h0, .inr (0, mG 0 qt y)), (qt, .inr (2, [.ref qa, .int (nI k)])), (qa, .inl (ca 0, N, .inl f))]) rfl hx hb hml hown hts g_wm (mK_bl dC dI ca) (c_MM_in l dC dI ca ((nI j)).toInt64 1 8) xm_179 xm_180 xm_0 xm_181 (by decide +kernel) rfl (Nat.le_of_ble_eq_true rfl) (Nat.le_of_ble_eq_true rfl) hl.1 (Nat.le_of_ble_eq_true rfl) (mK_up hK) hP hD hS hA [] [0, 1, 2] rfl (by decide) rfl rfl (by decide) (by decide) (Nat.zero_le _) (Nat.zero_le _) d_MM_feed_11 (fun v _ H locs hp hP hD hS => ?_)
  have hP : va_P (dC, dI) classes [(h0, .inr (0, mG 0 qt y)), (qt, .inr (2, [.ref qa, .int (nI k)])), (qa, .inl (ca 0, N, .inl f))] H := hP
  have hD : va_D A [(h0, .inr (0, mG 0 qt y)), (qt, .inr (2, [.ref qa, .int (nI k)])), (qa, .inl (ca 0, N, .inl f))] := hD
  obtain rfl : v = some (.int 1) := hp.elim (fun h => h.1) (fun h => absurd (in18 h1 h8) h.2)
  refine W.eq (g2 := F0 m 14 ls [.int 1]) rfl ?_
  refine lv_if_eq (tgt := 32) hx hb d_MM_feed_14 (by decide) (fun h => absurd h (by decide)) (fun _ => ?_)
  refine lv_aload_n hx hb d_MM_feed_17 rfl (lv_at hl 0 rfl) ?_
  refine va_get (D := (dC, dI)) (ci := 0) (v := .ref qt) (C := R_MM) (T := F_MM) (N := 132) hx hb hts i_MM hown hK.1 hP 0 rfl rfl 2 (by decide) (hts _ xm_75) (fun _ h9 => h9) rfl d_MM_feed_18 ?_
  refine va_getN (D := (dC, dI)) (ci := 2) (v := .int (nI k)) (C := R_MB) (T := F_MB) (N := 2) hx hb hts i_MB hown hK.1 hP 1 rfl rfl 1 (by decide) (va_Nw.use rfl (hK.2.1 _ zm_6)) (fun _ h9 => h9) rfl d_MM_feed_21 ?_
  refine lv_iload_n hx hb d_MM_feed_24 rfl (lv_at hl 2 rfl) ?_
  refine lv_iadd hx hb d_MM_feed_25 ?_
  refine lv_topi (fun z e9 => ?_)
  obtain rfl : z = nI (k + j) := by rw [e9]; exact nI_add k j
  refine lv_ldcw (v := 65536) hx hb hown (hts _ xm_182) d_MM_feed_26 ?_
  refine lv_icmp_le (tgt := 34) hx hb d_MM_feed_29 (by decide) (fun _ => ?_) (fun h => absurd (show nI (k + j) ≤ nI 65536 from nI_le (by omega) (by omega)) h)
  refine lv_aload_n hx hb d_MM_feed_34 rfl (lv_at hl 0 rfl) ?_
  refine va_get (D := (dC, dI)) (ci := 0) (v := .ref qt) (C := R_MM) (T := F_MM) (N := 132) hx hb hts i_MM hown hK.1 hP 0 rfl rfl 2 (by decide) (hts _ xm_75) (fun _ h9 => h9) rfl d_MM_feed_35 ?_
  refine lv_lload_n hx hb d_MM_feed_38 rfl (lv_at hl 1 rfl) ?_
  refine lv_iload_n hx hb d_MM_feed_39 rfl (lv_at hl 2 rfl) ?_
  refine ax_V (ci := 2) (q0 := 0) (k := 2) (As := [.long x, .int (nI j)]) (rest := []) (wr := [(h0, .inr (0, mG 0 qt y))]) rfl hx hb hml hown hts g_wm (mK_bl dC dI ca) (ef_MB_addLong l dC dI ca qt qa N k j f x hk hN2 h8 hN8 hN) xm_183 xm_184 xm_2 xm_186 xm_185 (by decide +kernel) rfl (Nat.le_of_ble_eq_true rfl) (Nat.le_of_ble_eq_true rfl) hl.1 (Nat.le_of_ble_eq_true rfl) (mK_up hK) hK.1 hP hD hS hA rfl rfl [1, 2] [0] rfl (by decide) rfl rfl (by decide) (by decide) (by show 0 + 0 + 1 ≤ 1; omega) (by show 0 + 0 + 2 * N ≤ 2 * N; omega) d_MM_feed_40 (fun v u H locs hp hP hD hS => ?_)
  obtain rfl : v = none := hp
  obtain ⟨qm, f2⟩ := u
  have hP : va_P (dC, dI) classes [(h0, .inr (0, mG 0 qt y)), (qt, .inr (2, [.ref qm, .int (nI (k + j))])), (qm, .inl (ca 0, (2 * N), .inl f2))] H := hP
  have hD : va_D A [(h0, .inr (0, mG 0 qt y)), (qt, .inr (2, [.ref qm, .int (nI (k + j))])), (qm, .inl (ca 0, (2 * N), .inl f2))] := hD
  refine W.eq (g2 := F0 m 43 ls []) rfl ?_
  refine lv_aload_n hx hb d_MM_feed_43 rfl (lv_at hl 0 rfl) ?_
  refine va_get (D := (dC, dI)) (ci := 0) (v := .ref qt) (C := R_MM) (T := F_MM) (N := 132) hx hb hts i_MM hown hK.1 hP 0 rfl rfl 2 (by decide) (hts _ xm_75) (fun _ h9 => h9) rfl d_MM_feed_44 ?_
  refine va_getN (D := (dC, dI)) (ci := 2) (v := .int (nI (k + j))) (C := R_MB) (T := F_MB) (N := 2) hx hb hts i_MB hown hK.1 hP 1 rfl rfl 1 (by decide) (va_Nw.use rfl (hK.2.1 _ zm_6)) (fun _ h9 => h9) rfl d_MM_feed_47 ?_
  refine W.widen (k := 1) (n := 2 * N) (by omega) (by omega) ?_
  exact ax_iret hx hb hr hlocks hP hD hS (qm, f2) rfl [0, 1, 2] rfl (by decide) rfl (Nat.le_refl _) (Nat.le_refl _) d_MM_feed_50
