set_option maxHeartbeats 4000000 in
set_option maxRecDepth 100000 in
theorem lc_0 {p : Program} {l : Launch} {e : Env} {s : State} {m : MethodId} {args : Array Value} {below : List Frame} {meth : Method} {c : Code} {H : Heap} {locs : List Loc} {Q : State → Prop} {dC : Nat → ClassId} {dI : Nat → Nat → Nat} {ca : Nat → ClassId} {A : Nat → Prop} {ls : Array Slot} {b : Nat} {xs : Nat → Int32} {xo mo o d0 d1 qa : Nat} {qs qm r0 r1 : Nat → Nat} {x0 x1 x2 x3 x4 x5 x6 x7 : Value} (hl9 : l.stackTraces = false) (L : lC p s m args c dC dI ca A b xs) (hP : va_P (dC, dI) classes [(xo, .inr (7, sF qs 0)), (qs 0, .inl (ca 0, 256, .inl (fun _ => 0))), (qs 4, .inl (ca 6, 160, .inr (.inr (.inr (.inr (fun _ => none)))))), (qs 7, .inl (ca 5, 2, .inr (.inr (.inr (.inr (va_up (va_up (fun _ => none) 0 (some d0)) 1 (some d1))))))), (qs 8, .inr (8, [.null, .int 0, .int 0])), (d0, .inr (17, sD r0)), (d1, .inr (17, sD r1)), (mo, .inr (0, mF qm 0)), (qm 1, .inr (1, [x0, x1, x2, x3, x4, x5, x6, x7])), (qm 2, .inr (2, [.ref qa, .int 0])), (qa, .inl (ca 0, 16, .inl (fun _ => 0))), (qm 12, .inl (ca 4, 148, .inr (.inr (.inr (.inr (fun _ => none)))))), (qm 110, .inl (ca 1, 2, .inl (fun _ => 0))), (qm 111, .inl (ca 2, 2, .inr (.inl (fun _ => 0)))), (qm 112, .inl (ca 1, 2, .inl (fun _ => 0))), (qm 113, .inl (ca 2, 2, .inr (.inl (fun _ => 0)))), (qm 114, .inl (ca 2, 2, .inr (.inl (fun _ => 0)))), (qm 117, .inl (ca 1, 2, .inl (fun _ => 0))), (qm 118, .inl (ca 1, 2, .inl (fun _ => 0))), (qm 120, .inl (ca 1, 8000, .inl (fun _ => 0))), (qm 122, .inl (ca 1, 2, .inl (fun _ => 0))), (o, .inl (ca 2, 1, .inr (.inl (fun _ => 0))))] H) (hD : va_D A [(xo, .inr (7, sF qs 0)), (qs 0, .inl (ca 0, 256, .inl (fun _ => 0))), (qs 4, .inl (ca 6, 160, .inr (.inr (.inr (.inr (fun _ => none)))))), (qs 7, .inl (ca 5, 2, .inr (.inr (.inr (.inr (va_up (va_up (fun _ => none) 0 (some d0)) 1 (some d1))))))), (qs 8, .inr (8, [.null, .int 0, .int 0])), (d0, .inr (17, sD r0)), (d1, .inr (17, sD r1)), (mo, .inr (0, mF qm 0)), (qm 1, .inr (1, [x0, x1, x2, x3, x4, x5, x6, x7])), (qm 2, .inr (2, [.ref qa, .int 0])), (qa, .inl (ca 0, 16, .inl (fun _ => 0))), (qm 12, .inl (ca 4, 148, .inr (.inr (.inr (.inr (fun _ => none)))))), (qm 110, .inl (ca 1, 2, .inl (fun _ => 0))), (qm 111, .inl (ca 2, 2, .inr (.inl (fun _ => 0)))), (qm 112, .inl (ca 1, 2, .inl (fun _ => 0))), (qm 113, .inl (ca 2, 2, .inr (.inl (fun _ => 0)))), (qm 114, .inl (ca 2, 2, .inr (.inl (fun _ => 0)))), (qm 117, .inl (ca 1, 2, .inl (fun _ => 0))), (qm 118, .inl (ca 1, 2, .inl (fun _ => 0))), (qm 120, .inl (ca 1, 8000, .inl (fun _ => 0))), (qm 122, .inl (ca 1, 2, .inl (fun _ => 0))), (o, .inl (ca 2, 1, .inr (.inl (fun _ => 0))))]) (hS : va_S A s.heap H locs) (hl : lv_has ls 8 [(4, .int 0), (3, .ref o), (2, .ref mo), (1, .ref xo), (0, .ref b)])
    (kk : lkk p l e s m args below meth c A b Q) : W p l e room_1 s m args below meth c H locs 236 644961 Q (F0 m 144 ls []) := by
  obtain ⟨hx, hb, hml, hown, hts, hKm, hE, hA, hAs, hX, hbl, hbA⟩ := L
  have hKs := hE.1.1
  refine lv_aload_n hx hb d_law_144 rfl (lv_at hl 3 rfl) ?_
  refine lv_aload_n hx hb d_law_145 rfl (lv_at hl 4 rfl) ?_
  refine lv_iload hx hb d_law_146 (lv_at hl 0 rfl) ?_
  refine lv_iconst (v := 1) hx hb d_law_148 (by decide) ?_
  refine lv_iadd hx hb d_law_149 ?_
  refine lv_topi (fun z e9 => ?_)
  obtain rfl : z = 1 := by rw [e9]; decide
  refine va_sld hx hb hX hbl hbA hS (by unfold vp_in; decide) d_law_150 ?_
  refine lv_i2l hx hb d_law_151 rfl ?_
  refine lv_topl (fun z1 _ => ?_)
  refine lv_bipush (v := 32) hx hb d_law_152 (by decide +kernel) ?_
  refine lv_lshl hx hb d_law_154 rfl ?_
  refine lv_topl (fun z2 _ => ?_)
  refine lv_aload_n hx hb d_law_155 rfl (lv_at hl 4 rfl) ?_
  refine lv_iload hx hb d_law_156 (lv_at hl 0 rfl) ?_
  refine lv_iconst (v := 2) hx hb d_law_158 (by decide) ?_
  refine lv_iadd hx hb d_law_159 ?_
  refine lv_topi (fun z e9 => ?_)
  obtain rfl : z = 2 := by rw [e9]; decide
  refine va_sld hx hb hX hbl hbA hS (by unfold vp_in; decide) d_law_160 ?_
  refine lv_i2l hx hb d_law_161 rfl ?_
  refine lv_topl (fun z3 _ => ?_)
  refine lv_ldc2 (v := 4294967295) hx hb hown (hts _ xl_68) d_law_162 ?_
  refine lv_land hx hb d_law_165 ?_
  refine lv_topl (fun z4 _ => ?_)
  refine lv_lor hx hb d_law_166 ?_
  refine lv_topl (fun z5 _ => ?_)
  refine lv_aload_n hx hb d_law_167 rfl (lv_at hl 4 rfl) ?_
  refine lv_iload hx hb d_law_168 (lv_at hl 0 rfl) ?_
  refine lv_iconst (v := 3) hx hb d_law_170 (by decide) ?_
  refine lv_iadd hx hb d_law_171 ?_
  refine lv_topi (fun z e9 => ?_)
  obtain rfl : z = 3 := by rw [e9]; decide
  refine va_sld hx hb hX hbl hbA hS (by unfold vp_in; decide) d_law_172 ?_
  refine ax_Vb (Z := sk) (ci := 7) (q0 := 0) (k := 2) (As := [.long z5, .int (xs (Int32.toNatClampNeg 3))]) (rest := []) (wr := [(mo, .inr (0, mF qm 0)), (qm 1, .inr (1, [x0, x1, x2, x3, x4, x5, x6, x7])), (qm 2, .inr (2, [.ref qa, .int 0])), (qa, .inl (ca 0, 16, .inl (fun _ => 0))), (qm 12, .inl (ca 4, 148, .inr (.inr (.inr (.inr (fun _ => none)))))), (qm 110, .inl (ca 1, 2, .inl (fun _ => 0))), (qm 111, .inl (ca 2, 2, .inr (.inl (fun _ => 0)))), (qm 112, .inl (ca 1, 2, .inl (fun _ => 0))), (qm 113, .inl (ca 2, 2, .inr (.inl (fun _ => 0)))), (qm 114, .inl (ca 2, 2, .inr (.inl (fun _ => 0)))), (qm 117, .inl (ca 1, 2, .inl (fun _ => 0))), (qm 118, .inl (ca 1, 2, .inl (fun _ => 0))), (qm 120, .inl (ca 1, 8000, .inl (fun _ => 0))), (qm 122, .inl (ca 1, 2, .inl (fun _ => 0))), (o, .inl (ca 2, 1, .inr (.inl (fun _ => 0))))]) rfl hx hb hml hown hts g_sk sk_lk (sK_bl dC dI ca) (c_SS_feed l dC dI ca xo qs (z5) ((xs (Int32.toNatClampNeg 3)))) xl_3 xs_170 xs_0 xs_172 xs_171 (by decide +kernel) rfl (Nat.le_of_ble_eq_true rfl) (Nat.le_of_ble_eq_true rfl) hl.1 (Nat.le_of_ble_eq_true rfl) (sK_up hKs) hKs.1 hP hD hS hA rfl rfl [0, 1] [7, 8, 9, 10, 11, 12, 13, 14, 15, 16, 17, 18, 19, 20, 21] rfl (by decide) rfl rfl (by decide) (by decide) (Nat.le_of_ble_eq_true rfl) (Nat.le_of_ble_eq_true rfl) d_law_173 (fun v u H locs hp hP hD hS => ?_)
  rcases hp with ⟨hc, rfl⟩ | ⟨hc, rfl⟩
  · have h9 := True.intro
    have hP : va_P (dC, dI) classes [(mo, .inr (0, mF qm 0)), (qm 1, .inr (1, [x0, x1, x2, x3, x4, x5, x6, x7])), (qm 2, .inr (2, [.ref qa, .int 0])), (qa, .inl (ca 0, 16, .inl (fun _ => 0))), (qm 12, .inl (ca 4, 148, .inr (.inr (.inr (.inr (fun _ => none)))))), (qm 110, .inl (ca 1, 2, .inl (fun _ => 0))), (qm 111, .inl (ca 2, 2, .inr (.inl (fun _ => 0)))), (qm 112, .inl (ca 1, 2, .inl (fun _ => 0))), (qm 113, .inl (ca 2, 2, .inr (.inl (fun _ => 0)))), (qm 114, .inl (ca 2, 2, .inr (.inl (fun _ => 0)))), (qm 117, .inl (ca 1, 2, .inl (fun _ => 0))), (qm 118, .inl (ca 1, 2, .inl (fun _ => 0))), (qm 120, .inl (ca 1, 8000, .inl (fun _ => 0))), (qm 122, .inl (ca 1, 2, .inl (fun _ => 0))), (o, .inl (ca 2, 1, .inr (.inl (fun _ => 0))))] H := hP
    have hD : va_D A [(mo, .inr (0, mF qm 0)), (qm 1, .inr (1, [x0, x1, x2, x3, x4, x5, x6, x7])), (qm 2, .inr (2, [.ref qa, .int 0])), (qa, .inl (ca 0, 16, .inl (fun _ => 0))), (qm 12, .inl (ca 4, 148, .inr (.inr (.inr (.inr (fun _ => none)))))), (qm 110, .inl (ca 1, 2, .inl (fun _ => 0))), (qm 111, .inl (ca 2, 2, .inr (.inl (fun _ => 0)))), (qm 112, .inl (ca 1, 2, .inl (fun _ => 0))), (qm 113, .inl (ca 2, 2, .inr (.inl (fun _ => 0)))), (qm 114, .inl (ca 2, 2, .inr (.inl (fun _ => 0)))), (qm 117, .inl (ca 1, 2, .inl (fun _ => 0))), (qm 118, .inl (ca 1, 2, .inl (fun _ => 0))), (qm 120, .inl (ca 1, 8000, .inl (fun _ => 0))), (qm 122, .inl (ca 1, 2, .inl (fun _ => 0))), (o, .inl (ca 2, 1, .inr (.inl (fun _ => 0))))] := hD
    refine W.eq (g2 := F0 m 176 ls [.int (xs (Int32.toNatClampNeg 3))]) rfl ?_
    refine lv_aload_n hx hb d_law_176 rfl (lv_at hl 2 rfl) ?_
    refine lv_aload_n hx hb d_law_177 rfl (lv_at hl 4 rfl) ?_
    refine lv_iload hx hb d_law_178 (lv_at hl 0 rfl) ?_
    refine lv_iconst (v := 1) hx hb d_law_180 (by decide) ?_
    refine lv_iadd hx hb d_law_181 ?_
    refine lv_topi (fun z e9 => ?_)
    obtain rfl : z = 1 := by rw [e9]; decide
    refine va_sld hx hb hX hbl hbA hS (by unfold vp_in; decide) d_law_182 ?_
    refine lv_i2l hx hb d_law_183 rfl ?_
    refine lv_topl (fun z6 _ => ?_)
    refine lv_bipush (v := 32) hx hb d_law_184 (by decide +kernel) ?_
    refine lv_lshl hx hb d_law_186 rfl ?_
    refine lv_topl (fun z7 _ => ?_)
    refine lv_aload_n hx hb d_law_187 rfl (lv_at hl 4 rfl) ?_
    refine lv_iload hx hb d_law_188 (lv_at hl 0 rfl) ?_
    refine lv_iconst (v := 2) hx hb d_law_190 (by decide) ?_
    refine lv_iadd hx hb d_law_191 ?_
    refine lv_topi (fun z e9 => ?_)
    obtain rfl : z = 2 := by rw [e9]; decide
    refine va_sld hx hb hX hbl hbA hS (by unfold vp_in; decide) d_law_192 ?_
    refine lv_i2l hx hb d_law_193 rfl ?_
    refine lv_topl (fun z8 _ => ?_)
    refine lv_ldc2 (v := 4294967295) hx hb hown (hts _ xl_68) d_law_194 ?_
    refine lv_land hx hb d_law_197 ?_
    refine lv_topl (fun z9 _ => ?_)
    refine lv_lor hx hb d_law_198 ?_
    refine lv_topl (fun z10 _ => ?_)
    refine lv_aload_n hx hb d_law_199 rfl (lv_at hl 4 rfl) ?_
    refine lv_iload hx hb d_law_200 (lv_at hl 0 rfl) ?_
    refine lv_iconst (v := 3) hx hb d_law_202 (by decide) ?_
    refine lv_iadd hx hb d_law_203 ?_
    refine lv_topi (fun z e9 => ?_)
    obtain rfl : z = 3 := by rw [e9]; decide
    refine va_sld hx hb hX hbl hbA hS (by unfold vp_in; decide) d_law_204 ?_
    refine ax_Vb (Z := wm) (ci := 0) (q0 := 0) (k := 2) (As := [.long z10, .int (xs (Int32.toNatClampNeg 3))]) (rest := [.int (xs (Int32.toNatClampNeg 3))]) (wr := [(qm 1, .inr (1, [x0, x1, x2, x3, x4, x5, x6, x7])), (qm 12, .inl (ca 4, 148, .inr (.inr (.inr (.inr (fun _ => none)))))), (qm 110, .inl (ca 1, 2, .inl (fun _ => 0))), (qm 111, .inl (ca 2, 2, .inr (.inl (fun _ => 0)))), (qm 112, .inl (ca 1, 2, .inl (fun _ => 0))), (qm 113, .inl (ca 2, 2, .inr (.inl (fun _ => 0)))), (qm 114, .inl (ca 2, 2, .inr (.inl (fun _ => 0)))), (qm 117, .inl (ca 1, 2, .inl (fun _ => 0))), (qm 118, .inl (ca 1, 2, .inl (fun _ => 0))), (qm 120, .inl (ca 1, 8000, .inl (fun _ => 0))), (qm 122, .inl (ca 1, 2, .inl (fun _ => 0))), (o, .inl (ca 2, 1, .inr (.inl (fun _ => 0))))]) rfl hx hb hml hown hts g_wm wm_lk (mK_bl dC dI ca) (c_MM_feed l dC dI ca mo qm 0 qa (z10) ((xs (Int32.toNatClampNeg 3)))) xl_46 xm_178 xm_0 xm_180 xm_179 (by decide +kernel) rfl (Nat.le_of_ble_eq_true rfl) (Nat.le_of_ble_eq_true rfl) hl.1 (Nat.le_of_ble_eq_true rfl) (mK_up hKm) hKm.1 hP hD hS hA rfl rfl [0, 2, 3] [1, 4, 5, 6, 7, 8, 9, 10, 11, 12, 13, 14] rfl (by decide) rfl rfl (by decide) (by decide) (Nat.le_of_ble_eq_true rfl) (Nat.le_of_ble_eq_true rfl) d_law_205 (fun v u H locs hp hP hD hS => ?_)
    obtain rfl : v = some (.int (xs (Int32.toNatClampNeg 3))) := hp.elim (fun h => h.2) (fun h => absurd hc h.1)
    have hP : va_P (dC, dI) classes [(qm 1, .inr (1, [x0, x1, x2, x3, x4, x5, x6, x7])), (qm 12, .inl (ca 4, 148, .inr (.inr (.inr (.inr (fun _ => none)))))), (qm 110, .inl (ca 1, 2, .inl (fun _ => 0))), (qm 111, .inl (ca 2, 2, .inr (.inl (fun _ => 0)))), (qm 112, .inl (ca 1, 2, .inl (fun _ => 0))), (qm 113, .inl (ca 2, 2, .inr (.inl (fun _ => 0)))), (qm 114, .inl (ca 2, 2, .inr (.inl (fun _ => 0)))), (qm 117, .inl (ca 1, 2, .inl (fun _ => 0))), (qm 118, .inl (ca 1, 2, .inl (fun _ => 0))), (qm 120, .inl (ca 1, 8000, .inl (fun _ => 0))), (qm 122, .inl (ca 1, 2, .inl (fun _ => 0))), (o, .inl (ca 2, 1, .inr (.inl (fun _ => 0)))), (mo, .inr (0, mF qm 0))] H := hP
    have hD : va_D A [(qm 1, .inr (1, [x0, x1, x2, x3, x4, x5, x6, x7])), (qm 12, .inl (ca 4, 148, .inr (.inr (.inr (.inr (fun _ => none)))))), (qm 110, .inl (ca 1, 2, .inl (fun _ => 0))), (qm 111, .inl (ca 2, 2, .inr (.inl (fun _ => 0)))), (qm 112, .inl (ca 1, 2, .inl (fun _ => 0))), (qm 113, .inl (ca 2, 2, .inr (.inl (fun _ => 0)))), (qm 114, .inl (ca 2, 2, .inr (.inl (fun _ => 0)))), (qm 117, .inl (ca 1, 2, .inl (fun _ => 0))), (qm 118, .inl (ca 1, 2, .inl (fun _ => 0))), (qm 120, .inl (ca 1, 8000, .inl (fun _ => 0))), (qm 122, .inl (ca 1, 2, .inl (fun _ => 0))), (o, .inl (ca 2, 1, .inr (.inl (fun _ => 0)))), (mo, .inr (0, mF qm 0))] := hD
    refine W.eq (g2 := F0 m 208 ls [.int (xs (Int32.toNatClampNeg 3)), .int (xs (Int32.toNatClampNeg 3))]) rfl ?_
    refine lv_icmp_eq (tgt := 1327) hx hb d_law_208 (by decide) (fun _ => ?_) (fun h => absurd rfl h)
    refine W.widen (k := 300) (n := 650000) (Nat.le_of_ble_eq_true rfl) (Nat.le_of_ble_eq_true rfl) ?_
    exact kk H locs ls hS (lv_sub hl [0, 4] rfl)
  · have h9 := True.intro
    have hP : va_P (dC, dI) classes [(mo, .inr (0, mF qm 0)), (qm 1, .inr (1, [x0, x1, x2, x3, x4, x5, x6, x7])), (qm 2, .inr (2, [.ref qa, .int 0])), (qa, .inl (ca 0, 16, .inl (fun _ => 0))), (qm 12, .inl (ca 4, 148, .inr (.inr (.inr (.inr (fun _ => none)))))), (qm 110, .inl (ca 1, 2, .inl (fun _ => 0))), (qm 111, .inl (ca 2, 2, .inr (.inl (fun _ => 0)))), (qm 112, .inl (ca 1, 2, .inl (fun _ => 0))), (qm 113, .inl (ca 2, 2, .inr (.inl (fun _ => 0)))), (qm 114, .inl (ca 2, 2, .inr (.inl (fun _ => 0)))), (qm 117, .inl (ca 1, 2, .inl (fun _ => 0))), (qm 118, .inl (ca 1, 2, .inl (fun _ => 0))), (qm 120, .inl (ca 1, 8000, .inl (fun _ => 0))), (qm 122, .inl (ca 1, 2, .inl (fun _ => 0))), (o, .inl (ca 2, 1, .inr (.inl (fun _ => 0))))] H := hP
    have hD : va_D A [(mo, .inr (0, mF qm 0)), (qm 1, .inr (1, [x0, x1, x2, x3, x4, x5, x6, x7])), (qm 2, .inr (2, [.ref qa, .int 0])), (qa, .inl (ca 0, 16, .inl (fun _ => 0))), (qm 12, .inl (ca 4, 148, .inr (.inr (.inr (.inr (fun _ => none)))))), (qm 110, .inl (ca 1, 2, .inl (fun _ => 0))), (qm 111, .inl (ca 2, 2, .inr (.inl (fun _ => 0)))), (qm 112, .inl (ca 1, 2, .inl (fun _ => 0))), (qm 113, .inl (ca 2, 2, .inr (.inl (fun _ => 0)))), (qm 114, .inl (ca 2, 2, .inr (.inl (fun _ => 0)))), (qm 117, .inl (ca 1, 2, .inl (fun _ => 0))), (qm 118, .inl (ca 1, 2, .inl (fun _ => 0))), (qm 120, .inl (ca 1, 8000, .inl (fun _ => 0))), (qm 122, .inl (ca 1, 2, .inl (fun _ => 0))), (o, .inl (ca 2, 1, .inr (.inl (fun _ => 0))))] := hD
    refine W.eq (g2 := F0 m 176 ls [.int (-1)]) rfl ?_
    refine lv_aload_n hx hb d_law_176 rfl (lv_at hl 2 rfl) ?_
    refine lv_aload_n hx hb d_law_177 rfl (lv_at hl 4 rfl) ?_
    refine lv_iload hx hb d_law_178 (lv_at hl 0 rfl) ?_
    refine lv_iconst (v := 1) hx hb d_law_180 (by decide) ?_
    refine lv_iadd hx hb d_law_181 ?_
    refine lv_topi (fun z e9 => ?_)
    obtain rfl : z = 1 := by rw [e9]; decide
    refine va_sld hx hb hX hbl hbA hS (by unfold vp_in; decide) d_law_182 ?_
    refine lv_i2l hx hb d_law_183 rfl ?_
    refine lv_topl (fun z6 _ => ?_)
    refine lv_bipush (v := 32) hx hb d_law_184 (by decide +kernel) ?_
    refine lv_lshl hx hb d_law_186 rfl ?_
    refine lv_topl (fun z7 _ => ?_)
    refine lv_aload_n hx hb d_law_187 rfl (lv_at hl 4 rfl) ?_
    refine lv_iload hx hb d_law_188 (lv_at hl 0 rfl) ?_
    refine lv_iconst (v := 2) hx hb d_law_190 (by decide) ?_
    refine lv_iadd hx hb d_law_191 ?_
    refine lv_topi (fun z e9 => ?_)
    obtain rfl : z = 2 := by rw [e9]; decide
    refine va_sld hx hb hX hbl hbA hS (by unfold vp_in; decide) d_law_192 ?_
    refine lv_i2l hx hb d_law_193 rfl ?_
    refine lv_topl (fun z8 _ => ?_)
    refine lv_ldc2 (v := 4294967295) hx hb hown (hts _ xl_68) d_law_194 ?_
    refine lv_land hx hb d_law_197 ?_
    refine lv_topl (fun z9 _ => ?_)
    refine lv_lor hx hb d_law_198 ?_
    refine lv_topl (fun z10 _ => ?_)
    refine lv_aload_n hx hb d_law_199 rfl (lv_at hl 4 rfl) ?_
    refine lv_iload hx hb d_law_200 (lv_at hl 0 rfl) ?_
    refine lv_iconst (v := 3) hx hb d_law_202 (by decide) ?_
    refine lv_iadd hx hb d_law_203 ?_
    refine lv_topi (fun z e9 => ?_)
    obtain rfl : z = 3 := by rw [e9]; decide
    refine va_sld hx hb hX hbl hbA hS (by unfold vp_in; decide) d_law_204 ?_
    refine ax_Vb (Z := wm) (ci := 0) (q0 := 0) (k := 2) (As := [.long z10, .int (xs (Int32.toNatClampNeg 3))]) (rest := [.int (-1)]) (wr := [(qm 1, .inr (1, [x0, x1, x2, x3, x4, x5, x6, x7])), (qm 12, .inl (ca 4, 148, .inr (.inr (.inr (.inr (fun _ => none)))))), (qm 110, .inl (ca 1, 2, .inl (fun _ => 0))), (qm 111, .inl (ca 2, 2, .inr (.inl (fun _ => 0)))), (qm 112, .inl (ca 1, 2, .inl (fun _ => 0))), (qm 113, .inl (ca 2, 2, .inr (.inl (fun _ => 0)))), (qm 114, .inl (ca 2, 2, .inr (.inl (fun _ => 0)))), (qm 117, .inl (ca 1, 2, .inl (fun _ => 0))), (qm 118, .inl (ca 1, 2, .inl (fun _ => 0))), (qm 120, .inl (ca 1, 8000, .inl (fun _ => 0))), (qm 122, .inl (ca 1, 2, .inl (fun _ => 0))), (o, .inl (ca 2, 1, .inr (.inl (fun _ => 0))))]) rfl hx hb hml hown hts g_wm wm_lk (mK_bl dC dI ca) (c_MM_feed l dC dI ca mo qm 0 qa (z10) ((xs (Int32.toNatClampNeg 3)))) xl_46 xm_178 xm_0 xm_180 xm_179 (by decide +kernel) rfl (Nat.le_of_ble_eq_true rfl) (Nat.le_of_ble_eq_true rfl) hl.1 (Nat.le_of_ble_eq_true rfl) (mK_up hKm) hKm.1 hP hD hS hA rfl rfl [0, 2, 3] [1, 4, 5, 6, 7, 8, 9, 10, 11, 12, 13, 14] rfl (by decide) rfl rfl (by decide) (by decide) (Nat.le_of_ble_eq_true rfl) (Nat.le_of_ble_eq_true rfl) d_law_205 (fun v u H locs hp hP hD hS => ?_)
    obtain rfl : v = some (.int (-1)) := hp.elim (fun h => absurd h.1 hc) (fun h => h.2)
    have hP : va_P (dC, dI) classes [(qm 1, .inr (1, [x0, x1, x2, x3, x4, x5, x6, x7])), (qm 12, .inl (ca 4, 148, .inr (.inr (.inr (.inr (fun _ => none)))))), (qm 110, .inl (ca 1, 2, .inl (fun _ => 0))), (qm 111, .inl (ca 2, 2, .inr (.inl (fun _ => 0)))), (qm 112, .inl (ca 1, 2, .inl (fun _ => 0))), (qm 113, .inl (ca 2, 2, .inr (.inl (fun _ => 0)))), (qm 114, .inl (ca 2, 2, .inr (.inl (fun _ => 0)))), (qm 117, .inl (ca 1, 2, .inl (fun _ => 0))), (qm 118, .inl (ca 1, 2, .inl (fun _ => 0))), (qm 120, .inl (ca 1, 8000, .inl (fun _ => 0))), (qm 122, .inl (ca 1, 2, .inl (fun _ => 0))), (o, .inl (ca 2, 1, .inr (.inl (fun _ => 0)))), (mo, .inr (0, mF qm 0))] H := hP
    have hD : va_D A [(qm 1, .inr (1, [x0, x1, x2, x3, x4, x5, x6, x7])), (qm 12, .inl (ca 4, 148, .inr (.inr (.inr (.inr (fun _ => none)))))), (qm 110, .inl (ca 1, 2, .inl (fun _ => 0))), (qm 111, .inl (ca 2, 2, .inr (.inl (fun _ => 0)))), (qm 112, .inl (ca 1, 2, .inl (fun _ => 0))), (qm 113, .inl (ca 2, 2, .inr (.inl (fun _ => 0)))), (qm 114, .inl (ca 2, 2, .inr (.inl (fun _ => 0)))), (qm 117, .inl (ca 1, 2, .inl (fun _ => 0))), (qm 118, .inl (ca 1, 2, .inl (fun _ => 0))), (qm 120, .inl (ca 1, 8000, .inl (fun _ => 0))), (qm 122, .inl (ca 1, 2, .inl (fun _ => 0))), (o, .inl (ca 2, 1, .inr (.inl (fun _ => 0)))), (mo, .inr (0, mF qm 0))] := hD
    refine W.eq (g2 := F0 m 208 ls [.int (-1), .int (-1)]) rfl ?_
    refine lv_icmp_eq (tgt := 1327) hx hb d_law_208 (by decide) (fun _ => ?_) (fun h => absurd rfl h)
    refine W.widen (k := 300) (n := 650000) (Nat.le_of_ble_eq_true rfl) (Nat.le_of_ble_eq_true rfl) ?_
    exact kk H locs ls hS (lv_sub hl [0, 4] rfl)
set_option maxHeartbeats 4000000 in
set_option maxRecDepth 100000 in
theorem lc_1 {p : Program} {l : Launch} {e : Env} {s : State} {m : MethodId} {args : Array Value} {below : List Frame} {meth : Method} {c : Code} {H : Heap} {locs : List Loc} {Q : State → Prop} {dC : Nat → ClassId} {dI : Nat → Nat → Nat} {ca : Nat → ClassId} {A : Nat → Prop} {ls : Array Slot} {b : Nat} {xs : Nat → Int32} {xo mo o d0 d1 qa : Nat} {qs qm r0 r1 : Nat → Nat} {x0 x1 x2 x3 x4 x5 x6 x7 : Value} (hl9 : l.stackTraces = false) (L : lC p s m args c dC dI ca A b xs) (hP : va_P (dC, dI) classes [(xo, .inr (7, sF qs 0)), (qs 0, .inl (ca 0, 256, .inl (fun _ => 0))), (qs 4, .inl (ca 6, 160, .inr (.inr (.inr (.inr (fun _ => none)))))), (qs 7, .inl (ca 5, 2, .inr (.inr (.inr (.inr (va_up (va_up (fun _ => none) 0 (some d0)) 1 (some d1))))))), (qs 8, .inr (8, [.null, .int 0, .int 0])), (d0, .inr (17, sD r0)), (d1, .inr (17, sD r1)), (mo, .inr (0, mF qm 0)), (qm 1, .inr (1, [x0, x1, x2, x3, x4, x5, x6, x7])), (qm 2, .inr (2, [.ref qa, .int 0])), (qa, .inl (ca 0, 16, .inl (fun _ => 0))), (qm 12, .inl (ca 4, 148, .inr (.inr (.inr (.inr (fun _ => none)))))), (qm 110, .inl (ca 1, 2, .inl (fun _ => 0))), (qm 111, .inl (ca 2, 2, .inr (.inl (fun _ => 0)))), (qm 112, .inl (ca 1, 2, .inl (fun _ => 0))), (qm 113, .inl (ca 2, 2, .inr (.inl (fun _ => 0)))), (qm 114, .inl (ca 2, 2, .inr (.inl (fun _ => 0)))), (qm 117, .inl (ca 1, 2, .inl (fun _ => 0))), (qm 118, .inl (ca 1, 2, .inl (fun _ => 0))), (qm 120, .inl (ca 1, 8000, .inl (fun _ => 0))), (qm 122, .inl (ca 1, 2, .inl (fun _ => 0))), (o, .inl (ca 2, 1, .inr (.inl (fun _ => 0))))] H) (hD : va_D A [(xo, .inr (7, sF qs 0)), (qs 0, .inl (ca 0, 256, .inl (fun _ => 0))), (qs 4, .inl (ca 6, 160, .inr (.inr (.inr (.inr (fun _ => none)))))), (qs 7, .inl (ca 5, 2, .inr (.inr (.inr (.inr (va_up (va_up (fun _ => none) 0 (some d0)) 1 (some d1))))))), (qs 8, .inr (8, [.null, .int 0, .int 0])), (d0, .inr (17, sD r0)), (d1, .inr (17, sD r1)), (mo, .inr (0, mF qm 0)), (qm 1, .inr (1, [x0, x1, x2, x3, x4, x5, x6, x7])), (qm 2, .inr (2, [.ref qa, .int 0])), (qa, .inl (ca 0, 16, .inl (fun _ => 0))), (qm 12, .inl (ca 4, 148, .inr (.inr (.inr (.inr (fun _ => none)))))), (qm 110, .inl (ca 1, 2, .inl (fun _ => 0))), (qm 111, .inl (ca 2, 2, .inr (.inl (fun _ => 0)))), (qm 112, .inl (ca 1, 2, .inl (fun _ => 0))), (qm 113, .inl (ca 2, 2, .inr (.inl (fun _ => 0)))), (qm 114, .inl (ca 2, 2, .inr (.inl (fun _ => 0)))), (qm 117, .inl (ca 1, 2, .inl (fun _ => 0))), (qm 118, .inl (ca 1, 2, .inl (fun _ => 0))), (qm 120, .inl (ca 1, 8000, .inl (fun _ => 0))), (qm 122, .inl (ca 1, 2, .inl (fun _ => 0))), (o, .inl (ca 2, 1, .inr (.inl (fun _ => 0))))]) (hS : va_S A s.heap H locs) (hl : lv_has ls 8 [(4, .int 0), (3, .ref o), (2, .ref mo), (1, .ref xo), (0, .ref b)])
    (kk : lkk p l e s m args below meth c A b Q) : W p l e room_1 s m args below meth c H locs 236 644961 Q (F0 m 213 ls []) := by
  obtain ⟨hx, hb, hml, hown, hts, hKm, hE, hA, hAs, hX, hbl, hbA⟩ := L
  have hKs := hE.1.1
  refine lv_aload_n hx hb d_law_213 rfl (lv_at hl 3 rfl) ?_
  refine ax_Vb (Z := sk) (ci := 7) (q0 := 0) (k := 0) (As := []) (rest := []) (wr := [(mo, .inr (0, mF qm 0)), (qm 1, .inr (1, [x0, x1, x2, x3, x4, x5, x6, x7])), (qm 2, .inr (2, [.ref qa, .int 0])), (qa, .inl (ca 0, 16, .inl (fun _ => 0))), (qm 12, .inl (ca 4, 148, .inr (.inr (.inr (.inr (fun _ => none)))))), (qm 110, .inl (ca 1, 2, .inl (fun _ => 0))), (qm 111, .inl (ca 2, 2, .inr (.inl (fun _ => 0)))), (qm 112, .inl (ca 1, 2, .inl (fun _ => 0))), (qm 113, .inl (ca 2, 2, .inr (.inl (fun _ => 0)))), (qm 114, .inl (ca 2, 2, .inr (.inl (fun _ => 0)))), (qm 117, .inl (ca 1, 2, .inl (fun _ => 0))), (qm 118, .inl (ca 1, 2, .inl (fun _ => 0))), (qm 120, .inl (ca 1, 8000, .inl (fun _ => 0))), (qm 122, .inl (ca 1, 2, .inl (fun _ => 0))), (o, .inl (ca 2, 1, .inr (.inl (fun _ => 0))))]) rfl hx hb hml hown hts g_sk sk_lk (sK_bl dC dI ca) (c_SS_take l dC dI ca xo qs) xl_4 xs_176 xs_0 xs_178 xs_177 (by decide +kernel) rfl (Nat.le_of_ble_eq_true rfl) (Nat.le_of_ble_eq_true rfl) hl.1 (Nat.le_of_ble_eq_true rfl) (sK_up hKs) hKs.1 hP hD hS hA rfl rfl [0, 1, 2, 4] [7, 8, 9, 10, 11, 12, 13, 14, 15, 16, 17, 18, 19, 20, 21] rfl (by decide) rfl rfl (by decide) (by decide) (Nat.le_of_ble_eq_true rfl) (Nat.le_of_ble_eq_true rfl) d_law_214 (fun v u H locs hp hP hD hS => ?_)
  obtain rfl : v = some (.int (-2)) := hp
  have hP : va_P (dC, dI) classes [(mo, .inr (0, mF qm 0)), (qm 1, .inr (1, [x0, x1, x2, x3, x4, x5, x6, x7])), (qm 2, .inr (2, [.ref qa, .int 0])), (qa, .inl (ca 0, 16, .inl (fun _ => 0))), (qm 12, .inl (ca 4, 148, .inr (.inr (.inr (.inr (fun _ => none)))))), (qm 110, .inl (ca 1, 2, .inl (fun _ => 0))), (qm 111, .inl (ca 2, 2, .inr (.inl (fun _ => 0)))), (qm 112, .inl (ca 1, 2, .inl (fun _ => 0))), (qm 113, .inl (ca 2, 2, .inr (.inl (fun _ => 0)))), (qm 114, .inl (ca 2, 2, .inr (.inl (fun _ => 0)))), (qm 117, .inl (ca 1, 2, .inl (fun _ => 0))), (qm 118, .inl (ca 1, 2, .inl (fun _ => 0))), (qm 120, .inl (ca 1, 8000, .inl (fun _ => 0))), (qm 122, .inl (ca 1, 2, .inl (fun _ => 0))), (o, .inl (ca 2, 1, .inr (.inl (fun _ => 0)))), (xo, .inr (7, sF qs 0))] H := hP
  have hD : va_D A [(mo, .inr (0, mF qm 0)), (qm 1, .inr (1, [x0, x1, x2, x3, x4, x5, x6, x7])), (qm 2, .inr (2, [.ref qa, .int 0])), (qa, .inl (ca 0, 16, .inl (fun _ => 0))), (qm 12, .inl (ca 4, 148, .inr (.inr (.inr (.inr (fun _ => none)))))), (qm 110, .inl (ca 1, 2, .inl (fun _ => 0))), (qm 111, .inl (ca 2, 2, .inr (.inl (fun _ => 0)))), (qm 112, .inl (ca 1, 2, .inl (fun _ => 0))), (qm 113, .inl (ca 2, 2, .inr (.inl (fun _ => 0)))), (qm 114, .inl (ca 2, 2, .inr (.inl (fun _ => 0)))), (qm 117, .inl (ca 1, 2, .inl (fun _ => 0))), (qm 118, .inl (ca 1, 2, .inl (fun _ => 0))), (qm 120, .inl (ca 1, 8000, .inl (fun _ => 0))), (qm 122, .inl (ca 1, 2, .inl (fun _ => 0))), (o, .inl (ca 2, 1, .inr (.inl (fun _ => 0)))), (xo, .inr (7, sF qs 0))] := hD
  refine W.eq (g2 := F0 m 217 ls [.int (-2)]) rfl ?_
  refine lv_aload_n hx hb d_law_217 rfl (lv_at hl 2 rfl) ?_
  have hP : va_P (dC, dI) classes [(mo, .inr (0, mF2 qm 0 (.null) 0 0 0)), (qm 1, .inr (1, [x0, x1, x2, x3, x4, x5, x6, x7])), (qm 2, .inr (2, [.ref qa, .int 0])), (qa, .inl (ca 0, 16, .inl (fun _ => 0))), (qm 12, .inl (ca 4, 148, .inr (.inr (.inr (.inr (fun _ => none)))))), (qm 110, .inl (ca 1, 2, .inl (fun _ => 0))), (qm 111, .inl (ca 2, 2, .inr (.inl (fun _ => 0)))), (qm 112, .inl (ca 1, 2, .inl (fun _ => 0))), (qm 113, .inl (ca 2, 2, .inr (.inl (fun _ => 0)))), (qm 114, .inl (ca 2, 2, .inr (.inl (fun _ => 0)))), (qm 117, .inl (ca 1, 2, .inl (fun _ => 0))), (qm 118, .inl (ca 1, 2, .inl (fun _ => 0))), (qm 120, .inl (ca 1, 8000, .inl (fun _ => 0))), (qm 122, .inl (ca 1, 2, .inl (fun _ => 0))), (o, .inl (ca 2, 1, .inr (.inl (fun _ => 0)))), (xo, .inr (7, sF qs 0))] H := hP
  have hD : va_D A [(mo, .inr (0, mF2 qm 0 (.null) 0 0 0)), (qm 1, .inr (1, [x0, x1, x2, x3, x4, x5, x6, x7])), (qm 2, .inr (2, [.ref qa, .int 0])), (qa, .inl (ca 0, 16, .inl (fun _ => 0))), (qm 12, .inl (ca 4, 148, .inr (.inr (.inr (.inr (fun _ => none)))))), (qm 110, .inl (ca 1, 2, .inl (fun _ => 0))), (qm 111, .inl (ca 2, 2, .inr (.inl (fun _ => 0)))), (qm 112, .inl (ca 1, 2, .inl (fun _ => 0))), (qm 113, .inl (ca 2, 2, .inr (.inl (fun _ => 0)))), (qm 114, .inl (ca 2, 2, .inr (.inl (fun _ => 0)))), (qm 117, .inl (ca 1, 2, .inl (fun _ => 0))), (qm 118, .inl (ca 1, 2, .inl (fun _ => 0))), (qm 120, .inl (ca 1, 8000, .inl (fun _ => 0))), (qm 122, .inl (ca 1, 2, .inl (fun _ => 0))), (o, .inl (ca 2, 1, .inr (.inl (fun _ => 0)))), (xo, .inr (7, sF qs 0))] := hD
  refine ax_VWb (Z := wm) (ci := 0) (q0 := 0) (k := 0) (As := []) (rest := [.int (-2)]) (wr := [(qa, .inl (ca 0, 16, .inl (fun _ => 0))), (qm 110, .inl (ca 1, 2, .inl (fun _ => 0))), (qm 111, .inl (ca 2, 2, .inr (.inl (fun _ => 0)))), (qm 112, .inl (ca 1, 2, .inl (fun _ => 0))), (qm 113, .inl (ca 2, 2, .inr (.inl (fun _ => 0)))), (qm 114, .inl (ca 2, 2, .inr (.inl (fun _ => 0)))), (qm 117, .inl (ca 1, 2, .inl (fun _ => 0))), (qm 118, .inl (ca 1, 2, .inl (fun _ => 0))), (qm 120, .inl (ca 1, 8000, .inl (fun _ => 0))), (qm 122, .inl (ca 1, 2, .inl (fun _ => 0))), (o, .inl (ca 2, 1, .inr (.inl (fun _ => 0)))), (xo, .inr (7, sF qs 0))]) rfl hx hb hml hown hts g_wm wm_lk (mK_bl dC dI ca) (c_MM_take l dC dI ca mo qm 0 qa x0 x1 x2 x3 x4 x5 x6 x7) xl_47 xm_194 xm_0 xm_196 xm_195 (by decide +kernel) rfl (Nat.le_of_ble_eq_true rfl) (Nat.le_of_ble_eq_true rfl) hl.1 (Nat.le_of_ble_eq_true rfl) (mK_up hKm) hKm.1 hP hD hS hA rfl rfl [0, 1, 2, 4] [3, 5, 6, 7, 8, 9, 10, 11, 12, 13, 14, 15] rfl (by decide) rfl rfl (by decide) (by decide) (Nat.le_of_ble_eq_true rfl) (Nat.le_of_ble_eq_true rfl) d_law_218 (fun v u H locs hp hP hD hS => ?_)
  obtain rfl : v = some (.int (-2)) := hp
  have hP : va_P (dC, dI) classes [(qa, .inl (ca 0, 16, .inl (fun _ => 0))), (qm 110, .inl (ca 1, 2, .inl (fun _ => 0))), (qm 111, .inl (ca 2, 2, .inr (.inl (fun _ => 0)))), (qm 112, .inl (ca 1, 2, .inl (fun _ => 0))), (qm 113, .inl (ca 2, 2, .inr (.inl (fun _ => 0)))), (qm 114, .inl (ca 2, 2, .inr (.inl (fun _ => 0)))), (qm 117, .inl (ca 1, 2, .inl (fun _ => 0))), (qm 118, .inl (ca 1, 2, .inl (fun _ => 0))), (qm 120, .inl (ca 1, 8000, .inl (fun _ => 0))), (qm 122, .inl (ca 1, 2, .inl (fun _ => 0))), (o, .inl (ca 2, 1, .inr (.inl (fun _ => 0)))), (xo, .inr (7, sF qs 0))] H := hP
  have hD : va_D A [(qa, .inl (ca 0, 16, .inl (fun _ => 0))), (qm 110, .inl (ca 1, 2, .inl (fun _ => 0))), (qm 111, .inl (ca 2, 2, .inr (.inl (fun _ => 0)))), (qm 112, .inl (ca 1, 2, .inl (fun _ => 0))), (qm 113, .inl (ca 2, 2, .inr (.inl (fun _ => 0)))), (qm 114, .inl (ca 2, 2, .inr (.inl (fun _ => 0)))), (qm 117, .inl (ca 1, 2, .inl (fun _ => 0))), (qm 118, .inl (ca 1, 2, .inl (fun _ => 0))), (qm 120, .inl (ca 1, 8000, .inl (fun _ => 0))), (qm 122, .inl (ca 1, 2, .inl (fun _ => 0))), (o, .inl (ca 2, 1, .inr (.inl (fun _ => 0)))), (xo, .inr (7, sF qs 0))] := hD
  refine W.eq (g2 := F0 m 221 ls [.int (-2), .int (-2)]) rfl ?_
  refine lv_icmp_eq (tgt := 1327) hx hb d_law_221 (by decide) (fun _ => ?_) (fun h => absurd rfl h)
  refine W.widen (k := 300) (n := 650000) (Nat.le_of_ble_eq_true rfl) (Nat.le_of_ble_eq_true rfl) ?_
  exact kk H locs ls hS (lv_sub hl [0, 4] rfl)
set_option maxHeartbeats 4000000 in
set_option maxRecDepth 100000 in
theorem lc_2 {p : Program} {l : Launch} {e : Env} {s : State} {m : MethodId} {args : Array Value} {below : List Frame} {meth : Method} {c : Code} {H : Heap} {locs : List Loc} {Q : State → Prop} {dC : Nat → ClassId} {dI : Nat → Nat → Nat} {ca : Nat → ClassId} {A : Nat → Prop} {ls : Array Slot} {b : Nat} {xs : Nat → Int32} {xo mo o d0 d1 qa : Nat} {qs qm r0 r1 : Nat → Nat} {x0 x1 x2 x3 x4 x5 x6 x7 : Value} (hl9 : l.stackTraces = false) (L : lC p s m args c dC dI ca A b xs) (hP : va_P (dC, dI) classes [(xo, .inr (7, sF qs 0)), (qs 0, .inl (ca 0, 256, .inl (fun _ => 0))), (qs 4, .inl (ca 6, 160, .inr (.inr (.inr (.inr (fun _ => none)))))), (qs 7, .inl (ca 5, 2, .inr (.inr (.inr (.inr (va_up (va_up (fun _ => none) 0 (some d0)) 1 (some d1))))))), (qs 8, .inr (8, [.null, .int 0, .int 0])), (d0, .inr (17, sD r0)), (d1, .inr (17, sD r1)), (mo, .inr (0, mF qm 0)), (qm 1, .inr (1, [x0, x1, x2, x3, x4, x5, x6, x7])), (qm 2, .inr (2, [.ref qa, .int 0])), (qa, .inl (ca 0, 16, .inl (fun _ => 0))), (qm 12, .inl (ca 4, 148, .inr (.inr (.inr (.inr (fun _ => none)))))), (qm 110, .inl (ca 1, 2, .inl (fun _ => 0))), (qm 111, .inl (ca 2, 2, .inr (.inl (fun _ => 0)))), (qm 112, .inl (ca 1, 2, .inl (fun _ => 0))), (qm 113, .inl (ca 2, 2, .inr (.inl (fun _ => 0)))), (qm 114, .inl (ca 2, 2, .inr (.inl (fun _ => 0)))), (qm 117, .inl (ca 1, 2, .inl (fun _ => 0))), (qm 118, .inl (ca 1, 2, .inl (fun _ => 0))), (qm 120, .inl (ca 1, 8000, .inl (fun _ => 0))), (qm 122, .inl (ca 1, 2, .inl (fun _ => 0))), (o, .inl (ca 2, 1, .inr (.inl (fun _ => 0))))] H) (hD : va_D A [(xo, .inr (7, sF qs 0)), (qs 0, .inl (ca 0, 256, .inl (fun _ => 0))), (qs 4, .inl (ca 6, 160, .inr (.inr (.inr (.inr (fun _ => none)))))), (qs 7, .inl (ca 5, 2, .inr (.inr (.inr (.inr (va_up (va_up (fun _ => none) 0 (some d0)) 1 (some d1))))))), (qs 8, .inr (8, [.null, .int 0, .int 0])), (d0, .inr (17, sD r0)), (d1, .inr (17, sD r1)), (mo, .inr (0, mF qm 0)), (qm 1, .inr (1, [x0, x1, x2, x3, x4, x5, x6, x7])), (qm 2, .inr (2, [.ref qa, .int 0])), (qa, .inl (ca 0, 16, .inl (fun _ => 0))), (qm 12, .inl (ca 4, 148, .inr (.inr (.inr (.inr (fun _ => none)))))), (qm 110, .inl (ca 1, 2, .inl (fun _ => 0))), (qm 111, .inl (ca 2, 2, .inr (.inl (fun _ => 0)))), (qm 112, .inl (ca 1, 2, .inl (fun _ => 0))), (qm 113, .inl (ca 2, 2, .inr (.inl (fun _ => 0)))), (qm 114, .inl (ca 2, 2, .inr (.inl (fun _ => 0)))), (qm 117, .inl (ca 1, 2, .inl (fun _ => 0))), (qm 118, .inl (ca 1, 2, .inl (fun _ => 0))), (qm 120, .inl (ca 1, 8000, .inl (fun _ => 0))), (qm 122, .inl (ca 1, 2, .inl (fun _ => 0))), (o, .inl (ca 2, 1, .inr (.inl (fun _ => 0))))]) (hS : va_S A s.heap H locs) (hl : lv_has ls 8 [(4, .int 0), (3, .ref o), (2, .ref mo), (1, .ref xo), (0, .ref b)])
    (kk : lkk p l e s m args below meth c A b Q) : W p l e room_1 s m args below meth c H locs 236 644961 Q (F0 m 226 ls []) := by
  obtain ⟨hx, hb, hml, hown, hts, hKm, hE, hA, hAs, hX, hbl, hbA⟩ := L
  have hKs := hE.1.1
  refine lv_aload_n hx hb d_law_226 rfl (lv_at hl 3 rfl) ?_
  refine lv_aload_n hx hb d_law_227 rfl (lv_at hl 4 rfl) ?_
  refine lv_iload hx hb d_law_228 (lv_at hl 0 rfl) ?_
  refine lv_iconst (v := 1) hx hb d_law_230 (by decide) ?_
  refine lv_iadd hx hb d_law_231 ?_
  refine lv_topi (fun z e9 => ?_)
  obtain rfl : z = 1 := by rw [e9]; decide
  refine va_sld hx hb hX hbl hbA hS (by unfold vp_in; decide) d_law_232 ?_
  refine lv_aload_n hx hb d_law_233 rfl (lv_at hl 4 rfl) ?_
  refine lv_iload hx hb d_law_234 (lv_at hl 0 rfl) ?_
  refine lv_iconst (v := 2) hx hb d_law_236 (by decide) ?_
  refine lv_iadd hx hb d_law_237 ?_
  refine lv_topi (fun z e9 => ?_)
  obtain rfl : z = 2 := by rw [e9]; decide
  refine va_sld hx hb hX hbl hbA hS (by unfold vp_in; decide) d_law_238 ?_
  refine ax_Vb (Z := sk) (ci := 7) (q0 := 0) (k := 2) (As := [.int (xs (Int32.toNatClampNeg 1)), .int (xs (Int32.toNatClampNeg 2))]) (rest := []) (wr := [(mo, .inr (0, mF qm 0)), (qm 1, .inr (1, [x0, x1, x2, x3, x4, x5, x6, x7])), (qm 2, .inr (2, [.ref qa, .int 0])), (qa, .inl (ca 0, 16, .inl (fun _ => 0))), (qm 12, .inl (ca 4, 148, .inr (.inr (.inr (.inr (fun _ => none)))))), (qm 110, .inl (ca 1, 2, .inl (fun _ => 0))), (qm 111, .inl (ca 2, 2, .inr (.inl (fun _ => 0)))), (qm 112, .inl (ca 1, 2, .inl (fun _ => 0))), (qm 113, .inl (ca 2, 2, .inr (.inl (fun _ => 0)))), (qm 114, .inl (ca 2, 2, .inr (.inl (fun _ => 0)))), (qm 117, .inl (ca 1, 2, .inl (fun _ => 0))), (qm 118, .inl (ca 1, 2, .inl (fun _ => 0))), (qm 120, .inl (ca 1, 8000, .inl (fun _ => 0))), (qm 122, .inl (ca 1, 2, .inl (fun _ => 0))), (o, .inl (ca 2, 1, .inr (.inl (fun _ => 0))))]) rfl hx hb hml hown hts g_sk sk_lk (sK_bl dC dI ca) (c_SS_file l dC dI ca xo qs 0 ((xs (Int32.toNatClampNeg 1))) ((xs (Int32.toNatClampNeg 2)))) xl_5 xs_249 xs_0 xs_251 xs_250 (by decide +kernel) rfl (Nat.le_of_ble_eq_true rfl) (Nat.le_of_ble_eq_true rfl) hl.1 (Nat.le_of_ble_eq_true rfl) (sK_up hKs) hKs.1 hP hD hS hA rfl rfl [0] [7, 8, 9, 10, 11, 12, 13, 14, 15, 16, 17, 18, 19, 20, 21] rfl (by decide) rfl rfl (by decide) (by decide) (Nat.le_of_ble_eq_true rfl) (Nat.le_of_ble_eq_true rfl) d_law_239 (fun v u H locs hp hP hD hS => ?_)
  obtain rfl : v = some (.int (-1)) := hp
  have hP : va_P (dC, dI) classes [(mo, .inr (0, mF qm 0)), (qm 1, .inr (1, [x0, x1, x2, x3, x4, x5, x6, x7])), (qm 2, .inr (2, [.ref qa, .int 0])), (qa, .inl (ca 0, 16, .inl (fun _ => 0))), (qm 12, .inl (ca 4, 148, .inr (.inr (.inr (.inr (fun _ => none)))))), (qm 110, .inl (ca 1, 2, .inl (fun _ => 0))), (qm 111, .inl (ca 2, 2, .inr (.inl (fun _ => 0)))), (qm 112, .inl (ca 1, 2, .inl (fun _ => 0))), (qm 113, .inl (ca 2, 2, .inr (.inl (fun _ => 0)))), (qm 114, .inl (ca 2, 2, .inr (.inl (fun _ => 0)))), (qm 117, .inl (ca 1, 2, .inl (fun _ => 0))), (qm 118, .inl (ca 1, 2, .inl (fun _ => 0))), (qm 120, .inl (ca 1, 8000, .inl (fun _ => 0))), (qm 122, .inl (ca 1, 2, .inl (fun _ => 0))), (o, .inl (ca 2, 1, .inr (.inl (fun _ => 0)))), (xo, .inr (7, sF qs 0))] H := hP
  have hD : va_D A [(mo, .inr (0, mF qm 0)), (qm 1, .inr (1, [x0, x1, x2, x3, x4, x5, x6, x7])), (qm 2, .inr (2, [.ref qa, .int 0])), (qa, .inl (ca 0, 16, .inl (fun _ => 0))), (qm 12, .inl (ca 4, 148, .inr (.inr (.inr (.inr (fun _ => none)))))), (qm 110, .inl (ca 1, 2, .inl (fun _ => 0))), (qm 111, .inl (ca 2, 2, .inr (.inl (fun _ => 0)))), (qm 112, .inl (ca 1, 2, .inl (fun _ => 0))), (qm 113, .inl (ca 2, 2, .inr (.inl (fun _ => 0)))), (qm 114, .inl (ca 2, 2, .inr (.inl (fun _ => 0)))), (qm 117, .inl (ca 1, 2, .inl (fun _ => 0))), (qm 118, .inl (ca 1, 2, .inl (fun _ => 0))), (qm 120, .inl (ca 1, 8000, .inl (fun _ => 0))), (qm 122, .inl (ca 1, 2, .inl (fun _ => 0))), (o, .inl (ca 2, 1, .inr (.inl (fun _ => 0)))), (xo, .inr (7, sF qs 0))] := hD
  refine W.eq (g2 := F0 m 242 ls [.int (-1)]) rfl ?_
  refine lv_aload_n hx hb d_law_242 rfl (lv_at hl 2 rfl) ?_
  refine lv_aload_n hx hb d_law_243 rfl (lv_at hl 4 rfl) ?_
  refine lv_iload hx hb d_law_244 (lv_at hl 0 rfl) ?_
  refine lv_iconst (v := 1) hx hb d_law_246 (by decide) ?_
  refine lv_iadd hx hb d_law_247 ?_
  refine lv_topi (fun z e9 => ?_)
  obtain rfl : z = 1 := by rw [e9]; decide
  refine va_sld hx hb hX hbl hbA hS (by unfold vp_in; decide) d_law_248 ?_
  refine lv_aload_n hx hb d_law_249 rfl (lv_at hl 4 rfl) ?_
  refine lv_iload hx hb d_law_250 (lv_at hl 0 rfl) ?_
  refine lv_iconst (v := 2) hx hb d_law_252 (by decide) ?_
  refine lv_iadd hx hb d_law_253 ?_
  refine lv_topi (fun z e9 => ?_)
  obtain rfl : z = 2 := by rw [e9]; decide
  refine va_sld hx hb hX hbl hbA hS (by unfold vp_in; decide) d_law_254 ?_
  refine ax_Vb (Z := wm) (ci := 0) (q0 := 0) (k := 2) (As := [.int (xs (Int32.toNatClampNeg 1)), .int (xs (Int32.toNatClampNeg 2))]) (rest := [.int (-1)]) (wr := [(qm 1, .inr (1, [x0, x1, x2, x3, x4, x5, x6, x7])), (qm 2, .inr (2, [.ref qa, .int 0])), (qa, .inl (ca 0, 16, .inl (fun _ => 0))), (qm 12, .inl (ca 4, 148, .inr (.inr (.inr (.inr (fun _ => none)))))), (qm 110, .inl (ca 1, 2, .inl (fun _ => 0))), (qm 111, .inl (ca 2, 2, .inr (.inl (fun _ => 0)))), (qm 112, .inl (ca 1, 2, .inl (fun _ => 0))), (qm 113, .inl (ca 2, 2, .inr (.inl (fun _ => 0)))), (qm 114, .inl (ca 2, 2, .inr (.inl (fun _ => 0)))), (qm 117, .inl (ca 1, 2, .inl (fun _ => 0))), (qm 118, .inl (ca 1, 2, .inl (fun _ => 0))), (qm 120, .inl (ca 1, 8000, .inl (fun _ => 0))), (qm 122, .inl (ca 1, 2, .inl (fun _ => 0))), (o, .inl (ca 2, 1, .inr (.inl (fun _ => 0)))), (xo, .inr (7, sF qs 0))]) rfl hx hb hml hown hts g_wm wm_lk (mK_bl dC dI ca) (c_MM_file l dC dI ca mo qm 0 ((xs (Int32.toNatClampNeg 1))) ((xs (Int32.toNatClampNeg 2)))) xl_56 xm_296 xm_0 xm_298 xm_297 (by decide +kernel) rfl (Nat.le_of_ble_eq_true rfl) (Nat.le_of_ble_eq_true rfl) hl.1 (Nat.le_of_ble_eq_true rfl) (mK_up hKm) hKm.1 hP hD hS hA rfl rfl [0] [1, 2, 3, 4, 5, 6, 7, 8, 9, 10, 11, 12, 13, 14, 15] rfl (by decide) rfl rfl (by decide) (by decide) (Nat.le_of_ble_eq_true rfl) (Nat.le_of_ble_eq_true rfl) d_law_255 (fun v u H locs hp hP hD hS => ?_)
  obtain rfl : v = some (.int (-1)) := hp
  have hP : va_P (dC, dI) classes [(qm 1, .inr (1, [x0, x1, x2, x3, x4, x5, x6, x7])), (qm 2, .inr (2, [.ref qa, .int 0])), (qa, .inl (ca 0, 16, .inl (fun _ => 0))), (qm 12, .inl (ca 4, 148, .inr (.inr (.inr (.inr (fun _ => none)))))), (qm 110, .inl (ca 1, 2, .inl (fun _ => 0))), (qm 111, .inl (ca 2, 2, .inr (.inl (fun _ => 0)))), (qm 112, .inl (ca 1, 2, .inl (fun _ => 0))), (qm 113, .inl (ca 2, 2, .inr (.inl (fun _ => 0)))), (qm 114, .inl (ca 2, 2, .inr (.inl (fun _ => 0)))), (qm 117, .inl (ca 1, 2, .inl (fun _ => 0))), (qm 118, .inl (ca 1, 2, .inl (fun _ => 0))), (qm 120, .inl (ca 1, 8000, .inl (fun _ => 0))), (qm 122, .inl (ca 1, 2, .inl (fun _ => 0))), (o, .inl (ca 2, 1, .inr (.inl (fun _ => 0)))), (xo, .inr (7, sF qs 0)), (mo, .inr (0, mF qm 0))] H := hP
  have hD : va_D A [(qm 1, .inr (1, [x0, x1, x2, x3, x4, x5, x6, x7])), (qm 2, .inr (2, [.ref qa, .int 0])), (qa, .inl (ca 0, 16, .inl (fun _ => 0))), (qm 12, .inl (ca 4, 148, .inr (.inr (.inr (.inr (fun _ => none)))))), (qm 110, .inl (ca 1, 2, .inl (fun _ => 0))), (qm 111, .inl (ca 2, 2, .inr (.inl (fun _ => 0)))), (qm 112, .inl (ca 1, 2, .inl (fun _ => 0))), (qm 113, .inl (ca 2, 2, .inr (.inl (fun _ => 0)))), (qm 114, .inl (ca 2, 2, .inr (.inl (fun _ => 0)))), (qm 117, .inl (ca 1, 2, .inl (fun _ => 0))), (qm 118, .inl (ca 1, 2, .inl (fun _ => 0))), (qm 120, .inl (ca 1, 8000, .inl (fun _ => 0))), (qm 122, .inl (ca 1, 2, .inl (fun _ => 0))), (o, .inl (ca 2, 1, .inr (.inl (fun _ => 0)))), (xo, .inr (7, sF qs 0)), (mo, .inr (0, mF qm 0))] := hD
  refine W.eq (g2 := F0 m 258 ls [.int (-1), .int (-1)]) rfl ?_
  refine lv_icmp_eq (tgt := 1327) hx hb d_law_258 (by decide) (fun _ => ?_) (fun h => absurd rfl h)
  refine W.widen (k := 300) (n := 650000) (Nat.le_of_ble_eq_true rfl) (Nat.le_of_ble_eq_true rfl) ?_
  exact kk H locs ls hS (lv_sub hl [0, 4] rfl)
set_option maxHeartbeats 4000000 in
set_option maxRecDepth 100000 in
theorem lc_3 {p : Program} {l : Launch} {e : Env} {s : State} {m : MethodId} {args : Array Value} {below : List Frame} {meth : Method} {c : Code} {H : Heap} {locs : List Loc} {Q : State → Prop} {dC : Nat → ClassId} {dI : Nat → Nat → Nat} {ca : Nat → ClassId} {A : Nat → Prop} {ls : Array Slot} {b : Nat} {xs : Nat → Int32} {xo mo o d0 d1 qa : Nat} {qs qm r0 r1 : Nat → Nat} {x0 x1 x2 x3 x4 x5 x6 x7 : Value} (hl9 : l.stackTraces = false) (L : lC p s m args c dC dI ca A b xs) (hP : va_P (dC, dI) classes [(xo, .inr (7, sF qs 0)), (qs 0, .inl (ca 0, 256, .inl (fun _ => 0))), (qs 4, .inl (ca 6, 160, .inr (.inr (.inr (.inr (fun _ => none)))))), (qs 7, .inl (ca 5, 2, .inr (.inr (.inr (.inr (va_up (va_up (fun _ => none) 0 (some d0)) 1 (some d1))))))), (qs 8, .inr (8, [.null, .int 0, .int 0])), (d0, .inr (17, sD r0)), (d1, .inr (17, sD r1)), (mo, .inr (0, mF qm 0)), (qm 1, .inr (1, [x0, x1, x2, x3, x4, x5, x6, x7])), (qm 2, .inr (2, [.ref qa, .int 0])), (qa, .inl (ca 0, 16, .inl (fun _ => 0))), (qm 12, .inl (ca 4, 148, .inr (.inr (.inr (.inr (fun _ => none)))))), (qm 110, .inl (ca 1, 2, .inl (fun _ => 0))), (qm 111, .inl (ca 2, 2, .inr (.inl (fun _ => 0)))), (qm 112, .inl (ca 1, 2, .inl (fun _ => 0))), (qm 113, .inl (ca 2, 2, .inr (.inl (fun _ => 0)))), (qm 114, .inl (ca 2, 2, .inr (.inl (fun _ => 0)))), (qm 117, .inl (ca 1, 2, .inl (fun _ => 0))), (qm 118, .inl (ca 1, 2, .inl (fun _ => 0))), (qm 120, .inl (ca 1, 8000, .inl (fun _ => 0))), (qm 122, .inl (ca 1, 2, .inl (fun _ => 0))), (o, .inl (ca 2, 1, .inr (.inl (fun _ => 0))))] H) (hD : va_D A [(xo, .inr (7, sF qs 0)), (qs 0, .inl (ca 0, 256, .inl (fun _ => 0))), (qs 4, .inl (ca 6, 160, .inr (.inr (.inr (.inr (fun _ => none)))))), (qs 7, .inl (ca 5, 2, .inr (.inr (.inr (.inr (va_up (va_up (fun _ => none) 0 (some d0)) 1 (some d1))))))), (qs 8, .inr (8, [.null, .int 0, .int 0])), (d0, .inr (17, sD r0)), (d1, .inr (17, sD r1)), (mo, .inr (0, mF qm 0)), (qm 1, .inr (1, [x0, x1, x2, x3, x4, x5, x6, x7])), (qm 2, .inr (2, [.ref qa, .int 0])), (qa, .inl (ca 0, 16, .inl (fun _ => 0))), (qm 12, .inl (ca 4, 148, .inr (.inr (.inr (.inr (fun _ => none)))))), (qm 110, .inl (ca 1, 2, .inl (fun _ => 0))), (qm 111, .inl (ca 2, 2, .inr (.inl (fun _ => 0)))), (qm 112, .inl (ca 1, 2, .inl (fun _ => 0))), (qm 113, .inl (ca 2, 2, .inr (.inl (fun _ => 0)))), (qm 114, .inl (ca 2, 2, .inr (.inl (fun _ => 0)))), (qm 117, .inl (ca 1, 2, .inl (fun _ => 0))), (qm 118, .inl (ca 1, 2, .inl (fun _ => 0))), (qm 120, .inl (ca 1, 8000, .inl (fun _ => 0))), (qm 122, .inl (ca 1, 2, .inl (fun _ => 0))), (o, .inl (ca 2, 1, .inr (.inl (fun _ => 0))))]) (hS : va_S A s.heap H locs) (hl : lv_has ls 8 [(4, .int 0), (3, .ref o), (2, .ref mo), (1, .ref xo), (0, .ref b)])
    (kk : lkk p l e s m args below meth c A b Q) : W p l e room_1 s m args below meth c H locs 236 644961 Q (F0 m 263 ls []) := by
  obtain ⟨hx, hb, hml, hown, hts, hKm, hE, hA, hAs, hX, hbl, hbA⟩ := L
  have hKs := hE.1.1
  refine lv_aload_n hx hb d_law_263 rfl (lv_at hl 3 rfl) ?_
  refine lv_aload_n hx hb d_law_264 rfl (lv_at hl 4 rfl) ?_
  refine lv_iload hx hb d_law_265 (lv_at hl 0 rfl) ?_
  refine lv_iconst (v := 1) hx hb d_law_267 (by decide) ?_
  refine lv_iadd hx hb d_law_268 ?_
  refine lv_topi (fun z e9 => ?_)
  obtain rfl : z = 1 := by rw [e9]; decide
  refine va_sld hx hb hX hbl hbA hS (by unfold vp_in; decide) d_law_269 ?_
  refine lv_aload_n hx hb d_law_270 rfl (lv_at hl 4 rfl) ?_
  refine lv_iload hx hb d_law_271 (lv_at hl 0 rfl) ?_
  refine lv_iconst (v := 2) hx hb d_law_273 (by decide) ?_
  refine lv_iadd hx hb d_law_274 ?_
  refine lv_topi (fun z e9 => ?_)
  obtain rfl : z = 2 := by rw [e9]; decide
  refine va_sld hx hb hX hbl hbA hS (by unfold vp_in; decide) d_law_275 ?_
  refine lv_aload_n hx hb d_law_276 rfl (lv_at hl 4 rfl) ?_
  refine lv_iload hx hb d_law_277 (lv_at hl 0 rfl) ?_
  refine lv_iconst (v := 3) hx hb d_law_279 (by decide) ?_
  refine lv_iadd hx hb d_law_280 ?_
  refine lv_topi (fun z e9 => ?_)
  obtain rfl : z = 3 := by rw [e9]; decide
  refine va_sld hx hb hX hbl hbA hS (by unfold vp_in; decide) d_law_281 ?_
  refine ax_Vb (Z := sk) (ci := 7) (q0 := 0) (k := 3) (As := [.int (xs (Int32.toNatClampNeg 1)), .int (xs (Int32.toNatClampNeg 2)), .int (xs (Int32.toNatClampNeg 3))]) (rest := []) (wr := [(mo, .inr (0, mF qm 0)), (qm 1, .inr (1, [x0, x1, x2, x3, x4, x5, x6, x7])), (qm 2, .inr (2, [.ref qa, .int 0])), (qa, .inl (ca 0, 16, .inl (fun _ => 0))), (qm 12, .inl (ca 4, 148, .inr (.inr (.inr (.inr (fun _ => none)))))), (qm 110, .inl (ca 1, 2, .inl (fun _ => 0))), (qm 111, .inl (ca 2, 2, .inr (.inl (fun _ => 0)))), (qm 112, .inl (ca 1, 2, .inl (fun _ => 0))), (qm 113, .inl (ca 2, 2, .inr (.inl (fun _ => 0)))), (qm 114, .inl (ca 2, 2, .inr (.inl (fun _ => 0)))), (qm 117, .inl (ca 1, 2, .inl (fun _ => 0))), (qm 118, .inl (ca 1, 2, .inl (fun _ => 0))), (qm 120, .inl (ca 1, 8000, .inl (fun _ => 0))), (qm 122, .inl (ca 1, 2, .inl (fun _ => 0))), (o, .inl (ca 2, 1, .inr (.inl (fun _ => 0))))]) rfl hx hb hml hown hts g_sk sk_lk (sK_bl dC dI ca) (c_SS_byteAt l dC dI ca xo qs 0 ((xs (Int32.toNatClampNeg 1))) ((xs (Int32.toNatClampNeg 2))) ((xs (Int32.toNatClampNeg 3)))) xl_6 xs_256 xs_0 xs_258 xs_257 (by decide +kernel) rfl (Nat.le_of_ble_eq_true rfl) (Nat.le_of_ble_eq_true rfl) hl.1 (Nat.le_of_ble_eq_true rfl) (sK_up hKs) hKs.1 hP hD hS hA rfl rfl [0] [7, 8, 9, 10, 11, 12, 13, 14, 15, 16, 17, 18, 19, 20, 21] rfl (by decide) rfl rfl (by decide) (by decide) (Nat.le_of_ble_eq_true rfl) (Nat.le_of_ble_eq_true rfl) d_law_282 (fun v u H locs hp hP hD hS => ?_)
  obtain rfl : v = some (.int (-1)) := hp
  have hP : va_P (dC, dI) classes [(mo, .inr (0, mF qm 0)), (qm 1, .inr (1, [x0, x1, x2, x3, x4, x5, x6, x7])), (qm 2, .inr (2, [.ref qa, .int 0])), (qa, .inl (ca 0, 16, .inl (fun _ => 0))), (qm 12, .inl (ca 4, 148, .inr (.inr (.inr (.inr (fun _ => none)))))), (qm 110, .inl (ca 1, 2, .inl (fun _ => 0))), (qm 111, .inl (ca 2, 2, .inr (.inl (fun _ => 0)))), (qm 112, .inl (ca 1, 2, .inl (fun _ => 0))), (qm 113, .inl (ca 2, 2, .inr (.inl (fun _ => 0)))), (qm 114, .inl (ca 2, 2, .inr (.inl (fun _ => 0)))), (qm 117, .inl (ca 1, 2, .inl (fun _ => 0))), (qm 118, .inl (ca 1, 2, .inl (fun _ => 0))), (qm 120, .inl (ca 1, 8000, .inl (fun _ => 0))), (qm 122, .inl (ca 1, 2, .inl (fun _ => 0))), (o, .inl (ca 2, 1, .inr (.inl (fun _ => 0)))), (xo, .inr (7, sF qs 0))] H := hP
  have hD : va_D A [(mo, .inr (0, mF qm 0)), (qm 1, .inr (1, [x0, x1, x2, x3, x4, x5, x6, x7])), (qm 2, .inr (2, [.ref qa, .int 0])), (qa, .inl (ca 0, 16, .inl (fun _ => 0))), (qm 12, .inl (ca 4, 148, .inr (.inr (.inr (.inr (fun _ => none)))))), (qm 110, .inl (ca 1, 2, .inl (fun _ => 0))), (qm 111, .inl (ca 2, 2, .inr (.inl (fun _ => 0)))), (qm 112, .inl (ca 1, 2, .inl (fun _ => 0))), (qm 113, .inl (ca 2, 2, .inr (.inl (fun _ => 0)))), (qm 114, .inl (ca 2, 2, .inr (.inl (fun _ => 0)))), (qm 117, .inl (ca 1, 2, .inl (fun _ => 0))), (qm 118, .inl (ca 1, 2, .inl (fun _ => 0))), (qm 120, .inl (ca 1, 8000, .inl (fun _ => 0))), (qm 122, .inl (ca 1, 2, .inl (fun _ => 0))), (o, .inl (ca 2, 1, .inr (.inl (fun _ => 0)))), (xo, .inr (7, sF qs 0))] := hD
  refine W.eq (g2 := F0 m 285 ls [.int (-1)]) rfl ?_
  refine lv_aload_n hx hb d_law_285 rfl (lv_at hl 2 rfl) ?_
  refine lv_aload_n hx hb d_law_286 rfl (lv_at hl 4 rfl) ?_
  refine lv_iload hx hb d_law_287 (lv_at hl 0 rfl) ?_
  refine lv_iconst (v := 1) hx hb d_law_289 (by decide) ?_
  refine lv_iadd hx hb d_law_290 ?_
  refine lv_topi (fun z e9 => ?_)
  obtain rfl : z = 1 := by rw [e9]; decide
  refine va_sld hx hb hX hbl hbA hS (by unfold vp_in; decide) d_law_291 ?_
  refine lv_aload_n hx hb d_law_292 rfl (lv_at hl 4 rfl) ?_
  refine lv_iload hx hb d_law_293 (lv_at hl 0 rfl) ?_
  refine lv_iconst (v := 2) hx hb d_law_295 (by decide) ?_
  refine lv_iadd hx hb d_law_296 ?_
  refine lv_topi (fun z e9 => ?_)
  obtain rfl : z = 2 := by rw [e9]; decide
  refine va_sld hx hb hX hbl hbA hS (by unfold vp_in; decide) d_law_297 ?_
  refine lv_aload_n hx hb d_law_298 rfl (lv_at hl 4 rfl) ?_
  refine lv_iload hx hb d_law_299 (lv_at hl 0 rfl) ?_
  refine lv_iconst (v := 3) hx hb d_law_301 (by decide) ?_
  refine lv_iadd hx hb d_law_302 ?_
  refine lv_topi (fun z e9 => ?_)
  obtain rfl : z = 3 := by rw [e9]; decide
  refine va_sld hx hb hX hbl hbA hS (by unfold vp_in; decide) d_law_303 ?_
  refine ax_Vb (Z := wm) (ci := 0) (q0 := 0) (k := 3) (As := [.int (xs (Int32.toNatClampNeg 1)), .int (xs (Int32.toNatClampNeg 2)), .int (xs (Int32.toNatClampNeg 3))]) (rest := [.int (-1)]) (wr := [(qm 1, .inr (1, [x0, x1, x2, x3, x4, x5, x6, x7])), (qm 2, .inr (2, [.ref qa, .int 0])), (qa, .inl (ca 0, 16, .inl (fun _ => 0))), (qm 12, .inl (ca 4, 148, .inr (.inr (.inr (.inr (fun _ => none)))))), (qm 110, .inl (ca 1, 2, .inl (fun _ => 0))), (qm 111, .inl (ca 2, 2, .inr (.inl (fun _ => 0)))), (qm 112, .inl (ca 1, 2, .inl (fun _ => 0))), (qm 113, .inl (ca 2, 2, .inr (.inl (fun _ => 0)))), (qm 114, .inl (ca 2, 2, .inr (.inl (fun _ => 0)))), (qm 117, .inl (ca 1, 2, .inl (fun _ => 0))), (qm 118, .inl (ca 1, 2, .inl (fun _ => 0))), (qm 120, .inl (ca 1, 8000, .inl (fun _ => 0))), (qm 122, .inl (ca 1, 2, .inl (fun _ => 0))), (o, .inl (ca 2, 1, .inr (.inl (fun _ => 0)))), (xo, .inr (7, sF qs 0))]) rfl hx hb hml hown hts g_wm wm_lk (mK_bl dC dI ca) (c_MM_byteAt l dC dI ca mo qm 0 ((xs (Int32.toNatClampNeg 1))) ((xs (Int32.toNatClampNeg 2))) ((xs (Int32.toNatClampNeg 3)))) xl_57 xm_299 xm_0 xm_301 xm_300 (by decide +kernel) rfl (Nat.le_of_ble_eq_true rfl) (Nat.le_of_ble_eq_true rfl) hl.1 (Nat.le_of_ble_eq_true rfl) (mK_up hKm) hKm.1 hP hD hS hA rfl rfl [0] [1, 2, 3, 4, 5, 6, 7, 8, 9, 10, 11, 12, 13, 14, 15] rfl (by decide) rfl rfl (by decide) (by decide) (Nat.le_of_ble_eq_true rfl) (Nat.le_of_ble_eq_true rfl) d_law_304 (fun v u H locs hp hP hD hS => ?_)
  obtain rfl : v = some (.int (-1)) := hp
  have hP : va_P (dC, dI) classes [(qm 1, .inr (1, [x0, x1, x2, x3, x4, x5, x6, x7])), (qm 2, .inr (2, [.ref qa, .int 0])), (qa, .inl (ca 0, 16, .inl (fun _ => 0))), (qm 12, .inl (ca 4, 148, .inr (.inr (.inr (.inr (fun _ => none)))))), (qm 110, .inl (ca 1, 2, .inl (fun _ => 0))), (qm 111, .inl (ca 2, 2, .inr (.inl (fun _ => 0)))), (qm 112, .inl (ca 1, 2, .inl (fun _ => 0))), (qm 113, .inl (ca 2, 2, .inr (.inl (fun _ => 0)))), (qm 114, .inl (ca 2, 2, .inr (.inl (fun _ => 0)))), (qm 117, .inl (ca 1, 2, .inl (fun _ => 0))), (qm 118, .inl (ca 1, 2, .inl (fun _ => 0))), (qm 120, .inl (ca 1, 8000, .inl (fun _ => 0))), (qm 122, .inl (ca 1, 2, .inl (fun _ => 0))), (o, .inl (ca 2, 1, .inr (.inl (fun _ => 0)))), (xo, .inr (7, sF qs 0)), (mo, .inr (0, mF qm 0))] H := hP
  have hD : va_D A [(qm 1, .inr (1, [x0, x1, x2, x3, x4, x5, x6, x7])), (qm 2, .inr (2, [.ref qa, .int 0])), (qa, .inl (ca 0, 16, .inl (fun _ => 0))), (qm 12, .inl (ca 4, 148, .inr (.inr (.inr (.inr (fun _ => none)))))), (qm 110, .inl (ca 1, 2, .inl (fun _ => 0))), (qm 111, .inl (ca 2, 2, .inr (.inl (fun _ => 0)))), (qm 112, .inl (ca 1, 2, .inl (fun _ => 0))), (qm 113, .inl (ca 2, 2, .inr (.inl (fun _ => 0)))), (qm 114, .inl (ca 2, 2, .inr (.inl (fun _ => 0)))), (qm 117, .inl (ca 1, 2, .inl (fun _ => 0))), (qm 118, .inl (ca 1, 2, .inl (fun _ => 0))), (qm 120, .inl (ca 1, 8000, .inl (fun _ => 0))), (qm 122, .inl (ca 1, 2, .inl (fun _ => 0))), (o, .inl (ca 2, 1, .inr (.inl (fun _ => 0)))), (xo, .inr (7, sF qs 0)), (mo, .inr (0, mF qm 0))] := hD
  refine W.eq (g2 := F0 m 307 ls [.int (-1), .int (-1)]) rfl ?_
  refine lv_icmp_eq (tgt := 1327) hx hb d_law_307 (by decide) (fun _ => ?_) (fun h => absurd rfl h)
  refine W.widen (k := 300) (n := 650000) (Nat.le_of_ble_eq_true rfl) (Nat.le_of_ble_eq_true rfl) ?_
  exact kk H locs ls hS (lv_sub hl [0, 4] rfl)
set_option maxHeartbeats 4000000 in
set_option maxRecDepth 100000 in
theorem lc_4 {p : Program} {l : Launch} {e : Env} {s : State} {m : MethodId} {args : Array Value} {below : List Frame} {meth : Method} {c : Code} {H : Heap} {locs : List Loc} {Q : State → Prop} {dC : Nat → ClassId} {dI : Nat → Nat → Nat} {ca : Nat → ClassId} {A : Nat → Prop} {ls : Array Slot} {b : Nat} {xs : Nat → Int32} {xo mo o d0 d1 qa : Nat} {qs qm r0 r1 : Nat → Nat} {x0 x1 x2 x3 x4 x5 x6 x7 : Value} (hl9 : l.stackTraces = false) (L : lC p s m args c dC dI ca A b xs) (hP : va_P (dC, dI) classes [(xo, .inr (7, sF qs 0)), (qs 0, .inl (ca 0, 256, .inl (fun _ => 0))), (qs 4, .inl (ca 6, 160, .inr (.inr (.inr (.inr (fun _ => none)))))), (qs 7, .inl (ca 5, 2, .inr (.inr (.inr (.inr (va_up (va_up (fun _ => none) 0 (some d0)) 1 (some d1))))))), (qs 8, .inr (8, [.null, .int 0, .int 0])), (d0, .inr (17, sD r0)), (d1, .inr (17, sD r1)), (mo, .inr (0, mF qm 0)), (qm 1, .inr (1, [x0, x1, x2, x3, x4, x5, x6, x7])), (qm 2, .inr (2, [.ref qa, .int 0])), (qa, .inl (ca 0, 16, .inl (fun _ => 0))), (qm 12, .inl (ca 4, 148, .inr (.inr (.inr (.inr (fun _ => none)))))), (qm 110, .inl (ca 1, 2, .inl (fun _ => 0))), (qm 111, .inl (ca 2, 2, .inr (.inl (fun _ => 0)))), (qm 112, .inl (ca 1, 2, .inl (fun _ => 0))), (qm 113, .inl (ca 2, 2, .inr (.inl (fun _ => 0)))), (qm 114, .inl (ca 2, 2, .inr (.inl (fun _ => 0)))), (qm 117, .inl (ca 1, 2, .inl (fun _ => 0))), (qm 118, .inl (ca 1, 2, .inl (fun _ => 0))), (qm 120, .inl (ca 1, 8000, .inl (fun _ => 0))), (qm 122, .inl (ca 1, 2, .inl (fun _ => 0))), (o, .inl (ca 2, 1, .inr (.inl (fun _ => 0))))] H) (hD : va_D A [(xo, .inr (7, sF qs 0)), (qs 0, .inl (ca 0, 256, .inl (fun _ => 0))), (qs 4, .inl (ca 6, 160, .inr (.inr (.inr (.inr (fun _ => none)))))), (qs 7, .inl (ca 5, 2, .inr (.inr (.inr (.inr (va_up (va_up (fun _ => none) 0 (some d0)) 1 (some d1))))))), (qs 8, .inr (8, [.null, .int 0, .int 0])), (d0, .inr (17, sD r0)), (d1, .inr (17, sD r1)), (mo, .inr (0, mF qm 0)), (qm 1, .inr (1, [x0, x1, x2, x3, x4, x5, x6, x7])), (qm 2, .inr (2, [.ref qa, .int 0])), (qa, .inl (ca 0, 16, .inl (fun _ => 0))), (qm 12, .inl (ca 4, 148, .inr (.inr (.inr (.inr (fun _ => none)))))), (qm 110, .inl (ca 1, 2, .inl (fun _ => 0))), (qm 111, .inl (ca 2, 2, .inr (.inl (fun _ => 0)))), (qm 112, .inl (ca 1, 2, .inl (fun _ => 0))), (qm 113, .inl (ca 2, 2, .inr (.inl (fun _ => 0)))), (qm 114, .inl (ca 2, 2, .inr (.inl (fun _ => 0)))), (qm 117, .inl (ca 1, 2, .inl (fun _ => 0))), (qm 118, .inl (ca 1, 2, .inl (fun _ => 0))), (qm 120, .inl (ca 1, 8000, .inl (fun _ => 0))), (qm 122, .inl (ca 1, 2, .inl (fun _ => 0))), (o, .inl (ca 2, 1, .inr (.inl (fun _ => 0))))]) (hS : va_S A s.heap H locs) (hl : lv_has ls 8 [(4, .int 0), (3, .ref o), (2, .ref mo), (1, .ref xo), (0, .ref b)])
    (kk : lkk p l e s m args below meth c A b Q) : W p l e room_1 s m args below meth c H locs 236 644961 Q (F0 m 312 ls []) := by
  obtain ⟨hx, hb, hml, hown, hts, hKm, hE, hA, hAs, hX, hbl, hbA⟩ := L
  have hKs := hE.1.1
  refine lv_aload_n hx hb d_law_312 rfl (lv_at hl 3 rfl) ?_
  refine lv_aload_n hx hb d_law_313 rfl (lv_at hl 4 rfl) ?_
  refine lv_iload hx hb d_law_314 (lv_at hl 0 rfl) ?_
  refine lv_iconst (v := 1) hx hb d_law_316 (by decide) ?_
  refine lv_iadd hx hb d_law_317 ?_
  refine lv_topi (fun z e9 => ?_)
  obtain rfl : z = 1 := by rw [e9]; decide
  refine va_sld hx hb hX hbl hbA hS (by unfold vp_in; decide) d_law_318 ?_
  refine lv_aload_n hx hb d_law_319 rfl (lv_at hl 4 rfl) ?_
  refine lv_iload hx hb d_law_320 (lv_at hl 0 rfl) ?_
  refine lv_iconst (v := 2) hx hb d_law_322 (by decide) ?_
  refine lv_iadd hx hb d_law_323 ?_
  refine lv_topi (fun z e9 => ?_)
  obtain rfl : z = 2 := by rw [e9]; decide
  refine va_sld hx hb hX hbl hbA hS (by unfold vp_in; decide) d_law_324 ?_
  refine lv_aload_n hx hb d_law_325 rfl (lv_at hl 4 rfl) ?_
  refine lv_iload hx hb d_law_326 (lv_at hl 0 rfl) ?_
  refine lv_iconst (v := 3) hx hb d_law_328 (by decide) ?_
  refine lv_iadd hx hb d_law_329 ?_
  refine lv_topi (fun z e9 => ?_)
  obtain rfl : z = 3 := by rw [e9]; decide
  refine va_sld hx hb hX hbl hbA hS (by unfold vp_in; decide) d_law_330 ?_
  refine lv_aload_n hx hb d_law_331 rfl (lv_at hl 1 rfl) ?_
  refine ax_StW (Z := lk) (Zb := lk) (k := 5) (As := [.ref xo, .int (xs (Int32.toNatClampNeg 1)), .int (xs (Int32.toNatClampNeg 2)), .int (xs (Int32.toNatClampNeg 3)), .ref o]) (rest := []) (wr := [(mo, .inr (0, mF qm 0)), (qm 1, .inr (1, [x0, x1, x2, x3, x4, x5, x6, x7])), (qm 2, .inr (2, [.ref qa, .int 0])), (qa, .inl (ca 0, 16, .inl (fun _ => 0))), (qm 12, .inl (ca 4, 148, .inr (.inr (.inr (.inr (fun _ => none)))))), (qm 110, .inl (ca 1, 2, .inl (fun _ => 0))), (qm 111, .inl (ca 2, 2, .inr (.inl (fun _ => 0)))), (qm 112, .inl (ca 1, 2, .inl (fun _ => 0))), (qm 113, .inl (ca 2, 2, .inr (.inl (fun _ => 0)))), (qm 114, .inl (ca 2, 2, .inr (.inl (fun _ => 0)))), (qm 117, .inl (ca 1, 2, .inl (fun _ => 0))), (qm 118, .inl (ca 1, 2, .inl (fun _ => 0))), (qm 120, .inl (ca 1, 8000, .inl (fun _ => 0))), (qm 122, .inl (ca 1, 2, .inl (fun _ => 0)))]) rfl hx hb hml hown hts (ax_goodw g_lk xl_22) (lE_bl dC dI ca) (h_entry l hl9 dC dI ca xo qs ((xs (Int32.toNatClampNeg 1))) ((xs (Int32.toNatClampNeg 2))) ((xs (Int32.toNatClampNeg 3))) o) (hts _ xl_20) (hts _ xl_21) (hts _ xl_0) (by decide +kernel) rfl (Nat.le_of_ble_eq_true rfl) (Nat.le_of_ble_eq_true rfl) hl.1 (Nat.le_of_ble_eq_true rfl) (lE_up hE (l_st hS hAs)) hP hD hS hA [0] [7, 8, 9, 10, 11, 12, 13, 14, 15, 16, 17, 18, 19, 20] rfl (by decide) rfl rfl (by decide) (by decide) (Nat.le_of_ble_eq_true rfl) (Nat.le_of_ble_eq_true rfl) d_law_332 (fun v u H locs hp hP hD hS => ?_)
  obtain rfl : v = some (.int 1) := hp
  have hP : va_P (dC, dI) classes [(mo, .inr (0, mF qm 0)), (qm 1, .inr (1, [x0, x1, x2, x3, x4, x5, x6, x7])), (qm 2, .inr (2, [.ref qa, .int 0])), (qa, .inl (ca 0, 16, .inl (fun _ => 0))), (qm 12, .inl (ca 4, 148, .inr (.inr (.inr (.inr (fun _ => none)))))), (qm 110, .inl (ca 1, 2, .inl (fun _ => 0))), (qm 111, .inl (ca 2, 2, .inr (.inl (fun _ => 0)))), (qm 112, .inl (ca 1, 2, .inl (fun _ => 0))), (qm 113, .inl (ca 2, 2, .inr (.inl (fun _ => 0)))), (qm 114, .inl (ca 2, 2, .inr (.inl (fun _ => 0)))), (qm 117, .inl (ca 1, 2, .inl (fun _ => 0))), (qm 118, .inl (ca 1, 2, .inl (fun _ => 0))), (qm 120, .inl (ca 1, 8000, .inl (fun _ => 0))), (qm 122, .inl (ca 1, 2, .inl (fun _ => 0)))] H := hP
  have hD : va_D A [(mo, .inr (0, mF qm 0)), (qm 1, .inr (1, [x0, x1, x2, x3, x4, x5, x6, x7])), (qm 2, .inr (2, [.ref qa, .int 0])), (qa, .inl (ca 0, 16, .inl (fun _ => 0))), (qm 12, .inl (ca 4, 148, .inr (.inr (.inr (.inr (fun _ => none)))))), (qm 110, .inl (ca 1, 2, .inl (fun _ => 0))), (qm 111, .inl (ca 2, 2, .inr (.inl (fun _ => 0)))), (qm 112, .inl (ca 1, 2, .inl (fun _ => 0))), (qm 113, .inl (ca 2, 2, .inr (.inl (fun _ => 0)))), (qm 114, .inl (ca 2, 2, .inr (.inl (fun _ => 0)))), (qm 117, .inl (ca 1, 2, .inl (fun _ => 0))), (qm 118, .inl (ca 1, 2, .inl (fun _ => 0))), (qm 120, .inl (ca 1, 8000, .inl (fun _ => 0))), (qm 122, .inl (ca 1, 2, .inl (fun _ => 0)))] := hD
  refine W.eq (g2 := F0 m 335 ls [.int 1]) rfl ?_
  refine lv_istore (lv' := [(5, .int 1), (4, .int 0), (3, .ref o), (2, .ref mo), (1, .ref xo), (0, .ref b)]) hx hb d_law_335 hl (by decide) rfl (fun ls hl => ?_)
  refine lv_aload_n hx hb d_law_337 rfl (lv_at hl 3 rfl) ?_
  refine lv_aload_n hx hb d_law_338 rfl (lv_at hl 5 rfl) ?_
  refine lv_iload hx hb d_law_339 (lv_at hl 1 rfl) ?_
  refine lv_iconst (v := 1) hx hb d_law_341 (by decide) ?_
  refine lv_iadd hx hb d_law_342 ?_
  refine lv_topi (fun z e9 => ?_)
  obtain rfl : z = 1 := by rw [e9]; decide
  refine va_sld hx hb hX hbl hbA hS (by unfold vp_in; decide) d_law_343 ?_
  refine lv_aload_n hx hb d_law_344 rfl (lv_at hl 5 rfl) ?_
  refine lv_iload hx hb d_law_345 (lv_at hl 1 rfl) ?_
  refine lv_iconst (v := 2) hx hb d_law_347 (by decide) ?_
  refine lv_iadd hx hb d_law_348 ?_
  refine lv_topi (fun z e9 => ?_)
  obtain rfl : z = 2 := by rw [e9]; decide
  refine va_sld hx hb hX hbl hbA hS (by unfold vp_in; decide) d_law_349 ?_
  refine lv_aload_n hx hb d_law_350 rfl (lv_at hl 5 rfl) ?_
  refine lv_iload hx hb d_law_351 (lv_at hl 1 rfl) ?_
  refine lv_iconst (v := 3) hx hb d_law_353 (by decide) ?_
  refine lv_iadd hx hb d_law_354 ?_
  refine lv_topi (fun z e9 => ?_)
  obtain rfl : z = 3 := by rw [e9]; decide
  refine va_sld hx hb hX hbl hbA hS (by unfold vp_in; decide) d_law_355 ?_
  refine ax_Vb (Z := wm) (ci := 0) (q0 := 0) (k := 3) (As := [.int (xs (Int32.toNatClampNeg 1)), .int (xs (Int32.toNatClampNeg 2)), .int (xs (Int32.toNatClampNeg 3))]) (rest := []) (wr := [(qm 1, .inr (1, [x0, x1, x2, x3, x4, x5, x6, x7])), (qm 2, .inr (2, [.ref qa, .int 0])), (qa, .inl (ca 0, 16, .inl (fun _ => 0))), (qm 12, .inl (ca 4, 148, .inr (.inr (.inr (.inr (fun _ => none)))))), (qm 110, .inl (ca 1, 2, .inl (fun _ => 0))), (qm 111, .inl (ca 2, 2, .inr (.inl (fun _ => 0)))), (qm 112, .inl (ca 1, 2, .inl (fun _ => 0))), (qm 113, .inl (ca 2, 2, .inr (.inl (fun _ => 0)))), (qm 114, .inl (ca 2, 2, .inr (.inl (fun _ => 0)))), (qm 117, .inl (ca 1, 2, .inl (fun _ => 0))), (qm 118, .inl (ca 1, 2, .inl (fun _ => 0))), (qm 120, .inl (ca 1, 8000, .inl (fun _ => 0))), (qm 122, .inl (ca 1, 2, .inl (fun _ => 0)))]) rfl hx hb hml hown hts g_wm wm_lk (mK_bl dC dI ca) (c_MM_entry l dC dI ca mo qm 0 ((xs (Int32.toNatClampNeg 1))) ((xs (Int32.toNatClampNeg 2))) ((xs (Int32.toNatClampNeg 3)))) xl_58 xm_302 xm_0 xm_304 xm_303 (by decide +kernel) rfl (Nat.le_of_ble_eq_true rfl) (Nat.le_of_ble_eq_true rfl) hl.1 (Nat.le_of_ble_eq_true rfl) (mK_up hKm) hKm.1 hP hD hS hA rfl rfl [0] [1, 2, 3, 4, 5, 6, 7, 8, 9, 10, 11, 12, 13] rfl (by decide) rfl rfl (by decide) (by decide) (Nat.le_of_ble_eq_true rfl) (Nat.le_of_ble_eq_true rfl) d_law_356 (fun v u H locs hp hP hD hS => ?_)
  obtain rfl : v = some (.long 0) := hp
  have hP : va_P (dC, dI) classes [(qm 1, .inr (1, [x0, x1, x2, x3, x4, x5, x6, x7])), (qm 2, .inr (2, [.ref qa, .int 0])), (qa, .inl (ca 0, 16, .inl (fun _ => 0))), (qm 12, .inl (ca 4, 148, .inr (.inr (.inr (.inr (fun _ => none)))))), (qm 110, .inl (ca 1, 2, .inl (fun _ => 0))), (qm 111, .inl (ca 2, 2, .inr (.inl (fun _ => 0)))), (qm 112, .inl (ca 1, 2, .inl (fun _ => 0))), (qm 113, .inl (ca 2, 2, .inr (.inl (fun _ => 0)))), (qm 114, .inl (ca 2, 2, .inr (.inl (fun _ => 0)))), (qm 117, .inl (ca 1, 2, .inl (fun _ => 0))), (qm 118, .inl (ca 1, 2, .inl (fun _ => 0))), (qm 120, .inl (ca 1, 8000, .inl (fun _ => 0))), (qm 122, .inl (ca 1, 2, .inl (fun _ => 0))), (mo, .inr (0, mF qm 1))] H := hP
  have hD : va_D A [(qm 1, .inr (1, [x0, x1, x2, x3, x4, x5, x6, x7])), (qm 2, .inr (2, [.ref qa, .int 0])), (qa, .inl (ca 0, 16, .inl (fun _ => 0))), (qm 12, .inl (ca 4, 148, .inr (.inr (.inr (.inr (fun _ => none)))))), (qm 110, .inl (ca 1, 2, .inl (fun _ => 0))), (qm 111, .inl (ca 2, 2, .inr (.inl (fun _ => 0)))), (qm 112, .inl (ca 1, 2, .inl (fun _ => 0))), (qm 113, .inl (ca 2, 2, .inr (.inl (fun _ => 0)))), (qm 114, .inl (ca 2, 2, .inr (.inl (fun _ => 0)))), (qm 117, .inl (ca 1, 2, .inl (fun _ => 0))), (qm 118, .inl (ca 1, 2, .inl (fun _ => 0))), (qm 120, .inl (ca 1, 8000, .inl (fun _ => 0))), (qm 122, .inl (ca 1, 2, .inl (fun _ => 0))), (mo, .inr (0, mF qm 1))] := hD
  refine W.eq (g2 := F0 m 359 ls [.long 0]) rfl ?_
  refine lv_lstore (lv' := [(6, .long 0), (5, .int 1), (4, .int 0), (3, .ref o), (2, .ref mo), (1, .ref xo), (0, .ref b)]) hx hb d_law_359 hl (by decide) rfl (fun ls hl => ?_)
  refine lv_aload_n hx hb d_law_361 rfl (lv_at hl 4 rfl) ?_
  refine ax_Vb (Z := wm) (ci := 0) (q0 := 0) (k := 0) (As := []) (rest := []) (wr := [(qm 1, .inr (1, [x0, x1, x2, x3, x4, x5, x6, x7])), (qm 2, .inr (2, [.ref qa, .int 0])), (qa, .inl (ca 0, 16, .inl (fun _ => 0))), (qm 12, .inl (ca 4, 148, .inr (.inr (.inr (.inr (fun _ => none)))))), (qm 110, .inl (ca 1, 2, .inl (fun _ => 0))), (qm 111, .inl (ca 2, 2, .inr (.inl (fun _ => 0)))), (qm 112, .inl (ca 1, 2, .inl (fun _ => 0))), (qm 113, .inl (ca 2, 2, .inr (.inl (fun _ => 0)))), (qm 114, .inl (ca 2, 2, .inr (.inl (fun _ => 0)))), (qm 117, .inl (ca 1, 2, .inl (fun _ => 0))), (qm 118, .inl (ca 1, 2, .inl (fun _ => 0))), (qm 120, .inl (ca 1, 8000, .inl (fun _ => 0))), (qm 122, .inl (ca 1, 2, .inl (fun _ => 0)))]) rfl hx hb hml hown hts g_wm wm_lk (mK_bl dC dI ca) (c_MM_thrown l dC dI ca mo qm 1) xl_45 xm_175 xm_0 xm_177 xm_176 (by decide +kernel) rfl (Nat.le_of_ble_eq_true rfl) (Nat.le_of_ble_eq_true rfl) hl.1 (Nat.le_of_ble_eq_true rfl) (mK_up hKm) hKm.1 hP hD hS hA rfl rfl [13] [0, 1, 2, 3, 4, 5, 6, 7, 8, 9, 10, 11, 12] rfl (by decide) rfl rfl (by decide) (by decide) (Nat.le_of_ble_eq_true rfl) (Nat.le_of_ble_eq_true rfl) d_law_362 (fun v u H locs hp hP hD hS => ?_)
  obtain rfl : v = some (.int 1) := hp
  have hP : va_P (dC, dI) classes [(qm 1, .inr (1, [x0, x1, x2, x3, x4, x5, x6, x7])), (qm 2, .inr (2, [.ref qa, .int 0])), (qa, .inl (ca 0, 16, .inl (fun _ => 0))), (qm 12, .inl (ca 4, 148, .inr (.inr (.inr (.inr (fun _ => none)))))), (qm 110, .inl (ca 1, 2, .inl (fun _ => 0))), (qm 111, .inl (ca 2, 2, .inr (.inl (fun _ => 0)))), (qm 112, .inl (ca 1, 2, .inl (fun _ => 0))), (qm 113, .inl (ca 2, 2, .inr (.inl (fun _ => 0)))), (qm 114, .inl (ca 2, 2, .inr (.inl (fun _ => 0)))), (qm 117, .inl (ca 1, 2, .inl (fun _ => 0))), (qm 118, .inl (ca 1, 2, .inl (fun _ => 0))), (qm 120, .inl (ca 1, 8000, .inl (fun _ => 0))), (qm 122, .inl (ca 1, 2, .inl (fun _ => 0))), (mo, .inr (0, mF qm 1))] H := hP
  have hD : va_D A [(qm 1, .inr (1, [x0, x1, x2, x3, x4, x5, x6, x7])), (qm 2, .inr (2, [.ref qa, .int 0])), (qa, .inl (ca 0, 16, .inl (fun _ => 0))), (qm 12, .inl (ca 4, 148, .inr (.inr (.inr (.inr (fun _ => none)))))), (qm 110, .inl (ca 1, 2, .inl (fun _ => 0))), (qm 111, .inl (ca 2, 2, .inr (.inl (fun _ => 0)))), (qm 112, .inl (ca 1, 2, .inl (fun _ => 0))), (qm 113, .inl (ca 2, 2, .inr (.inl (fun _ => 0)))), (qm 114, .inl (ca 2, 2, .inr (.inl (fun _ => 0)))), (qm 117, .inl (ca 1, 2, .inl (fun _ => 0))), (qm 118, .inl (ca 1, 2, .inl (fun _ => 0))), (qm 120, .inl (ca 1, 8000, .inl (fun _ => 0))), (qm 122, .inl (ca 1, 2, .inl (fun _ => 0))), (mo, .inr (0, mF qm 1))] := hD
  refine W.eq (g2 := F0 m 365 ls [.int 1]) rfl ?_
  refine lv_iload hx hb d_law_365 (lv_at hl 1 rfl) ?_
  refine lv_icmp_eq (tgt := 372) hx hb d_law_367 (by decide) (fun _ => ?_) (fun h => absurd rfl h)
  refine lv_iload hx hb d_law_372 (lv_at hl 1 rfl) ?_
  refine lv_if_ne (tgt := 388) hx hb d_law_374 (by decide) (fun _ => ?_) (fun h => absurd h (by decide))
  refine lv_goto (tgt := 1327) hx hb d_law_388 (by decide) ?_
  refine W.widen (k := 300) (n := 650000) (Nat.le_of_ble_eq_true rfl) (Nat.le_of_ble_eq_true rfl) ?_
  exact kk H locs ls hS (lv_sub hl [2, 6] rfl)
set_option maxHeartbeats 4000000 in
set_option maxRecDepth 100000 in
theorem lc_5 {p : Program} {l : Launch} {e : Env} {s : State} {m : MethodId} {args : Array Value} {below : List Frame} {meth : Method} {c : Code} {H : Heap} {locs : List Loc} {Q : State → Prop} {dC : Nat → ClassId} {dI : Nat → Nat → Nat} {ca : Nat → ClassId} {A : Nat → Prop} {ls : Array Slot} {b : Nat} {xs : Nat → Int32} {xo mo o d0 d1 qa : Nat} {qs qm r0 r1 : Nat → Nat} {x0 x1 x2 x3 x4 x5 x6 x7 : Value} (hl9 : l.stackTraces = false) (L : lC p s m args c dC dI ca A b xs) (hP : va_P (dC, dI) classes [(xo, .inr (7, sF qs 0)), (qs 0, .inl (ca 0, 256, .inl (fun _ => 0))), (qs 4, .inl (ca 6, 160, .inr (.inr (.inr (.inr (fun _ => none)))))), (qs 7, .inl (ca 5, 2, .inr (.inr (.inr (.inr (va_up (va_up (fun _ => none) 0 (some d0)) 1 (some d1))))))), (qs 8, .inr (8, [.null, .int 0, .int 0])), (d0, .inr (17, sD r0)), (d1, .inr (17, sD r1)), (mo, .inr (0, mF qm 0)), (qm 1, .inr (1, [x0, x1, x2, x3, x4, x5, x6, x7])), (qm 2, .inr (2, [.ref qa, .int 0])), (qa, .inl (ca 0, 16, .inl (fun _ => 0))), (qm 12, .inl (ca 4, 148, .inr (.inr (.inr (.inr (fun _ => none)))))), (qm 110, .inl (ca 1, 2, .inl (fun _ => 0))), (qm 111, .inl (ca 2, 2, .inr (.inl (fun _ => 0)))), (qm 112, .inl (ca 1, 2, .inl (fun _ => 0))), (qm 113, .inl (ca 2, 2, .inr (.inl (fun _ => 0)))), (qm 114, .inl (ca 2, 2, .inr (.inl (fun _ => 0)))), (qm 117, .inl (ca 1, 2, .inl (fun _ => 0))), (qm 118, .inl (ca 1, 2, .inl (fun _ => 0))), (qm 120, .inl (ca 1, 8000, .inl (fun _ => 0))), (qm 122, .inl (ca 1, 2, .inl (fun _ => 0))), (o, .inl (ca 2, 1, .inr (.inl (fun _ => 0))))] H) (hD : va_D A [(xo, .inr (7, sF qs 0)), (qs 0, .inl (ca 0, 256, .inl (fun _ => 0))), (qs 4, .inl (ca 6, 160, .inr (.inr (.inr (.inr (fun _ => none)))))), (qs 7, .inl (ca 5, 2, .inr (.inr (.inr (.inr (va_up (va_up (fun _ => none) 0 (some d0)) 1 (some d1))))))), (qs 8, .inr (8, [.null, .int 0, .int 0])), (d0, .inr (17, sD r0)), (d1, .inr (17, sD r1)), (mo, .inr (0, mF qm 0)), (qm 1, .inr (1, [x0, x1, x2, x3, x4, x5, x6, x7])), (qm 2, .inr (2, [.ref qa, .int 0])), (qa, .inl (ca 0, 16, .inl (fun _ => 0))), (qm 12, .inl (ca 4, 148, .inr (.inr (.inr (.inr (fun _ => none)))))), (qm 110, .inl (ca 1, 2, .inl (fun _ => 0))), (qm 111, .inl (ca 2, 2, .inr (.inl (fun _ => 0)))), (qm 112, .inl (ca 1, 2, .inl (fun _ => 0))), (qm 113, .inl (ca 2, 2, .inr (.inl (fun _ => 0)))), (qm 114, .inl (ca 2, 2, .inr (.inl (fun _ => 0)))), (qm 117, .inl (ca 1, 2, .inl (fun _ => 0))), (qm 118, .inl (ca 1, 2, .inl (fun _ => 0))), (qm 120, .inl (ca 1, 8000, .inl (fun _ => 0))), (qm 122, .inl (ca 1, 2, .inl (fun _ => 0))), (o, .inl (ca 2, 1, .inr (.inl (fun _ => 0))))]) (hS : va_S A s.heap H locs) (hl : lv_has ls 8 [(4, .int 0), (3, .ref o), (2, .ref mo), (1, .ref xo), (0, .ref b)])
    (kk : lkk p l e s m args below meth c A b Q) : W p l e room_1 s m args below meth c H locs 236 644961 Q (F0 m 391 ls []) := by
  obtain ⟨hx, hb, hml, hown, hts, hKm, hE, hA, hAs, hX, hbl, hbA⟩ := L
  have hKs := hE.1.1
  refine lv_aload_n hx hb d_law_391 rfl (lv_at hl 3 rfl) ?_
  refine lv_aload_n hx hb d_law_392 rfl (lv_at hl 4 rfl) ?_
  refine lv_iload hx hb d_law_393 (lv_at hl 0 rfl) ?_
  refine lv_iconst (v := 1) hx hb d_law_395 (by decide) ?_
  refine lv_iadd hx hb d_law_396 ?_
  refine lv_topi (fun z e9 => ?_)
  obtain rfl : z = 1 := by rw [e9]; decide
  refine va_sld hx hb hX hbl hbA hS (by unfold vp_in; decide) d_law_397 ?_
  refine lv_aload_n hx hb d_law_398 rfl (lv_at hl 4 rfl) ?_
  refine lv_iload hx hb d_law_399 (lv_at hl 0 rfl) ?_
  refine lv_iconst (v := 2) hx hb d_law_401 (by decide) ?_
  refine lv_iadd hx hb d_law_402 ?_
  refine lv_topi (fun z e9 => ?_)
  obtain rfl : z = 2 := by rw [e9]; decide
  refine va_sld hx hb hX hbl hbA hS (by unfold vp_in; decide) d_law_403 ?_
  refine lv_aload_n hx hb d_law_404 rfl (lv_at hl 4 rfl) ?_
  refine lv_iload hx hb d_law_405 (lv_at hl 0 rfl) ?_
  refine lv_iconst (v := 3) hx hb d_law_407 (by decide) ?_
  refine lv_iadd hx hb d_law_408 ?_
  refine lv_topi (fun z e9 => ?_)
  obtain rfl : z = 3 := by rw [e9]; decide
  refine va_sld hx hb hX hbl hbA hS (by unfold vp_in; decide) d_law_409 ?_
  refine ax_Vb (Z := sk) (ci := 7) (q0 := 0) (k := 3) (As := [.int (xs (Int32.toNatClampNeg 1)), .int (xs (Int32.toNatClampNeg 2)), .int (xs (Int32.toNatClampNeg 3))]) (rest := []) (wr := [(mo, .inr (0, mF qm 0)), (qm 1, .inr (1, [x0, x1, x2, x3, x4, x5, x6, x7])), (qm 2, .inr (2, [.ref qa, .int 0])), (qa, .inl (ca 0, 16, .inl (fun _ => 0))), (qm 12, .inl (ca 4, 148, .inr (.inr (.inr (.inr (fun _ => none)))))), (qm 110, .inl (ca 1, 2, .inl (fun _ => 0))), (qm 111, .inl (ca 2, 2, .inr (.inl (fun _ => 0)))), (qm 112, .inl (ca 1, 2, .inl (fun _ => 0))), (qm 113, .inl (ca 2, 2, .inr (.inl (fun _ => 0)))), (qm 114, .inl (ca 2, 2, .inr (.inl (fun _ => 0)))), (qm 117, .inl (ca 1, 2, .inl (fun _ => 0))), (qm 118, .inl (ca 1, 2, .inl (fun _ => 0))), (qm 120, .inl (ca 1, 8000, .inl (fun _ => 0))), (qm 122, .inl (ca 1, 2, .inl (fun _ => 0))), (o, .inl (ca 2, 1, .inr (.inl (fun _ => 0))))]) rfl hx hb hml hown hts g_sk sk_lk (sK_bl dC dI ca) (c_SS_member l dC dI ca xo qs 0 ((xs (Int32.toNatClampNeg 1))) ((xs (Int32.toNatClampNeg 2))) ((xs (Int32.toNatClampNeg 3)))) xl_7 xs_259 xs_0 xs_261 xs_260 (by decide +kernel) rfl (Nat.le_of_ble_eq_true rfl) (Nat.le_of_ble_eq_true rfl) hl.1 (Nat.le_of_ble_eq_true rfl) (sK_up hKs) hKs.1 hP hD hS hA rfl rfl [0] [7, 8, 9, 10, 11, 12, 13, 14, 15, 16, 17, 18, 19, 20, 21] rfl (by decide) rfl rfl (by decide) (by decide) (Nat.le_of_ble_eq_true rfl) (Nat.le_of_ble_eq_true rfl) d_law_410 (fun v u H locs hp hP hD hS => ?_)
  obtain rfl : v = some (.int (-1)) := hp
  have hP : va_P (dC, dI) classes [(mo, .inr (0, mF qm 0)), (qm 1, .inr (1, [x0, x1, x2, x3, x4, x5, x6, x7])), (qm 2, .inr (2, [.ref qa, .int 0])), (qa, .inl (ca 0, 16, .inl (fun _ => 0))), (qm 12, .inl (ca 4, 148, .inr (.inr (.inr (.inr (fun _ => none)))))), (qm 110, .inl (ca 1, 2, .inl (fun _ => 0))), (qm 111, .inl (ca 2, 2, .inr (.inl (fun _ => 0)))), (qm 112, .inl (ca 1, 2, .inl (fun _ => 0))), (qm 113, .inl (ca 2, 2, .inr (.inl (fun _ => 0)))), (qm 114, .inl (ca 2, 2, .inr (.inl (fun _ => 0)))), (qm 117, .inl (ca 1, 2, .inl (fun _ => 0))), (qm 118, .inl (ca 1, 2, .inl (fun _ => 0))), (qm 120, .inl (ca 1, 8000, .inl (fun _ => 0))), (qm 122, .inl (ca 1, 2, .inl (fun _ => 0))), (o, .inl (ca 2, 1, .inr (.inl (fun _ => 0)))), (xo, .inr (7, sF qs 0))] H := hP
  have hD : va_D A [(mo, .inr (0, mF qm 0)), (qm 1, .inr (1, [x0, x1, x2, x3, x4, x5, x6, x7])), (qm 2, .inr (2, [.ref qa, .int 0])), (qa, .inl (ca 0, 16, .inl (fun _ => 0))), (qm 12, .inl (ca 4, 148, .inr (.inr (.inr (.inr (fun _ => none)))))), (qm 110, .inl (ca 1, 2, .inl (fun _ => 0))), (qm 111, .inl (ca 2, 2, .inr (.inl (fun _ => 0)))), (qm 112, .inl (ca 1, 2, .inl (fun _ => 0))), (qm 113, .inl (ca 2, 2, .inr (.inl (fun _ => 0)))), (qm 114, .inl (ca 2, 2, .inr (.inl (fun _ => 0)))), (qm 117, .inl (ca 1, 2, .inl (fun _ => 0))), (qm 118, .inl (ca 1, 2, .inl (fun _ => 0))), (qm 120, .inl (ca 1, 8000, .inl (fun _ => 0))), (qm 122, .inl (ca 1, 2, .inl (fun _ => 0))), (o, .inl (ca 2, 1, .inr (.inl (fun _ => 0)))), (xo, .inr (7, sF qs 0))] := hD
  refine W.eq (g2 := F0 m 413 ls [.int (-1)]) rfl ?_
  refine lv_aload_n hx hb d_law_413 rfl (lv_at hl 2 rfl) ?_
  refine lv_aload_n hx hb d_law_414 rfl (lv_at hl 4 rfl) ?_
  refine lv_iload hx hb d_law_415 (lv_at hl 0 rfl) ?_
  refine lv_iconst (v := 1) hx hb d_law_417 (by decide) ?_
  refine lv_iadd hx hb d_law_418 ?_
  refine lv_topi (fun z e9 => ?_)
  obtain rfl : z = 1 := by rw [e9]; decide
  refine va_sld hx hb hX hbl hbA hS (by unfold vp_in; decide) d_law_419 ?_
  refine lv_aload_n hx hb d_law_420 rfl (lv_at hl 4 rfl) ?_
  refine lv_iload hx hb d_law_421 (lv_at hl 0 rfl) ?_
  refine lv_iconst (v := 2) hx hb d_law_423 (by decide) ?_
  refine lv_iadd hx hb d_law_424 ?_
  refine lv_topi (fun z e9 => ?_)
  obtain rfl : z = 2 := by rw [e9]; decide
  refine va_sld hx hb hX hbl hbA hS (by unfold vp_in; decide) d_law_425 ?_
  refine lv_aload_n hx hb d_law_426 rfl (lv_at hl 4 rfl) ?_
  refine lv_iload hx hb d_law_427 (lv_at hl 0 rfl) ?_
  refine lv_iconst (v := 3) hx hb d_law_429 (by decide) ?_
  refine lv_iadd hx hb d_law_430 ?_
  refine lv_topi (fun z e9 => ?_)
  obtain rfl : z = 3 := by rw [e9]; decide
  refine va_sld hx hb hX hbl hbA hS (by unfold vp_in; decide) d_law_431 ?_
  refine ax_Vb (Z := wm) (ci := 0) (q0 := 0) (k := 3) (As := [.int (xs (Int32.toNatClampNeg 1)), .int (xs (Int32.toNatClampNeg 2)), .int (xs (Int32.toNatClampNeg 3))]) (rest := [.int (-1)]) (wr := [(qm 1, .inr (1, [x0, x1, x2, x3, x4, x5, x6, x7])), (qm 2, .inr (2, [.ref qa, .int 0])), (qa, .inl (ca 0, 16, .inl (fun _ => 0))), (qm 12, .inl (ca 4, 148, .inr (.inr (.inr (.inr (fun _ => none)))))), (qm 110, .inl (ca 1, 2, .inl (fun _ => 0))), (qm 111, .inl (ca 2, 2, .inr (.inl (fun _ => 0)))), (qm 112, .inl (ca 1, 2, .inl (fun _ => 0))), (qm 113, .inl (ca 2, 2, .inr (.inl (fun _ => 0)))), (qm 114, .inl (ca 2, 2, .inr (.inl (fun _ => 0)))), (qm 117, .inl (ca 1, 2, .inl (fun _ => 0))), (qm 118, .inl (ca 1, 2, .inl (fun _ => 0))), (qm 120, .inl (ca 1, 8000, .inl (fun _ => 0))), (qm 122, .inl (ca 1, 2, .inl (fun _ => 0))), (o, .inl (ca 2, 1, .inr (.inl (fun _ => 0)))), (xo, .inr (7, sF qs 0))]) rfl hx hb hml hown hts g_wm wm_lk (mK_bl dC dI ca) (c_MM_member_1 l dC dI ca mo qm 0 ((xs (Int32.toNatClampNeg 1))) ((xs (Int32.toNatClampNeg 2))) ((xs (Int32.toNatClampNeg 3)))) xl_59 xm_305 xm_0 xm_307 xm_306 (by decide +kernel) rfl (Nat.le_of_ble_eq_true rfl) (Nat.le_of_ble_eq_true rfl) hl.1 (Nat.le_of_ble_eq_true rfl) (mK_up hKm) hKm.1 hP hD hS hA rfl rfl [0] [1, 2, 3, 4, 5, 6, 7, 8, 9, 10, 11, 12, 13, 14, 15] rfl (by decide) rfl rfl (by decide) (by decide) (Nat.le_of_ble_eq_true rfl) (Nat.le_of_ble_eq_true rfl) d_law_432 (fun v u H locs hp hP hD hS => ?_)
  obtain rfl : v = some (.int (-1)) := hp
  have hP : va_P (dC, dI) classes [(qm 1, .inr (1, [x0, x1, x2, x3, x4, x5, x6, x7])), (qm 2, .inr (2, [.ref qa, .int 0])), (qa, .inl (ca 0, 16, .inl (fun _ => 0))), (qm 12, .inl (ca 4, 148, .inr (.inr (.inr (.inr (fun _ => none)))))), (qm 110, .inl (ca 1, 2, .inl (fun _ => 0))), (qm 111, .inl (ca 2, 2, .inr (.inl (fun _ => 0)))), (qm 112, .inl (ca 1, 2, .inl (fun _ => 0))), (qm 113, .inl (ca 2, 2, .inr (.inl (fun _ => 0)))), (qm 114, .inl (ca 2, 2, .inr (.inl (fun _ => 0)))), (qm 117, .inl (ca 1, 2, .inl (fun _ => 0))), (qm 118, .inl (ca 1, 2, .inl (fun _ => 0))), (qm 120, .inl (ca 1, 8000, .inl (fun _ => 0))), (qm 122, .inl (ca 1, 2, .inl (fun _ => 0))), (o, .inl (ca 2, 1, .inr (.inl (fun _ => 0)))), (xo, .inr (7, sF qs 0)), (mo, .inr (0, mF qm 0))] H := hP
  have hD : va_D A [(qm 1, .inr (1, [x0, x1, x2, x3, x4, x5, x6, x7])), (qm 2, .inr (2, [.ref qa, .int 0])), (qa, .inl (ca 0, 16, .inl (fun _ => 0))), (qm 12, .inl (ca 4, 148, .inr (.inr (.inr (.inr (fun _ => none)))))), (qm 110, .inl (ca 1, 2, .inl (fun _ => 0))), (qm 111, .inl (ca 2, 2, .inr (.inl (fun _ => 0)))), (qm 112, .inl (ca 1, 2, .inl (fun _ => 0))), (qm 113, .inl (ca 2, 2, .inr (.inl (fun _ => 0)))), (qm 114, .inl (ca 2, 2, .inr (.inl (fun _ => 0)))), (qm 117, .inl (ca 1, 2, .inl (fun _ => 0))), (qm 118, .inl (ca 1, 2, .inl (fun _ => 0))), (qm 120, .inl (ca 1, 8000, .inl (fun _ => 0))), (qm 122, .inl (ca 1, 2, .inl (fun _ => 0))), (o, .inl (ca 2, 1, .inr (.inl (fun _ => 0)))), (xo, .inr (7, sF qs 0)), (mo, .inr (0, mF qm 0))] := hD
  refine W.eq (g2 := F0 m 435 ls [.int (-1), .int (-1)]) rfl ?_
  refine lv_icmp_eq (tgt := 1327) hx hb d_law_435 (by decide) (fun _ => ?_) (fun h => absurd rfl h)
  refine W.widen (k := 300) (n := 650000) (Nat.le_of_ble_eq_true rfl) (Nat.le_of_ble_eq_true rfl) ?_
  exact kk H locs ls hS (lv_sub hl [0, 4] rfl)
set_option maxHeartbeats 4000000 in
set_option maxRecDepth 100000 in
theorem lc_6 {p : Program} {l : Launch} {e : Env} {s : State} {m : MethodId} {args : Array Value} {below : List Frame} {meth : Method} {c : Code} {H : Heap} {locs : List Loc} {Q : State → Prop} {dC : Nat → ClassId} {dI : Nat → Nat → Nat} {ca : Nat → ClassId} {A : Nat → Prop} {ls : Array Slot} {b : Nat} {xs : Nat → Int32} {xo mo o d0 d1 qa : Nat} {qs qm r0 r1 : Nat → Nat} {x0 x1 x2 x3 x4 x5 x6 x7 : Value} (hl9 : l.stackTraces = false) (L : lC p s m args c dC dI ca A b xs) (hP : va_P (dC, dI) classes [(xo, .inr (7, sF qs 0)), (qs 0, .inl (ca 0, 256, .inl (fun _ => 0))), (qs 4, .inl (ca 6, 160, .inr (.inr (.inr (.inr (fun _ => none)))))), (qs 7, .inl (ca 5, 2, .inr (.inr (.inr (.inr (va_up (va_up (fun _ => none) 0 (some d0)) 1 (some d1))))))), (qs 8, .inr (8, [.null, .int 0, .int 0])), (d0, .inr (17, sD r0)), (d1, .inr (17, sD r1)), (mo, .inr (0, mF qm 0)), (qm 1, .inr (1, [x0, x1, x2, x3, x4, x5, x6, x7])), (qm 2, .inr (2, [.ref qa, .int 0])), (qa, .inl (ca 0, 16, .inl (fun _ => 0))), (qm 12, .inl (ca 4, 148, .inr (.inr (.inr (.inr (fun _ => none)))))), (qm 110, .inl (ca 1, 2, .inl (fun _ => 0))), (qm 111, .inl (ca 2, 2, .inr (.inl (fun _ => 0)))), (qm 112, .inl (ca 1, 2, .inl (fun _ => 0))), (qm 113, .inl (ca 2, 2, .inr (.inl (fun _ => 0)))), (qm 114, .inl (ca 2, 2, .inr (.inl (fun _ => 0)))), (qm 117, .inl (ca 1, 2, .inl (fun _ => 0))), (qm 118, .inl (ca 1, 2, .inl (fun _ => 0))), (qm 120, .inl (ca 1, 8000, .inl (fun _ => 0))), (qm 122, .inl (ca 1, 2, .inl (fun _ => 0))), (o, .inl (ca 2, 1, .inr (.inl (fun _ => 0))))] H) (hD : va_D A [(xo, .inr (7, sF qs 0)), (qs 0, .inl (ca 0, 256, .inl (fun _ => 0))), (qs 4, .inl (ca 6, 160, .inr (.inr (.inr (.inr (fun _ => none)))))), (qs 7, .inl (ca 5, 2, .inr (.inr (.inr (.inr (va_up (va_up (fun _ => none) 0 (some d0)) 1 (some d1))))))), (qs 8, .inr (8, [.null, .int 0, .int 0])), (d0, .inr (17, sD r0)), (d1, .inr (17, sD r1)), (mo, .inr (0, mF qm 0)), (qm 1, .inr (1, [x0, x1, x2, x3, x4, x5, x6, x7])), (qm 2, .inr (2, [.ref qa, .int 0])), (qa, .inl (ca 0, 16, .inl (fun _ => 0))), (qm 12, .inl (ca 4, 148, .inr (.inr (.inr (.inr (fun _ => none)))))), (qm 110, .inl (ca 1, 2, .inl (fun _ => 0))), (qm 111, .inl (ca 2, 2, .inr (.inl (fun _ => 0)))), (qm 112, .inl (ca 1, 2, .inl (fun _ => 0))), (qm 113, .inl (ca 2, 2, .inr (.inl (fun _ => 0)))), (qm 114, .inl (ca 2, 2, .inr (.inl (fun _ => 0)))), (qm 117, .inl (ca 1, 2, .inl (fun _ => 0))), (qm 118, .inl (ca 1, 2, .inl (fun _ => 0))), (qm 120, .inl (ca 1, 8000, .inl (fun _ => 0))), (qm 122, .inl (ca 1, 2, .inl (fun _ => 0))), (o, .inl (ca 2, 1, .inr (.inl (fun _ => 0))))]) (hS : va_S A s.heap H locs) (hl : lv_has ls 8 [(4, .int 0), (3, .ref o), (2, .ref mo), (1, .ref xo), (0, .ref b)])
    (kk : lkk p l e s m args below meth c A b Q) : W p l e room_1 s m args below meth c H locs 236 644961 Q (F0 m 440 ls []) := by
  obtain ⟨hx, hb, hml, hown, hts, hKm, hE, hA, hAs, hX, hbl, hbA⟩ := L
  have hKs := hE.1.1
  refine lv_aload_n hx hb d_law_440 rfl (lv_at hl 3 rfl) ?_
  refine lv_aload_n hx hb d_law_441 rfl (lv_at hl 4 rfl) ?_
  refine lv_iload hx hb d_law_442 (lv_at hl 0 rfl) ?_
  refine lv_iconst (v := 1) hx hb d_law_444 (by decide) ?_
  refine lv_iadd hx hb d_law_445 ?_
  refine lv_topi (fun z e9 => ?_)
  obtain rfl : z = 1 := by rw [e9]; decide
  refine va_sld hx hb hX hbl hbA hS (by unfold vp_in; decide) d_law_446 ?_
  refine lv_aload_n hx hb d_law_447 rfl (lv_at hl 4 rfl) ?_
  refine lv_iload hx hb d_law_448 (lv_at hl 0 rfl) ?_
  refine lv_iconst (v := 2) hx hb d_law_450 (by decide) ?_
  refine lv_iadd hx hb d_law_451 ?_
  refine lv_topi (fun z e9 => ?_)
  obtain rfl : z = 2 := by rw [e9]; decide
  refine va_sld hx hb hX hbl hbA hS (by unfold vp_in; decide) d_law_452 ?_
  refine lv_aload_n hx hb d_law_453 rfl (lv_at hl 4 rfl) ?_
  refine lv_iload hx hb d_law_454 (lv_at hl 0 rfl) ?_
  refine lv_iconst (v := 3) hx hb d_law_456 (by decide) ?_
  refine lv_iadd hx hb d_law_457 ?_
  refine lv_topi (fun z e9 => ?_)
  obtain rfl : z = 3 := by rw [e9]; decide
  refine va_sld hx hb hX hbl hbA hS (by unfold vp_in; decide) d_law_458 ?_
  refine lv_aload_n hx hb d_law_459 rfl (lv_at hl 4 rfl) ?_
  refine lv_iload hx hb d_law_460 (lv_at hl 0 rfl) ?_
  refine lv_iconst (v := 4) hx hb d_law_462 (by decide) ?_
  refine lv_iadd hx hb d_law_463 ?_
  refine lv_topi (fun z e9 => ?_)
  obtain rfl : z = 4 := by rw [e9]; decide
  refine va_sld hx hb hX hbl hbA hS (by unfold vp_in; decide) d_law_464 ?_
  refine ax_Vb (Z := sk) (ci := 7) (q0 := 0) (k := 4) (As := [.int (xs (Int32.toNatClampNeg 1)), .int (xs (Int32.toNatClampNeg 2)), .int (xs (Int32.toNatClampNeg 3)), .int (xs (Int32.toNatClampNeg 4))]) (rest := []) (wr := [(mo, .inr (0, mF qm 0)), (qm 1, .inr (1, [x0, x1, x2, x3, x4, x5, x6, x7])), (qm 2, .inr (2, [.ref qa, .int 0])), (qa, .inl (ca 0, 16, .inl (fun _ => 0))), (qm 12, .inl (ca 4, 148, .inr (.inr (.inr (.inr (fun _ => none)))))), (qm 110, .inl (ca 1, 2, .inl (fun _ => 0))), (qm 111, .inl (ca 2, 2, .inr (.inl (fun _ => 0)))), (qm 112, .inl (ca 1, 2, .inl (fun _ => 0))), (qm 113, .inl (ca 2, 2, .inr (.inl (fun _ => 0)))), (qm 114, .inl (ca 2, 2, .inr (.inl (fun _ => 0)))), (qm 117, .inl (ca 1, 2, .inl (fun _ => 0))), (qm 118, .inl (ca 1, 2, .inl (fun _ => 0))), (qm 120, .inl (ca 1, 8000, .inl (fun _ => 0))), (qm 122, .inl (ca 1, 2, .inl (fun _ => 0))), (o, .inl (ca 2, 1, .inr (.inl (fun _ => 0))))]) rfl hx hb hml hown hts g_sk sk_lk (sK_bl dC dI ca) (c_SS_act l dC dI ca xo qs 0 ((xs (Int32.toNatClampNeg 1))) ((xs (Int32.toNatClampNeg 2))) ((xs (Int32.toNatClampNeg 3))) ((xs (Int32.toNatClampNeg 4)))) xl_8 xs_262 xs_0 xs_264 xs_263 (by decide +kernel) rfl (Nat.le_of_ble_eq_true rfl) (Nat.le_of_ble_eq_true rfl) hl.1 (Nat.le_of_ble_eq_true rfl) (sK_up hKs) hKs.1 hP hD hS hA rfl rfl [0] [7, 8, 9, 10, 11, 12, 13, 14, 15, 16, 17, 18, 19, 20, 21] rfl (by decide) rfl rfl (by decide) (by decide) (Nat.le_of_ble_eq_true rfl) (Nat.le_of_ble_eq_true rfl) d_law_465 (fun v u H locs hp hP hD hS => ?_)
  obtain rfl : v = some (.int (-1)) := hp
  have hP : va_P (dC, dI) classes [(mo, .inr (0, mF qm 0)), (qm 1, .inr (1, [x0, x1, x2, x3, x4, x5, x6, x7])), (qm 2, .inr (2, [.ref qa, .int 0])), (qa, .inl (ca 0, 16, .inl (fun _ => 0))), (qm 12, .inl (ca 4, 148, .inr (.inr (.inr (.inr (fun _ => none)))))), (qm 110, .inl (ca 1, 2, .inl (fun _ => 0))), (qm 111, .inl (ca 2, 2, .inr (.inl (fun _ => 0)))), (qm 112, .inl (ca 1, 2, .inl (fun _ => 0))), (qm 113, .inl (ca 2, 2, .inr (.inl (fun _ => 0)))), (qm 114, .inl (ca 2, 2, .inr (.inl (fun _ => 0)))), (qm 117, .inl (ca 1, 2, .inl (fun _ => 0))), (qm 118, .inl (ca 1, 2, .inl (fun _ => 0))), (qm 120, .inl (ca 1, 8000, .inl (fun _ => 0))), (qm 122, .inl (ca 1, 2, .inl (fun _ => 0))), (o, .inl (ca 2, 1, .inr (.inl (fun _ => 0)))), (xo, .inr (7, sF qs 0))] H := hP
  have hD : va_D A [(mo, .inr (0, mF qm 0)), (qm 1, .inr (1, [x0, x1, x2, x3, x4, x5, x6, x7])), (qm 2, .inr (2, [.ref qa, .int 0])), (qa, .inl (ca 0, 16, .inl (fun _ => 0))), (qm 12, .inl (ca 4, 148, .inr (.inr (.inr (.inr (fun _ => none)))))), (qm 110, .inl (ca 1, 2, .inl (fun _ => 0))), (qm 111, .inl (ca 2, 2, .inr (.inl (fun _ => 0)))), (qm 112, .inl (ca 1, 2, .inl (fun _ => 0))), (qm 113, .inl (ca 2, 2, .inr (.inl (fun _ => 0)))), (qm 114, .inl (ca 2, 2, .inr (.inl (fun _ => 0)))), (qm 117, .inl (ca 1, 2, .inl (fun _ => 0))), (qm 118, .inl (ca 1, 2, .inl (fun _ => 0))), (qm 120, .inl (ca 1, 8000, .inl (fun _ => 0))), (qm 122, .inl (ca 1, 2, .inl (fun _ => 0))), (o, .inl (ca 2, 1, .inr (.inl (fun _ => 0)))), (xo, .inr (7, sF qs 0))] := hD
  refine W.eq (g2 := F0 m 468 ls [.int (-1)]) rfl ?_
  refine lv_aload_n hx hb d_law_468 rfl (lv_at hl 2 rfl) ?_
  refine lv_aload_n hx hb d_law_469 rfl (lv_at hl 4 rfl) ?_
  refine lv_iload hx hb d_law_470 (lv_at hl 0 rfl) ?_
  refine lv_iconst (v := 1) hx hb d_law_472 (by decide) ?_
  refine lv_iadd hx hb d_law_473 ?_
  refine lv_topi (fun z e9 => ?_)
  obtain rfl : z = 1 := by rw [e9]; decide
  refine va_sld hx hb hX hbl hbA hS (by unfold vp_in; decide) d_law_474 ?_
  refine lv_aload_n hx hb d_law_475 rfl (lv_at hl 4 rfl) ?_
  refine lv_iload hx hb d_law_476 (lv_at hl 0 rfl) ?_
  refine lv_iconst (v := 2) hx hb d_law_478 (by decide) ?_
  refine lv_iadd hx hb d_law_479 ?_
  refine lv_topi (fun z e9 => ?_)
  obtain rfl : z = 2 := by rw [e9]; decide
  refine va_sld hx hb hX hbl hbA hS (by unfold vp_in; decide) d_law_480 ?_
  refine lv_aload_n hx hb d_law_481 rfl (lv_at hl 4 rfl) ?_
  refine lv_iload hx hb d_law_482 (lv_at hl 0 rfl) ?_
  refine lv_iconst (v := 3) hx hb d_law_484 (by decide) ?_
  refine lv_iadd hx hb d_law_485 ?_
  refine lv_topi (fun z e9 => ?_)
  obtain rfl : z = 3 := by rw [e9]; decide
  refine va_sld hx hb hX hbl hbA hS (by unfold vp_in; decide) d_law_486 ?_
  refine lv_aload_n hx hb d_law_487 rfl (lv_at hl 4 rfl) ?_
  refine lv_iload hx hb d_law_488 (lv_at hl 0 rfl) ?_
  refine lv_iconst (v := 4) hx hb d_law_490 (by decide) ?_
  refine lv_iadd hx hb d_law_491 ?_
  refine lv_topi (fun z e9 => ?_)
  obtain rfl : z = 4 := by rw [e9]; decide
  refine va_sld hx hb hX hbl hbA hS (by unfold vp_in; decide) d_law_492 ?_
  refine ax_Vb (Z := wm) (ci := 0) (q0 := 0) (k := 4) (As := [.int (xs (Int32.toNatClampNeg 1)), .int (xs (Int32.toNatClampNeg 2)), .int (xs (Int32.toNatClampNeg 3)), .int (xs (Int32.toNatClampNeg 4))]) (rest := [.int (-1)]) (wr := [(qm 1, .inr (1, [x0, x1, x2, x3, x4, x5, x6, x7])), (qm 2, .inr (2, [.ref qa, .int 0])), (qa, .inl (ca 0, 16, .inl (fun _ => 0))), (qm 12, .inl (ca 4, 148, .inr (.inr (.inr (.inr (fun _ => none)))))), (qm 110, .inl (ca 1, 2, .inl (fun _ => 0))), (qm 111, .inl (ca 2, 2, .inr (.inl (fun _ => 0)))), (qm 112, .inl (ca 1, 2, .inl (fun _ => 0))), (qm 113, .inl (ca 2, 2, .inr (.inl (fun _ => 0)))), (qm 114, .inl (ca 2, 2, .inr (.inl (fun _ => 0)))), (qm 117, .inl (ca 1, 2, .inl (fun _ => 0))), (qm 118, .inl (ca 1, 2, .inl (fun _ => 0))), (qm 120, .inl (ca 1, 8000, .inl (fun _ => 0))), (qm 122, .inl (ca 1, 2, .inl (fun _ => 0))), (o, .inl (ca 2, 1, .inr (.inl (fun _ => 0)))), (xo, .inr (7, sF qs 0))]) rfl hx hb hml hown hts g_wm wm_lk (mK_bl dC dI ca) (c_MM_act_0 l dC dI ca mo qm 0 ((xs (Int32.toNatClampNeg 1))) ((xs (Int32.toNatClampNeg 2))) ((xs (Int32.toNatClampNeg 3))) ((xs (Int32.toNatClampNeg 4)))) xl_60 xm_308 xm_0 xm_310 xm_309 (by decide +kernel) rfl (Nat.le_of_ble_eq_true rfl) (Nat.le_of_ble_eq_true rfl) hl.1 (Nat.le_of_ble_eq_true rfl) (mK_up hKm) hKm.1 hP hD hS hA rfl rfl [0] [1, 2, 3, 4, 5, 6, 7, 8, 9, 10, 11, 12, 13, 14, 15] rfl (by decide) rfl rfl (by decide) (by decide) (Nat.le_of_ble_eq_true rfl) (Nat.le_of_ble_eq_true rfl) d_law_493 (fun v u H locs hp hP hD hS => ?_)
  obtain rfl : v = some (.int (-1)) := hp
  have hP : va_P (dC, dI) classes [(qm 1, .inr (1, [x0, x1, x2, x3, x4, x5, x6, x7])), (qm 2, .inr (2, [.ref qa, .int 0])), (qa, .inl (ca 0, 16, .inl (fun _ => 0))), (qm 12, .inl (ca 4, 148, .inr (.inr (.inr (.inr (fun _ => none)))))), (qm 110, .inl (ca 1, 2, .inl (fun _ => 0))), (qm 111, .inl (ca 2, 2, .inr (.inl (fun _ => 0)))), (qm 112, .inl (ca 1, 2, .inl (fun _ => 0))), (qm 113, .inl (ca 2, 2, .inr (.inl (fun _ => 0)))), (qm 114, .inl (ca 2, 2, .inr (.inl (fun _ => 0)))), (qm 117, .inl (ca 1, 2, .inl (fun _ => 0))), (qm 118, .inl (ca 1, 2, .inl (fun _ => 0))), (qm 120, .inl (ca 1, 8000, .inl (fun _ => 0))), (qm 122, .inl (ca 1, 2, .inl (fun _ => 0))), (o, .inl (ca 2, 1, .inr (.inl (fun _ => 0)))), (xo, .inr (7, sF qs 0)), (mo, .inr (0, mF qm 0))] H := hP
  have hD : va_D A [(qm 1, .inr (1, [x0, x1, x2, x3, x4, x5, x6, x7])), (qm 2, .inr (2, [.ref qa, .int 0])), (qa, .inl (ca 0, 16, .inl (fun _ => 0))), (qm 12, .inl (ca 4, 148, .inr (.inr (.inr (.inr (fun _ => none)))))), (qm 110, .inl (ca 1, 2, .inl (fun _ => 0))), (qm 111, .inl (ca 2, 2, .inr (.inl (fun _ => 0)))), (qm 112, .inl (ca 1, 2, .inl (fun _ => 0))), (qm 113, .inl (ca 2, 2, .inr (.inl (fun _ => 0)))), (qm 114, .inl (ca 2, 2, .inr (.inl (fun _ => 0)))), (qm 117, .inl (ca 1, 2, .inl (fun _ => 0))), (qm 118, .inl (ca 1, 2, .inl (fun _ => 0))), (qm 120, .inl (ca 1, 8000, .inl (fun _ => 0))), (qm 122, .inl (ca 1, 2, .inl (fun _ => 0))), (o, .inl (ca 2, 1, .inr (.inl (fun _ => 0)))), (xo, .inr (7, sF qs 0)), (mo, .inr (0, mF qm 0))] := hD
  refine W.eq (g2 := F0 m 496 ls [.int (-1), .int (-1)]) rfl ?_
  refine lv_icmp_eq (tgt := 1327) hx hb d_law_496 (by decide) (fun _ => ?_) (fun h => absurd rfl h)
  refine W.widen (k := 300) (n := 650000) (Nat.le_of_ble_eq_true rfl) (Nat.le_of_ble_eq_true rfl) ?_
  exact kk H locs ls hS (lv_sub hl [0, 4] rfl)
set_option maxHeartbeats 4000000 in
set_option maxRecDepth 100000 in
theorem lc_7 {p : Program} {l : Launch} {e : Env} {s : State} {m : MethodId} {args : Array Value} {below : List Frame} {meth : Method} {c : Code} {H : Heap} {locs : List Loc} {Q : State → Prop} {dC : Nat → ClassId} {dI : Nat → Nat → Nat} {ca : Nat → ClassId} {A : Nat → Prop} {ls : Array Slot} {b : Nat} {xs : Nat → Int32} {xo mo o d0 d1 qa : Nat} {qs qm r0 r1 : Nat → Nat} {x0 x1 x2 x3 x4 x5 x6 x7 : Value} (hl9 : l.stackTraces = false) (L : lC p s m args c dC dI ca A b xs) (hP : va_P (dC, dI) classes [(xo, .inr (7, sF qs 0)), (qs 0, .inl (ca 0, 256, .inl (fun _ => 0))), (qs 4, .inl (ca 6, 160, .inr (.inr (.inr (.inr (fun _ => none)))))), (qs 7, .inl (ca 5, 2, .inr (.inr (.inr (.inr (va_up (va_up (fun _ => none) 0 (some d0)) 1 (some d1))))))), (qs 8, .inr (8, [.null, .int 0, .int 0])), (d0, .inr (17, sD r0)), (d1, .inr (17, sD r1)), (mo, .inr (0, mF qm 0)), (qm 1, .inr (1, [x0, x1, x2, x3, x4, x5, x6, x7])), (qm 2, .inr (2, [.ref qa, .int 0])), (qa, .inl (ca 0, 16, .inl (fun _ => 0))), (qm 12, .inl (ca 4, 148, .inr (.inr (.inr (.inr (fun _ => none)))))), (qm 110, .inl (ca 1, 2, .inl (fun _ => 0))), (qm 111, .inl (ca 2, 2, .inr (.inl (fun _ => 0)))), (qm 112, .inl (ca 1, 2, .inl (fun _ => 0))), (qm 113, .inl (ca 2, 2, .inr (.inl (fun _ => 0)))), (qm 114, .inl (ca 2, 2, .inr (.inl (fun _ => 0)))), (qm 117, .inl (ca 1, 2, .inl (fun _ => 0))), (qm 118, .inl (ca 1, 2, .inl (fun _ => 0))), (qm 120, .inl (ca 1, 8000, .inl (fun _ => 0))), (qm 122, .inl (ca 1, 2, .inl (fun _ => 0))), (o, .inl (ca 2, 1, .inr (.inl (fun _ => 0))))] H) (hD : va_D A [(xo, .inr (7, sF qs 0)), (qs 0, .inl (ca 0, 256, .inl (fun _ => 0))), (qs 4, .inl (ca 6, 160, .inr (.inr (.inr (.inr (fun _ => none)))))), (qs 7, .inl (ca 5, 2, .inr (.inr (.inr (.inr (va_up (va_up (fun _ => none) 0 (some d0)) 1 (some d1))))))), (qs 8, .inr (8, [.null, .int 0, .int 0])), (d0, .inr (17, sD r0)), (d1, .inr (17, sD r1)), (mo, .inr (0, mF qm 0)), (qm 1, .inr (1, [x0, x1, x2, x3, x4, x5, x6, x7])), (qm 2, .inr (2, [.ref qa, .int 0])), (qa, .inl (ca 0, 16, .inl (fun _ => 0))), (qm 12, .inl (ca 4, 148, .inr (.inr (.inr (.inr (fun _ => none)))))), (qm 110, .inl (ca 1, 2, .inl (fun _ => 0))), (qm 111, .inl (ca 2, 2, .inr (.inl (fun _ => 0)))), (qm 112, .inl (ca 1, 2, .inl (fun _ => 0))), (qm 113, .inl (ca 2, 2, .inr (.inl (fun _ => 0)))), (qm 114, .inl (ca 2, 2, .inr (.inl (fun _ => 0)))), (qm 117, .inl (ca 1, 2, .inl (fun _ => 0))), (qm 118, .inl (ca 1, 2, .inl (fun _ => 0))), (qm 120, .inl (ca 1, 8000, .inl (fun _ => 0))), (qm 122, .inl (ca 1, 2, .inl (fun _ => 0))), (o, .inl (ca 2, 1, .inr (.inl (fun _ => 0))))]) (hS : va_S A s.heap H locs) (hl : lv_has ls 8 [(4, .int 0), (3, .ref o), (2, .ref mo), (1, .ref xo), (0, .ref b)])
    (kk : lkk p l e s m args below meth c A b Q) : W p l e room_1 s m args below meth c H locs 236 644961 Q (F0 m 501 ls []) := by
  obtain ⟨hx, hb, hml, hown, hts, hKm, hE, hA, hAs, hX, hbl, hbA⟩ := L
  have hKs := hE.1.1
  refine lv_aload_n hx hb d_law_501 rfl (lv_at hl 3 rfl) ?_
  refine lv_aload_n hx hb d_law_502 rfl (lv_at hl 4 rfl) ?_
  refine lv_iload hx hb d_law_503 (lv_at hl 0 rfl) ?_
  refine lv_iconst (v := 1) hx hb d_law_505 (by decide) ?_
  refine lv_iadd hx hb d_law_506 ?_
  refine lv_topi (fun z e9 => ?_)
  obtain rfl : z = 1 := by rw [e9]; decide
  refine va_sld hx hb hX hbl hbA hS (by unfold vp_in; decide) d_law_507 ?_
  refine lv_aload_n hx hb d_law_508 rfl (lv_at hl 4 rfl) ?_
  refine lv_iload hx hb d_law_509 (lv_at hl 0 rfl) ?_
  refine lv_iconst (v := 2) hx hb d_law_511 (by decide) ?_
  refine lv_iadd hx hb d_law_512 ?_
  refine lv_topi (fun z e9 => ?_)
  obtain rfl : z = 2 := by rw [e9]; decide
  refine va_sld hx hb hX hbl hbA hS (by unfold vp_in; decide) d_law_513 ?_
  refine lv_aload_n hx hb d_law_514 rfl (lv_at hl 4 rfl) ?_
  refine lv_iload hx hb d_law_515 (lv_at hl 0 rfl) ?_
  refine lv_iconst (v := 3) hx hb d_law_517 (by decide) ?_
  refine lv_iadd hx hb d_law_518 ?_
  refine lv_topi (fun z e9 => ?_)
  obtain rfl : z = 3 := by rw [e9]; decide
  refine va_sld hx hb hX hbl hbA hS (by unfold vp_in; decide) d_law_519 ?_
  refine lv_aload_n hx hb d_law_520 rfl (lv_at hl 4 rfl) ?_
  refine lv_iload hx hb d_law_521 (lv_at hl 0 rfl) ?_
  refine lv_iconst (v := 4) hx hb d_law_523 (by decide) ?_
  refine lv_iadd hx hb d_law_524 ?_
  refine lv_topi (fun z e9 => ?_)
  obtain rfl : z = 4 := by rw [e9]; decide
  refine va_sld hx hb hX hbl hbA hS (by unfold vp_in; decide) d_law_525 ?_
  refine ax_Vb (Z := sk) (ci := 7) (q0 := 0) (k := 4) (As := [.int (xs (Int32.toNatClampNeg 1)), .int (xs (Int32.toNatClampNeg 2)), .int (xs (Int32.toNatClampNeg 3)), .int (xs (Int32.toNatClampNeg 4))]) (rest := []) (wr := [(mo, .inr (0, mF qm 0)), (qm 1, .inr (1, [x0, x1, x2, x3, x4, x5, x6, x7])), (qm 2, .inr (2, [.ref qa, .int 0])), (qa, .inl (ca 0, 16, .inl (fun _ => 0))), (qm 12, .inl (ca 4, 148, .inr (.inr (.inr (.inr (fun _ => none)))))), (qm 110, .inl (ca 1, 2, .inl (fun _ => 0))), (qm 111, .inl (ca 2, 2, .inr (.inl (fun _ => 0)))), (qm 112, .inl (ca 1, 2, .inl (fun _ => 0))), (qm 113, .inl (ca 2, 2, .inr (.inl (fun _ => 0)))), (qm 114, .inl (ca 2, 2, .inr (.inl (fun _ => 0)))), (qm 117, .inl (ca 1, 2, .inl (fun _ => 0))), (qm 118, .inl (ca 1, 2, .inl (fun _ => 0))), (qm 120, .inl (ca 1, 8000, .inl (fun _ => 0))), (qm 122, .inl (ca 1, 2, .inl (fun _ => 0))), (o, .inl (ca 2, 1, .inr (.inl (fun _ => 0))))]) rfl hx hb hml hown hts g_sk sk_lk (sK_bl dC dI ca) (c_SS_kind l dC dI ca xo qs 0 ((xs (Int32.toNatClampNeg 1))) ((xs (Int32.toNatClampNeg 2))) ((xs (Int32.toNatClampNeg 3))) ((xs (Int32.toNatClampNeg 4)))) xl_9 xs_265 xs_0 xs_267 xs_266 (by decide +kernel) rfl (Nat.le_of_ble_eq_true rfl) (Nat.le_of_ble_eq_true rfl) hl.1 (Nat.le_of_ble_eq_true rfl) (sK_up hKs) hKs.1 hP hD hS hA rfl rfl [0] [7, 8, 9, 10, 11, 12, 13, 14, 15, 16, 17, 18, 19, 20, 21] rfl (by decide) rfl rfl (by decide) (by decide) (Nat.le_of_ble_eq_true rfl) (Nat.le_of_ble_eq_true rfl) d_law_526 (fun v u H locs hp hP hD hS => ?_)
  obtain rfl : v = some (.int (-1)) := hp
  have hP : va_P (dC, dI) classes [(mo, .inr (0, mF qm 0)), (qm 1, .inr (1, [x0, x1, x2, x3, x4, x5, x6, x7])), (qm 2, .inr (2, [.ref qa, .int 0])), (qa, .inl (ca 0, 16, .inl (fun _ => 0))), (qm 12, .inl (ca 4, 148, .inr (.inr (.inr (.inr (fun _ => none)))))), (qm 110, .inl (ca 1, 2, .inl (fun _ => 0))), (qm 111, .inl (ca 2, 2, .inr (.inl (fun _ => 0)))), (qm 112, .inl (ca 1, 2, .inl (fun _ => 0))), (qm 113, .inl (ca 2, 2, .inr (.inl (fun _ => 0)))), (qm 114, .inl (ca 2, 2, .inr (.inl (fun _ => 0)))), (qm 117, .inl (ca 1, 2, .inl (fun _ => 0))), (qm 118, .inl (ca 1, 2, .inl (fun _ => 0))), (qm 120, .inl (ca 1, 8000, .inl (fun _ => 0))), (qm 122, .inl (ca 1, 2, .inl (fun _ => 0))), (o, .inl (ca 2, 1, .inr (.inl (fun _ => 0)))), (xo, .inr (7, sF qs 0))] H := hP
  have hD : va_D A [(mo, .inr (0, mF qm 0)), (qm 1, .inr (1, [x0, x1, x2, x3, x4, x5, x6, x7])), (qm 2, .inr (2, [.ref qa, .int 0])), (qa, .inl (ca 0, 16, .inl (fun _ => 0))), (qm 12, .inl (ca 4, 148, .inr (.inr (.inr (.inr (fun _ => none)))))), (qm 110, .inl (ca 1, 2, .inl (fun _ => 0))), (qm 111, .inl (ca 2, 2, .inr (.inl (fun _ => 0)))), (qm 112, .inl (ca 1, 2, .inl (fun _ => 0))), (qm 113, .inl (ca 2, 2, .inr (.inl (fun _ => 0)))), (qm 114, .inl (ca 2, 2, .inr (.inl (fun _ => 0)))), (qm 117, .inl (ca 1, 2, .inl (fun _ => 0))), (qm 118, .inl (ca 1, 2, .inl (fun _ => 0))), (qm 120, .inl (ca 1, 8000, .inl (fun _ => 0))), (qm 122, .inl (ca 1, 2, .inl (fun _ => 0))), (o, .inl (ca 2, 1, .inr (.inl (fun _ => 0)))), (xo, .inr (7, sF qs 0))] := hD
  refine W.eq (g2 := F0 m 529 ls [.int (-1)]) rfl ?_
  refine lv_aload_n hx hb d_law_529 rfl (lv_at hl 2 rfl) ?_
  refine lv_aload_n hx hb d_law_530 rfl (lv_at hl 4 rfl) ?_
  refine lv_iload hx hb d_law_531 (lv_at hl 0 rfl) ?_
  refine lv_iconst (v := 1) hx hb d_law_533 (by decide) ?_
  refine lv_iadd hx hb d_law_534 ?_
  refine lv_topi (fun z e9 => ?_)
  obtain rfl : z = 1 := by rw [e9]; decide
  refine va_sld hx hb hX hbl hbA hS (by unfold vp_in; decide) d_law_535 ?_
  refine lv_aload_n hx hb d_law_536 rfl (lv_at hl 4 rfl) ?_
  refine lv_iload hx hb d_law_537 (lv_at hl 0 rfl) ?_
  refine lv_iconst (v := 2) hx hb d_law_539 (by decide) ?_
  refine lv_iadd hx hb d_law_540 ?_
  refine lv_topi (fun z e9 => ?_)
  obtain rfl : z = 2 := by rw [e9]; decide
  refine va_sld hx hb hX hbl hbA hS (by unfold vp_in; decide) d_law_541 ?_
  refine lv_aload_n hx hb d_law_542 rfl (lv_at hl 4 rfl) ?_
  refine lv_iload hx hb d_law_543 (lv_at hl 0 rfl) ?_
  refine lv_iconst (v := 3) hx hb d_law_545 (by decide) ?_
  refine lv_iadd hx hb d_law_546 ?_
  refine lv_topi (fun z e9 => ?_)
  obtain rfl : z = 3 := by rw [e9]; decide
  refine va_sld hx hb hX hbl hbA hS (by unfold vp_in; decide) d_law_547 ?_
  refine lv_aload_n hx hb d_law_548 rfl (lv_at hl 4 rfl) ?_
  refine lv_iload hx hb d_law_549 (lv_at hl 0 rfl) ?_
  refine lv_iconst (v := 4) hx hb d_law_551 (by decide) ?_
  refine lv_iadd hx hb d_law_552 ?_
  refine lv_topi (fun z e9 => ?_)
  obtain rfl : z = 4 := by rw [e9]; decide
  refine va_sld hx hb hX hbl hbA hS (by unfold vp_in; decide) d_law_553 ?_
  refine ax_Vb (Z := wm) (ci := 0) (q0 := 0) (k := 4) (As := [.int (xs (Int32.toNatClampNeg 1)), .int (xs (Int32.toNatClampNeg 2)), .int (xs (Int32.toNatClampNeg 3)), .int (xs (Int32.toNatClampNeg 4))]) (rest := [.int (-1)]) (wr := [(qm 1, .inr (1, [x0, x1, x2, x3, x4, x5, x6, x7])), (qm 2, .inr (2, [.ref qa, .int 0])), (qa, .inl (ca 0, 16, .inl (fun _ => 0))), (qm 12, .inl (ca 4, 148, .inr (.inr (.inr (.inr (fun _ => none)))))), (qm 110, .inl (ca 1, 2, .inl (fun _ => 0))), (qm 111, .inl (ca 2, 2, .inr (.inl (fun _ => 0)))), (qm 112, .inl (ca 1, 2, .inl (fun _ => 0))), (qm 113, .inl (ca 2, 2, .inr (.inl (fun _ => 0)))), (qm 114, .inl (ca 2, 2, .inr (.inl (fun _ => 0)))), (qm 117, .inl (ca 1, 2, .inl (fun _ => 0))), (qm 118, .inl (ca 1, 2, .inl (fun _ => 0))), (qm 120, .inl (ca 1, 8000, .inl (fun _ => 0))), (qm 122, .inl (ca 1, 2, .inl (fun _ => 0))), (o, .inl (ca 2, 1, .inr (.inl (fun _ => 0)))), (xo, .inr (7, sF qs 0))]) rfl hx hb hml hown hts g_wm wm_lk (mK_bl dC dI ca) (c_MM_kind l dC dI ca mo qm 0 ((xs (Int32.toNatClampNeg 1))) ((xs (Int32.toNatClampNeg 2))) ((xs (Int32.toNatClampNeg 3))) ((xs (Int32.toNatClampNeg 4)))) xl_61 xm_311 xm_0 xm_313 xm_312 (by decide +kernel) rfl (Nat.le_of_ble_eq_true rfl) (Nat.le_of_ble_eq_true rfl) hl.1 (Nat.le_of_ble_eq_true rfl) (mK_up hKm) hKm.1 hP hD hS hA rfl rfl [0] [1, 2, 3, 4, 5, 6, 7, 8, 9, 10, 11, 12, 13, 14, 15] rfl (by decide) rfl rfl (by decide) (by decide) (Nat.le_of_ble_eq_true rfl) (Nat.le_of_ble_eq_true rfl) d_law_554 (fun v u H locs hp hP hD hS => ?_)
  obtain rfl : v = some (.int (-1)) := hp
  have hP : va_P (dC, dI) classes [(qm 1, .inr (1, [x0, x1, x2, x3, x4, x5, x6, x7])), (qm 2, .inr (2, [.ref qa, .int 0])), (qa, .inl (ca 0, 16, .inl (fun _ => 0))), (qm 12, .inl (ca 4, 148, .inr (.inr (.inr (.inr (fun _ => none)))))), (qm 110, .inl (ca 1, 2, .inl (fun _ => 0))), (qm 111, .inl (ca 2, 2, .inr (.inl (fun _ => 0)))), (qm 112, .inl (ca 1, 2, .inl (fun _ => 0))), (qm 113, .inl (ca 2, 2, .inr (.inl (fun _ => 0)))), (qm 114, .inl (ca 2, 2, .inr (.inl (fun _ => 0)))), (qm 117, .inl (ca 1, 2, .inl (fun _ => 0))), (qm 118, .inl (ca 1, 2, .inl (fun _ => 0))), (qm 120, .inl (ca 1, 8000, .inl (fun _ => 0))), (qm 122, .inl (ca 1, 2, .inl (fun _ => 0))), (o, .inl (ca 2, 1, .inr (.inl (fun _ => 0)))), (xo, .inr (7, sF qs 0)), (mo, .inr (0, mF qm 0))] H := hP
  have hD : va_D A [(qm 1, .inr (1, [x0, x1, x2, x3, x4, x5, x6, x7])), (qm 2, .inr (2, [.ref qa, .int 0])), (qa, .inl (ca 0, 16, .inl (fun _ => 0))), (qm 12, .inl (ca 4, 148, .inr (.inr (.inr (.inr (fun _ => none)))))), (qm 110, .inl (ca 1, 2, .inl (fun _ => 0))), (qm 111, .inl (ca 2, 2, .inr (.inl (fun _ => 0)))), (qm 112, .inl (ca 1, 2, .inl (fun _ => 0))), (qm 113, .inl (ca 2, 2, .inr (.inl (fun _ => 0)))), (qm 114, .inl (ca 2, 2, .inr (.inl (fun _ => 0)))), (qm 117, .inl (ca 1, 2, .inl (fun _ => 0))), (qm 118, .inl (ca 1, 2, .inl (fun _ => 0))), (qm 120, .inl (ca 1, 8000, .inl (fun _ => 0))), (qm 122, .inl (ca 1, 2, .inl (fun _ => 0))), (o, .inl (ca 2, 1, .inr (.inl (fun _ => 0)))), (xo, .inr (7, sF qs 0)), (mo, .inr (0, mF qm 0))] := hD
  refine W.eq (g2 := F0 m 557 ls [.int (-1), .int (-1)]) rfl ?_
  refine lv_icmp_eq (tgt := 1327) hx hb d_law_557 (by decide) (fun _ => ?_) (fun h => absurd rfl h)
  refine W.widen (k := 300) (n := 650000) (Nat.le_of_ble_eq_true rfl) (Nat.le_of_ble_eq_true rfl) ?_
  exact kk H locs ls hS (lv_sub hl [0, 4] rfl)
set_option maxHeartbeats 4000000 in
set_option maxRecDepth 100000 in
theorem lc_8 {p : Program} {l : Launch} {e : Env} {s : State} {m : MethodId} {args : Array Value} {below : List Frame} {meth : Method} {c : Code} {H : Heap} {locs : List Loc} {Q : State → Prop} {dC : Nat → ClassId} {dI : Nat → Nat → Nat} {ca : Nat → ClassId} {A : Nat → Prop} {ls : Array Slot} {b : Nat} {xs : Nat → Int32} {xo mo o d0 d1 qa : Nat} {qs qm r0 r1 : Nat → Nat} {x0 x1 x2 x3 x4 x5 x6 x7 : Value} (hl9 : l.stackTraces = false) (L : lC p s m args c dC dI ca A b xs) (hP : va_P (dC, dI) classes [(xo, .inr (7, sF qs 0)), (qs 0, .inl (ca 0, 256, .inl (fun _ => 0))), (qs 4, .inl (ca 6, 160, .inr (.inr (.inr (.inr (fun _ => none)))))), (qs 7, .inl (ca 5, 2, .inr (.inr (.inr (.inr (va_up (va_up (fun _ => none) 0 (some d0)) 1 (some d1))))))), (qs 8, .inr (8, [.null, .int 0, .int 0])), (d0, .inr (17, sD r0)), (d1, .inr (17, sD r1)), (mo, .inr (0, mF qm 0)), (qm 1, .inr (1, [x0, x1, x2, x3, x4, x5, x6, x7])), (qm 2, .inr (2, [.ref qa, .int 0])), (qa, .inl (ca 0, 16, .inl (fun _ => 0))), (qm 12, .inl (ca 4, 148, .inr (.inr (.inr (.inr (fun _ => none)))))), (qm 110, .inl (ca 1, 2, .inl (fun _ => 0))), (qm 111, .inl (ca 2, 2, .inr (.inl (fun _ => 0)))), (qm 112, .inl (ca 1, 2, .inl (fun _ => 0))), (qm 113, .inl (ca 2, 2, .inr (.inl (fun _ => 0)))), (qm 114, .inl (ca 2, 2, .inr (.inl (fun _ => 0)))), (qm 117, .inl (ca 1, 2, .inl (fun _ => 0))), (qm 118, .inl (ca 1, 2, .inl (fun _ => 0))), (qm 120, .inl (ca 1, 8000, .inl (fun _ => 0))), (qm 122, .inl (ca 1, 2, .inl (fun _ => 0))), (o, .inl (ca 2, 1, .inr (.inl (fun _ => 0))))] H) (hD : va_D A [(xo, .inr (7, sF qs 0)), (qs 0, .inl (ca 0, 256, .inl (fun _ => 0))), (qs 4, .inl (ca 6, 160, .inr (.inr (.inr (.inr (fun _ => none)))))), (qs 7, .inl (ca 5, 2, .inr (.inr (.inr (.inr (va_up (va_up (fun _ => none) 0 (some d0)) 1 (some d1))))))), (qs 8, .inr (8, [.null, .int 0, .int 0])), (d0, .inr (17, sD r0)), (d1, .inr (17, sD r1)), (mo, .inr (0, mF qm 0)), (qm 1, .inr (1, [x0, x1, x2, x3, x4, x5, x6, x7])), (qm 2, .inr (2, [.ref qa, .int 0])), (qa, .inl (ca 0, 16, .inl (fun _ => 0))), (qm 12, .inl (ca 4, 148, .inr (.inr (.inr (.inr (fun _ => none)))))), (qm 110, .inl (ca 1, 2, .inl (fun _ => 0))), (qm 111, .inl (ca 2, 2, .inr (.inl (fun _ => 0)))), (qm 112, .inl (ca 1, 2, .inl (fun _ => 0))), (qm 113, .inl (ca 2, 2, .inr (.inl (fun _ => 0)))), (qm 114, .inl (ca 2, 2, .inr (.inl (fun _ => 0)))), (qm 117, .inl (ca 1, 2, .inl (fun _ => 0))), (qm 118, .inl (ca 1, 2, .inl (fun _ => 0))), (qm 120, .inl (ca 1, 8000, .inl (fun _ => 0))), (qm 122, .inl (ca 1, 2, .inl (fun _ => 0))), (o, .inl (ca 2, 1, .inr (.inl (fun _ => 0))))]) (hS : va_S A s.heap H locs) (hl : lv_has ls 8 [(4, .int 0), (3, .ref o), (2, .ref mo), (1, .ref xo), (0, .ref b)])
    (kk : lkk p l e s m args below meth c A b Q) : W p l e room_1 s m args below meth c H locs 236 644961 Q (F0 m 562 ls []) := by
  obtain ⟨hx, hb, hml, hown, hts, hKm, hE, hA, hAs, hX, hbl, hbA⟩ := L
  have hKs := hE.1.1
  refine lv_aload_n hx hb d_law_562 rfl (lv_at hl 3 rfl) ?_
  refine lv_aload_n hx hb d_law_563 rfl (lv_at hl 4 rfl) ?_
  refine lv_iload hx hb d_law_564 (lv_at hl 0 rfl) ?_
  refine lv_iconst (v := 1) hx hb d_law_566 (by decide) ?_
  refine lv_iadd hx hb d_law_567 ?_
  refine lv_topi (fun z e9 => ?_)
  obtain rfl : z = 1 := by rw [e9]; decide
  refine va_sld hx hb hX hbl hbA hS (by unfold vp_in; decide) d_law_568 ?_
  refine lv_aload_n hx hb d_law_569 rfl (lv_at hl 4 rfl) ?_
  refine lv_iload hx hb d_law_570 (lv_at hl 0 rfl) ?_
  refine lv_iconst (v := 2) hx hb d_law_572 (by decide) ?_
  refine lv_iadd hx hb d_law_573 ?_
  refine lv_topi (fun z e9 => ?_)
  obtain rfl : z = 2 := by rw [e9]; decide
  refine va_sld hx hb hX hbl hbA hS (by unfold vp_in; decide) d_law_574 ?_
  refine lv_aload_n hx hb d_law_575 rfl (lv_at hl 4 rfl) ?_
  refine lv_iload hx hb d_law_576 (lv_at hl 0 rfl) ?_
  refine lv_iconst (v := 3) hx hb d_law_578 (by decide) ?_
  refine lv_iadd hx hb d_law_579 ?_
  refine lv_topi (fun z e9 => ?_)
  obtain rfl : z = 3 := by rw [e9]; decide
  refine va_sld hx hb hX hbl hbA hS (by unfold vp_in; decide) d_law_580 ?_
  refine lv_aload_n hx hb d_law_581 rfl (lv_at hl 4 rfl) ?_
  refine lv_iload hx hb d_law_582 (lv_at hl 0 rfl) ?_
  refine lv_iconst (v := 4) hx hb d_law_584 (by decide) ?_
  refine lv_iadd hx hb d_law_585 ?_
  refine lv_topi (fun z e9 => ?_)
  obtain rfl : z = 4 := by rw [e9]; decide
  refine va_sld hx hb hX hbl hbA hS (by unfold vp_in; decide) d_law_586 ?_
  refine ax_Vb (Z := sk) (ci := 7) (q0 := 0) (k := 4) (As := [.int (xs (Int32.toNatClampNeg 1)), .int (xs (Int32.toNatClampNeg 2)), .int (xs (Int32.toNatClampNeg 3)), .int (xs (Int32.toNatClampNeg 4))]) (rest := []) (wr := [(mo, .inr (0, mF qm 0)), (qm 1, .inr (1, [x0, x1, x2, x3, x4, x5, x6, x7])), (qm 2, .inr (2, [.ref qa, .int 0])), (qa, .inl (ca 0, 16, .inl (fun _ => 0))), (qm 12, .inl (ca 4, 148, .inr (.inr (.inr (.inr (fun _ => none)))))), (qm 110, .inl (ca 1, 2, .inl (fun _ => 0))), (qm 111, .inl (ca 2, 2, .inr (.inl (fun _ => 0)))), (qm 112, .inl (ca 1, 2, .inl (fun _ => 0))), (qm 113, .inl (ca 2, 2, .inr (.inl (fun _ => 0)))), (qm 114, .inl (ca 2, 2, .inr (.inl (fun _ => 0)))), (qm 117, .inl (ca 1, 2, .inl (fun _ => 0))), (qm 118, .inl (ca 1, 2, .inl (fun _ => 0))), (qm 120, .inl (ca 1, 8000, .inl (fun _ => 0))), (qm 122, .inl (ca 1, 2, .inl (fun _ => 0))), (o, .inl (ca 2, 1, .inr (.inl (fun _ => 0))))]) rfl hx hb hml hown hts g_sk sk_lk (sK_bl dC dI ca) (c_SS_block l dC dI ca xo qs 0 ((xs (Int32.toNatClampNeg 1))) ((xs (Int32.toNatClampNeg 2))) ((xs (Int32.toNatClampNeg 3))) ((xs (Int32.toNatClampNeg 4)))) xl_10 xs_268 xs_0 xs_270 xs_269 (by decide +kernel) rfl (Nat.le_of_ble_eq_true rfl) (Nat.le_of_ble_eq_true rfl) hl.1 (Nat.le_of_ble_eq_true rfl) (sK_up hKs) hKs.1 hP hD hS hA rfl rfl [0] [7, 8, 9, 10, 11, 12, 13, 14, 15, 16, 17, 18, 19, 20, 21] rfl (by decide) rfl rfl (by decide) (by decide) (Nat.le_of_ble_eq_true rfl) (Nat.le_of_ble_eq_true rfl) d_law_587 (fun v u H locs hp hP hD hS => ?_)
  obtain rfl : v = some (.int (-1)) := hp
  have hP : va_P (dC, dI) classes [(mo, .inr (0, mF qm 0)), (qm 1, .inr (1, [x0, x1, x2, x3, x4, x5, x6, x7])), (qm 2, .inr (2, [.ref qa, .int 0])), (qa, .inl (ca 0, 16, .inl (fun _ => 0))), (qm 12, .inl (ca 4, 148, .inr (.inr (.inr (.inr (fun _ => none)))))), (qm 110, .inl (ca 1, 2, .inl (fun _ => 0))), (qm 111, .inl (ca 2, 2, .inr (.inl (fun _ => 0)))), (qm 112, .inl (ca 1, 2, .inl (fun _ => 0))), (qm 113, .inl (ca 2, 2, .inr (.inl (fun _ => 0)))), (qm 114, .inl (ca 2, 2, .inr (.inl (fun _ => 0)))), (qm 117, .inl (ca 1, 2, .inl (fun _ => 0))), (qm 118, .inl (ca 1, 2, .inl (fun _ => 0))), (qm 120, .inl (ca 1, 8000, .inl (fun _ => 0))), (qm 122, .inl (ca 1, 2, .inl (fun _ => 0))), (o, .inl (ca 2, 1, .inr (.inl (fun _ => 0)))), (xo, .inr (7, sF qs 0))] H := hP
  have hD : va_D A [(mo, .inr (0, mF qm 0)), (qm 1, .inr (1, [x0, x1, x2, x3, x4, x5, x6, x7])), (qm 2, .inr (2, [.ref qa, .int 0])), (qa, .inl (ca 0, 16, .inl (fun _ => 0))), (qm 12, .inl (ca 4, 148, .inr (.inr (.inr (.inr (fun _ => none)))))), (qm 110, .inl (ca 1, 2, .inl (fun _ => 0))), (qm 111, .inl (ca 2, 2, .inr (.inl (fun _ => 0)))), (qm 112, .inl (ca 1, 2, .inl (fun _ => 0))), (qm 113, .inl (ca 2, 2, .inr (.inl (fun _ => 0)))), (qm 114, .inl (ca 2, 2, .inr (.inl (fun _ => 0)))), (qm 117, .inl (ca 1, 2, .inl (fun _ => 0))), (qm 118, .inl (ca 1, 2, .inl (fun _ => 0))), (qm 120, .inl (ca 1, 8000, .inl (fun _ => 0))), (qm 122, .inl (ca 1, 2, .inl (fun _ => 0))), (o, .inl (ca 2, 1, .inr (.inl (fun _ => 0)))), (xo, .inr (7, sF qs 0))] := hD
  refine W.eq (g2 := F0 m 590 ls [.int (-1)]) rfl ?_
  refine lv_aload_n hx hb d_law_590 rfl (lv_at hl 2 rfl) ?_
  refine lv_aload_n hx hb d_law_591 rfl (lv_at hl 4 rfl) ?_
  refine lv_iload hx hb d_law_592 (lv_at hl 0 rfl) ?_
  refine lv_iconst (v := 1) hx hb d_law_594 (by decide) ?_
  refine lv_iadd hx hb d_law_595 ?_
  refine lv_topi (fun z e9 => ?_)
  obtain rfl : z = 1 := by rw [e9]; decide
  refine va_sld hx hb hX hbl hbA hS (by unfold vp_in; decide) d_law_596 ?_
  refine lv_aload_n hx hb d_law_597 rfl (lv_at hl 4 rfl) ?_
  refine lv_iload hx hb d_law_598 (lv_at hl 0 rfl) ?_
  refine lv_iconst (v := 2) hx hb d_law_600 (by decide) ?_
  refine lv_iadd hx hb d_law_601 ?_
  refine lv_topi (fun z e9 => ?_)
  obtain rfl : z = 2 := by rw [e9]; decide
  refine va_sld hx hb hX hbl hbA hS (by unfold vp_in; decide) d_law_602 ?_
  refine lv_aload_n hx hb d_law_603 rfl (lv_at hl 4 rfl) ?_
  refine lv_iload hx hb d_law_604 (lv_at hl 0 rfl) ?_
  refine lv_iconst (v := 3) hx hb d_law_606 (by decide) ?_
  refine lv_iadd hx hb d_law_607 ?_
  refine lv_topi (fun z e9 => ?_)
  obtain rfl : z = 3 := by rw [e9]; decide
  refine va_sld hx hb hX hbl hbA hS (by unfold vp_in; decide) d_law_608 ?_
  refine lv_aload_n hx hb d_law_609 rfl (lv_at hl 4 rfl) ?_
  refine lv_iload hx hb d_law_610 (lv_at hl 0 rfl) ?_
  refine lv_iconst (v := 4) hx hb d_law_612 (by decide) ?_
  refine lv_iadd hx hb d_law_613 ?_
  refine lv_topi (fun z e9 => ?_)
  obtain rfl : z = 4 := by rw [e9]; decide
  refine va_sld hx hb hX hbl hbA hS (by unfold vp_in; decide) d_law_614 ?_
  refine ax_Vb (Z := wm) (ci := 0) (q0 := 0) (k := 4) (As := [.int (xs (Int32.toNatClampNeg 1)), .int (xs (Int32.toNatClampNeg 2)), .int (xs (Int32.toNatClampNeg 3)), .int (xs (Int32.toNatClampNeg 4))]) (rest := [.int (-1)]) (wr := [(qm 1, .inr (1, [x0, x1, x2, x3, x4, x5, x6, x7])), (qm 2, .inr (2, [.ref qa, .int 0])), (qa, .inl (ca 0, 16, .inl (fun _ => 0))), (qm 12, .inl (ca 4, 148, .inr (.inr (.inr (.inr (fun _ => none)))))), (qm 110, .inl (ca 1, 2, .inl (fun _ => 0))), (qm 111, .inl (ca 2, 2, .inr (.inl (fun _ => 0)))), (qm 112, .inl (ca 1, 2, .inl (fun _ => 0))), (qm 113, .inl (ca 2, 2, .inr (.inl (fun _ => 0)))), (qm 114, .inl (ca 2, 2, .inr (.inl (fun _ => 0)))), (qm 117, .inl (ca 1, 2, .inl (fun _ => 0))), (qm 118, .inl (ca 1, 2, .inl (fun _ => 0))), (qm 120, .inl (ca 1, 8000, .inl (fun _ => 0))), (qm 122, .inl (ca 1, 2, .inl (fun _ => 0))), (o, .inl (ca 2, 1, .inr (.inl (fun _ => 0)))), (xo, .inr (7, sF qs 0))]) rfl hx hb hml hown hts g_wm wm_lk (mK_bl dC dI ca) (c_MM_block l dC dI ca mo qm 0 ((xs (Int32.toNatClampNeg 1))) ((xs (Int32.toNatClampNeg 2))) ((xs (Int32.toNatClampNeg 3))) ((xs (Int32.toNatClampNeg 4)))) xl_62 xm_314 xm_0 xm_316 xm_315 (by decide +kernel) rfl (Nat.le_of_ble_eq_true rfl) (Nat.le_of_ble_eq_true rfl) hl.1 (Nat.le_of_ble_eq_true rfl) (mK_up hKm) hKm.1 hP hD hS hA rfl rfl [0] [1, 2, 3, 4, 5, 6, 7, 8, 9, 10, 11, 12, 13, 14, 15] rfl (by decide) rfl rfl (by decide) (by decide) (Nat.le_of_ble_eq_true rfl) (Nat.le_of_ble_eq_true rfl) d_law_615 (fun v u H locs hp hP hD hS => ?_)
  obtain rfl : v = some (.int (-1)) := hp
  have hP : va_P (dC, dI) classes [(qm 1, .inr (1, [x0, x1, x2, x3, x4, x5, x6, x7])), (qm 2, .inr (2, [.ref qa, .int 0])), (qa, .inl (ca 0, 16, .inl (fun _ => 0))), (qm 12, .inl (ca 4, 148, .inr (.inr (.inr (.inr (fun _ => none)))))), (qm 110, .inl (ca 1, 2, .inl (fun _ => 0))), (qm 111, .inl (ca 2, 2, .inr (.inl (fun _ => 0)))), (qm 112, .inl (ca 1, 2, .inl (fun _ => 0))), (qm 113, .inl (ca 2, 2, .inr (.inl (fun _ => 0)))), (qm 114, .inl (ca 2, 2, .inr (.inl (fun _ => 0)))), (qm 117, .inl (ca 1, 2, .inl (fun _ => 0))), (qm 118, .inl (ca 1, 2, .inl (fun _ => 0))), (qm 120, .inl (ca 1, 8000, .inl (fun _ => 0))), (qm 122, .inl (ca 1, 2, .inl (fun _ => 0))), (o, .inl (ca 2, 1, .inr (.inl (fun _ => 0)))), (xo, .inr (7, sF qs 0)), (mo, .inr (0, mF qm 0))] H := hP
  have hD : va_D A [(qm 1, .inr (1, [x0, x1, x2, x3, x4, x5, x6, x7])), (qm 2, .inr (2, [.ref qa, .int 0])), (qa, .inl (ca 0, 16, .inl (fun _ => 0))), (qm 12, .inl (ca 4, 148, .inr (.inr (.inr (.inr (fun _ => none)))))), (qm 110, .inl (ca 1, 2, .inl (fun _ => 0))), (qm 111, .inl (ca 2, 2, .inr (.inl (fun _ => 0)))), (qm 112, .inl (ca 1, 2, .inl (fun _ => 0))), (qm 113, .inl (ca 2, 2, .inr (.inl (fun _ => 0)))), (qm 114, .inl (ca 2, 2, .inr (.inl (fun _ => 0)))), (qm 117, .inl (ca 1, 2, .inl (fun _ => 0))), (qm 118, .inl (ca 1, 2, .inl (fun _ => 0))), (qm 120, .inl (ca 1, 8000, .inl (fun _ => 0))), (qm 122, .inl (ca 1, 2, .inl (fun _ => 0))), (o, .inl (ca 2, 1, .inr (.inl (fun _ => 0)))), (xo, .inr (7, sF qs 0)), (mo, .inr (0, mF qm 0))] := hD
  refine W.eq (g2 := F0 m 618 ls [.int (-1), .int (-1)]) rfl ?_
  refine lv_icmp_eq (tgt := 1327) hx hb d_law_618 (by decide) (fun _ => ?_) (fun h => absurd rfl h)
  refine W.widen (k := 300) (n := 650000) (Nat.le_of_ble_eq_true rfl) (Nat.le_of_ble_eq_true rfl) ?_
  exact kk H locs ls hS (lv_sub hl [0, 4] rfl)
set_option maxHeartbeats 4000000 in
set_option maxRecDepth 100000 in
theorem lc_9 {p : Program} {l : Launch} {e : Env} {s : State} {m : MethodId} {args : Array Value} {below : List Frame} {meth : Method} {c : Code} {H : Heap} {locs : List Loc} {Q : State → Prop} {dC : Nat → ClassId} {dI : Nat → Nat → Nat} {ca : Nat → ClassId} {A : Nat → Prop} {ls : Array Slot} {b : Nat} {xs : Nat → Int32} {xo mo o d0 d1 qa : Nat} {qs qm r0 r1 : Nat → Nat} {x0 x1 x2 x3 x4 x5 x6 x7 : Value} (hl9 : l.stackTraces = false) (L : lC p s m args c dC dI ca A b xs) (hP : va_P (dC, dI) classes [(xo, .inr (7, sF qs 0)), (qs 0, .inl (ca 0, 256, .inl (fun _ => 0))), (qs 4, .inl (ca 6, 160, .inr (.inr (.inr (.inr (fun _ => none)))))), (qs 7, .inl (ca 5, 2, .inr (.inr (.inr (.inr (va_up (va_up (fun _ => none) 0 (some d0)) 1 (some d1))))))), (qs 8, .inr (8, [.null, .int 0, .int 0])), (d0, .inr (17, sD r0)), (d1, .inr (17, sD r1)), (mo, .inr (0, mF qm 0)), (qm 1, .inr (1, [x0, x1, x2, x3, x4, x5, x6, x7])), (qm 2, .inr (2, [.ref qa, .int 0])), (qa, .inl (ca 0, 16, .inl (fun _ => 0))), (qm 12, .inl (ca 4, 148, .inr (.inr (.inr (.inr (fun _ => none)))))), (qm 110, .inl (ca 1, 2, .inl (fun _ => 0))), (qm 111, .inl (ca 2, 2, .inr (.inl (fun _ => 0)))), (qm 112, .inl (ca 1, 2, .inl (fun _ => 0))), (qm 113, .inl (ca 2, 2, .inr (.inl (fun _ => 0)))), (qm 114, .inl (ca 2, 2, .inr (.inl (fun _ => 0)))), (qm 117, .inl (ca 1, 2, .inl (fun _ => 0))), (qm 118, .inl (ca 1, 2, .inl (fun _ => 0))), (qm 120, .inl (ca 1, 8000, .inl (fun _ => 0))), (qm 122, .inl (ca 1, 2, .inl (fun _ => 0))), (o, .inl (ca 2, 1, .inr (.inl (fun _ => 0))))] H) (hD : va_D A [(xo, .inr (7, sF qs 0)), (qs 0, .inl (ca 0, 256, .inl (fun _ => 0))), (qs 4, .inl (ca 6, 160, .inr (.inr (.inr (.inr (fun _ => none)))))), (qs 7, .inl (ca 5, 2, .inr (.inr (.inr (.inr (va_up (va_up (fun _ => none) 0 (some d0)) 1 (some d1))))))), (qs 8, .inr (8, [.null, .int 0, .int 0])), (d0, .inr (17, sD r0)), (d1, .inr (17, sD r1)), (mo, .inr (0, mF qm 0)), (qm 1, .inr (1, [x0, x1, x2, x3, x4, x5, x6, x7])), (qm 2, .inr (2, [.ref qa, .int 0])), (qa, .inl (ca 0, 16, .inl (fun _ => 0))), (qm 12, .inl (ca 4, 148, .inr (.inr (.inr (.inr (fun _ => none)))))), (qm 110, .inl (ca 1, 2, .inl (fun _ => 0))), (qm 111, .inl (ca 2, 2, .inr (.inl (fun _ => 0)))), (qm 112, .inl (ca 1, 2, .inl (fun _ => 0))), (qm 113, .inl (ca 2, 2, .inr (.inl (fun _ => 0)))), (qm 114, .inl (ca 2, 2, .inr (.inl (fun _ => 0)))), (qm 117, .inl (ca 1, 2, .inl (fun _ => 0))), (qm 118, .inl (ca 1, 2, .inl (fun _ => 0))), (qm 120, .inl (ca 1, 8000, .inl (fun _ => 0))), (qm 122, .inl (ca 1, 2, .inl (fun _ => 0))), (o, .inl (ca 2, 1, .inr (.inl (fun _ => 0))))]) (hS : va_S A s.heap H locs) (hl : lv_has ls 8 [(4, .int 0), (3, .ref o), (2, .ref mo), (1, .ref xo), (0, .ref b)])
    (kk : lkk p l e s m args below meth c A b Q) : W p l e room_1 s m args below meth c H locs 236 644961 Q (F0 m 623 ls []) := by
  obtain ⟨hx, hb, hml, hown, hts, hKm, hE, hA, hAs, hX, hbl, hbA⟩ := L
  have hKs := hE.1.1
  refine lv_aload_n hx hb d_law_623 rfl (lv_at hl 3 rfl) ?_
  refine lv_aload_n hx hb d_law_624 rfl (lv_at hl 4 rfl) ?_
  refine lv_iload hx hb d_law_625 (lv_at hl 0 rfl) ?_
  refine lv_iconst (v := 1) hx hb d_law_627 (by decide) ?_
  refine lv_iadd hx hb d_law_628 ?_
  refine lv_topi (fun z e9 => ?_)
  obtain rfl : z = 1 := by rw [e9]; decide
  refine va_sld hx hb hX hbl hbA hS (by unfold vp_in; decide) d_law_629 ?_
  refine lv_aload_n hx hb d_law_630 rfl (lv_at hl 4 rfl) ?_
  refine lv_iload hx hb d_law_631 (lv_at hl 0 rfl) ?_
  refine lv_iconst (v := 2) hx hb d_law_633 (by decide) ?_
  refine lv_iadd hx hb d_law_634 ?_
  refine lv_topi (fun z e9 => ?_)
  obtain rfl : z = 2 := by rw [e9]; decide
  refine va_sld hx hb hX hbl hbA hS (by unfold vp_in; decide) d_law_635 ?_
  refine lv_aload_n hx hb d_law_636 rfl (lv_at hl 4 rfl) ?_
  refine lv_iload hx hb d_law_637 (lv_at hl 0 rfl) ?_
  refine lv_iconst (v := 3) hx hb d_law_639 (by decide) ?_
  refine lv_iadd hx hb d_law_640 ?_
  refine lv_topi (fun z e9 => ?_)
  obtain rfl : z = 3 := by rw [e9]; decide
  refine va_sld hx hb hX hbl hbA hS (by unfold vp_in; decide) d_law_641 ?_
  refine ax_Vb (Z := sk) (ci := 7) (q0 := 0) (k := 3) (As := [.int (xs (Int32.toNatClampNeg 1)), .int (xs (Int32.toNatClampNeg 2)), .int (xs (Int32.toNatClampNeg 3))]) (rest := []) (wr := [(mo, .inr (0, mF qm 0)), (qm 1, .inr (1, [x0, x1, x2, x3, x4, x5, x6, x7])), (qm 2, .inr (2, [.ref qa, .int 0])), (qa, .inl (ca 0, 16, .inl (fun _ => 0))), (qm 12, .inl (ca 4, 148, .inr (.inr (.inr (.inr (fun _ => none)))))), (qm 110, .inl (ca 1, 2, .inl (fun _ => 0))), (qm 111, .inl (ca 2, 2, .inr (.inl (fun _ => 0)))), (qm 112, .inl (ca 1, 2, .inl (fun _ => 0))), (qm 113, .inl (ca 2, 2, .inr (.inl (fun _ => 0)))), (qm 114, .inl (ca 2, 2, .inr (.inl (fun _ => 0)))), (qm 117, .inl (ca 1, 2, .inl (fun _ => 0))), (qm 118, .inl (ca 1, 2, .inl (fun _ => 0))), (qm 120, .inl (ca 1, 8000, .inl (fun _ => 0))), (qm 122, .inl (ca 1, 2, .inl (fun _ => 0))), (o, .inl (ca 2, 1, .inr (.inl (fun _ => 0))))]) rfl hx hb hml hown hts g_sk sk_lk (sK_bl dC dI ca) (c_SS_text l dC dI ca xo qs 0 ((xs (Int32.toNatClampNeg 1))) ((xs (Int32.toNatClampNeg 2))) ((xs (Int32.toNatClampNeg 3)))) xl_11 xs_271 xs_0 xs_273 xs_272 (by decide +kernel) rfl (Nat.le_of_ble_eq_true rfl) (Nat.le_of_ble_eq_true rfl) hl.1 (Nat.le_of_ble_eq_true rfl) (sK_up hKs) hKs.1 hP hD hS hA rfl rfl [0] [7, 8, 9, 10, 11, 12, 13, 14, 15, 16, 17, 18, 19, 20, 21] rfl (by decide) rfl rfl (by decide) (by decide) (Nat.le_of_ble_eq_true rfl) (Nat.le_of_ble_eq_true rfl) d_law_642 (fun v u H locs hp hP hD hS => ?_)
  obtain rfl : v = some (.int (-1)) := hp
  have hP : va_P (dC, dI) classes [(mo, .inr (0, mF qm 0)), (qm 1, .inr (1, [x0, x1, x2, x3, x4, x5, x6, x7])), (qm 2, .inr (2, [.ref qa, .int 0])), (qa, .inl (ca 0, 16, .inl (fun _ => 0))), (qm 12, .inl (ca 4, 148, .inr (.inr (.inr (.inr (fun _ => none)))))), (qm 110, .inl (ca 1, 2, .inl (fun _ => 0))), (qm 111, .inl (ca 2, 2, .inr (.inl (fun _ => 0)))), (qm 112, .inl (ca 1, 2, .inl (fun _ => 0))), (qm 113, .inl (ca 2, 2, .inr (.inl (fun _ => 0)))), (qm 114, .inl (ca 2, 2, .inr (.inl (fun _ => 0)))), (qm 117, .inl (ca 1, 2, .inl (fun _ => 0))), (qm 118, .inl (ca 1, 2, .inl (fun _ => 0))), (qm 120, .inl (ca 1, 8000, .inl (fun _ => 0))), (qm 122, .inl (ca 1, 2, .inl (fun _ => 0))), (o, .inl (ca 2, 1, .inr (.inl (fun _ => 0)))), (xo, .inr (7, sF qs 0))] H := hP
  have hD : va_D A [(mo, .inr (0, mF qm 0)), (qm 1, .inr (1, [x0, x1, x2, x3, x4, x5, x6, x7])), (qm 2, .inr (2, [.ref qa, .int 0])), (qa, .inl (ca 0, 16, .inl (fun _ => 0))), (qm 12, .inl (ca 4, 148, .inr (.inr (.inr (.inr (fun _ => none)))))), (qm 110, .inl (ca 1, 2, .inl (fun _ => 0))), (qm 111, .inl (ca 2, 2, .inr (.inl (fun _ => 0)))), (qm 112, .inl (ca 1, 2, .inl (fun _ => 0))), (qm 113, .inl (ca 2, 2, .inr (.inl (fun _ => 0)))), (qm 114, .inl (ca 2, 2, .inr (.inl (fun _ => 0)))), (qm 117, .inl (ca 1, 2, .inl (fun _ => 0))), (qm 118, .inl (ca 1, 2, .inl (fun _ => 0))), (qm 120, .inl (ca 1, 8000, .inl (fun _ => 0))), (qm 122, .inl (ca 1, 2, .inl (fun _ => 0))), (o, .inl (ca 2, 1, .inr (.inl (fun _ => 0)))), (xo, .inr (7, sF qs 0))] := hD
  refine W.eq (g2 := F0 m 645 ls [.int (-1)]) rfl ?_
  refine lv_aload_n hx hb d_law_645 rfl (lv_at hl 2 rfl) ?_
  refine lv_aload_n hx hb d_law_646 rfl (lv_at hl 4 rfl) ?_
  refine lv_iload hx hb d_law_647 (lv_at hl 0 rfl) ?_
  refine lv_iconst (v := 1) hx hb d_law_649 (by decide) ?_
  refine lv_iadd hx hb d_law_650 ?_
  refine lv_topi (fun z e9 => ?_)
  obtain rfl : z = 1 := by rw [e9]; decide
  refine va_sld hx hb hX hbl hbA hS (by unfold vp_in; decide) d_law_651 ?_
  refine lv_aload_n hx hb d_law_652 rfl (lv_at hl 4 rfl) ?_
  refine lv_iload hx hb d_law_653 (lv_at hl 0 rfl) ?_
  refine lv_iconst (v := 2) hx hb d_law_655 (by decide) ?_
  refine lv_iadd hx hb d_law_656 ?_
  refine lv_topi (fun z e9 => ?_)
  obtain rfl : z = 2 := by rw [e9]; decide
  refine va_sld hx hb hX hbl hbA hS (by unfold vp_in; decide) d_law_657 ?_
  refine lv_aload_n hx hb d_law_658 rfl (lv_at hl 4 rfl) ?_
  refine lv_iload hx hb d_law_659 (lv_at hl 0 rfl) ?_
  refine lv_iconst (v := 3) hx hb d_law_661 (by decide) ?_
  refine lv_iadd hx hb d_law_662 ?_
  refine lv_topi (fun z e9 => ?_)
  obtain rfl : z = 3 := by rw [e9]; decide
  refine va_sld hx hb hX hbl hbA hS (by unfold vp_in; decide) d_law_663 ?_
  refine ax_Vb (Z := wm) (ci := 0) (q0 := 0) (k := 3) (As := [.int (xs (Int32.toNatClampNeg 1)), .int (xs (Int32.toNatClampNeg 2)), .int (xs (Int32.toNatClampNeg 3))]) (rest := [.int (-1)]) (wr := [(qm 1, .inr (1, [x0, x1, x2, x3, x4, x5, x6, x7])), (qm 2, .inr (2, [.ref qa, .int 0])), (qa, .inl (ca 0, 16, .inl (fun _ => 0))), (qm 12, .inl (ca 4, 148, .inr (.inr (.inr (.inr (fun _ => none)))))), (qm 110, .inl (ca 1, 2, .inl (fun _ => 0))), (qm 111, .inl (ca 2, 2, .inr (.inl (fun _ => 0)))), (qm 112, .inl (ca 1, 2, .inl (fun _ => 0))), (qm 113, .inl (ca 2, 2, .inr (.inl (fun _ => 0)))), (qm 114, .inl (ca 2, 2, .inr (.inl (fun _ => 0)))), (qm 117, .inl (ca 1, 2, .inl (fun _ => 0))), (qm 118, .inl (ca 1, 2, .inl (fun _ => 0))), (qm 120, .inl (ca 1, 8000, .inl (fun _ => 0))), (qm 122, .inl (ca 1, 2, .inl (fun _ => 0))), (o, .inl (ca 2, 1, .inr (.inl (fun _ => 0)))), (xo, .inr (7, sF qs 0))]) rfl hx hb hml hown hts g_wm wm_lk (mK_bl dC dI ca) (c_MM_text l dC dI ca mo qm 0 ((xs (Int32.toNatClampNeg 1))) ((xs (Int32.toNatClampNeg 2))) ((xs (Int32.toNatClampNeg 3)))) xl_63 xm_317 xm_0 xm_319 xm_318 (by decide +kernel) rfl (Nat.le_of_ble_eq_true rfl) (Nat.le_of_ble_eq_true rfl) hl.1 (Nat.le_of_ble_eq_true rfl) (mK_up hKm) hKm.1 hP hD hS hA rfl rfl [0] [1, 2, 3, 4, 5, 6, 7, 8, 9, 10, 11, 12, 13, 14, 15] rfl (by decide) rfl rfl (by decide) (by decide) (Nat.le_of_ble_eq_true rfl) (Nat.le_of_ble_eq_true rfl) d_law_664 (fun v u H locs hp hP hD hS => ?_)
  obtain rfl : v = some (.int (-1)) := hp
  have hP : va_P (dC, dI) classes [(qm 1, .inr (1, [x0, x1, x2, x3, x4, x5, x6, x7])), (qm 2, .inr (2, [.ref qa, .int 0])), (qa, .inl (ca 0, 16, .inl (fun _ => 0))), (qm 12, .inl (ca 4, 148, .inr (.inr (.inr (.inr (fun _ => none)))))), (qm 110, .inl (ca 1, 2, .inl (fun _ => 0))), (qm 111, .inl (ca 2, 2, .inr (.inl (fun _ => 0)))), (qm 112, .inl (ca 1, 2, .inl (fun _ => 0))), (qm 113, .inl (ca 2, 2, .inr (.inl (fun _ => 0)))), (qm 114, .inl (ca 2, 2, .inr (.inl (fun _ => 0)))), (qm 117, .inl (ca 1, 2, .inl (fun _ => 0))), (qm 118, .inl (ca 1, 2, .inl (fun _ => 0))), (qm 120, .inl (ca 1, 8000, .inl (fun _ => 0))), (qm 122, .inl (ca 1, 2, .inl (fun _ => 0))), (o, .inl (ca 2, 1, .inr (.inl (fun _ => 0)))), (xo, .inr (7, sF qs 0)), (mo, .inr (0, mF qm 0))] H := hP
  have hD : va_D A [(qm 1, .inr (1, [x0, x1, x2, x3, x4, x5, x6, x7])), (qm 2, .inr (2, [.ref qa, .int 0])), (qa, .inl (ca 0, 16, .inl (fun _ => 0))), (qm 12, .inl (ca 4, 148, .inr (.inr (.inr (.inr (fun _ => none)))))), (qm 110, .inl (ca 1, 2, .inl (fun _ => 0))), (qm 111, .inl (ca 2, 2, .inr (.inl (fun _ => 0)))), (qm 112, .inl (ca 1, 2, .inl (fun _ => 0))), (qm 113, .inl (ca 2, 2, .inr (.inl (fun _ => 0)))), (qm 114, .inl (ca 2, 2, .inr (.inl (fun _ => 0)))), (qm 117, .inl (ca 1, 2, .inl (fun _ => 0))), (qm 118, .inl (ca 1, 2, .inl (fun _ => 0))), (qm 120, .inl (ca 1, 8000, .inl (fun _ => 0))), (qm 122, .inl (ca 1, 2, .inl (fun _ => 0))), (o, .inl (ca 2, 1, .inr (.inl (fun _ => 0)))), (xo, .inr (7, sF qs 0)), (mo, .inr (0, mF qm 0))] := hD
  refine W.eq (g2 := F0 m 667 ls [.int (-1), .int (-1)]) rfl ?_
  refine lv_icmp_eq (tgt := 1327) hx hb d_law_667 (by decide) (fun _ => ?_) (fun h => absurd rfl h)
  refine W.widen (k := 300) (n := 650000) (Nat.le_of_ble_eq_true rfl) (Nat.le_of_ble_eq_true rfl) ?_
  exact kk H locs ls hS (lv_sub hl [0, 4] rfl)
set_option maxHeartbeats 4000000 in
set_option maxRecDepth 100000 in
theorem lc_10 {p : Program} {l : Launch} {e : Env} {s : State} {m : MethodId} {args : Array Value} {below : List Frame} {meth : Method} {c : Code} {H : Heap} {locs : List Loc} {Q : State → Prop} {dC : Nat → ClassId} {dI : Nat → Nat → Nat} {ca : Nat → ClassId} {A : Nat → Prop} {ls : Array Slot} {b : Nat} {xs : Nat → Int32} {xo mo o d0 d1 qa : Nat} {qs qm r0 r1 : Nat → Nat} {x0 x1 x2 x3 x4 x5 x6 x7 : Value} (hl9 : l.stackTraces = false) (L : lC p s m args c dC dI ca A b xs) (hP : va_P (dC, dI) classes [(xo, .inr (7, sF qs 0)), (qs 0, .inl (ca 0, 256, .inl (fun _ => 0))), (qs 4, .inl (ca 6, 160, .inr (.inr (.inr (.inr (fun _ => none)))))), (qs 7, .inl (ca 5, 2, .inr (.inr (.inr (.inr (va_up (va_up (fun _ => none) 0 (some d0)) 1 (some d1))))))), (qs 8, .inr (8, [.null, .int 0, .int 0])), (d0, .inr (17, sD r0)), (d1, .inr (17, sD r1)), (mo, .inr (0, mF qm 0)), (qm 1, .inr (1, [x0, x1, x2, x3, x4, x5, x6, x7])), (qm 2, .inr (2, [.ref qa, .int 0])), (qa, .inl (ca 0, 16, .inl (fun _ => 0))), (qm 12, .inl (ca 4, 148, .inr (.inr (.inr (.inr (fun _ => none)))))), (qm 110, .inl (ca 1, 2, .inl (fun _ => 0))), (qm 111, .inl (ca 2, 2, .inr (.inl (fun _ => 0)))), (qm 112, .inl (ca 1, 2, .inl (fun _ => 0))), (qm 113, .inl (ca 2, 2, .inr (.inl (fun _ => 0)))), (qm 114, .inl (ca 2, 2, .inr (.inl (fun _ => 0)))), (qm 117, .inl (ca 1, 2, .inl (fun _ => 0))), (qm 118, .inl (ca 1, 2, .inl (fun _ => 0))), (qm 120, .inl (ca 1, 8000, .inl (fun _ => 0))), (qm 122, .inl (ca 1, 2, .inl (fun _ => 0))), (o, .inl (ca 2, 1, .inr (.inl (fun _ => 0))))] H) (hD : va_D A [(xo, .inr (7, sF qs 0)), (qs 0, .inl (ca 0, 256, .inl (fun _ => 0))), (qs 4, .inl (ca 6, 160, .inr (.inr (.inr (.inr (fun _ => none)))))), (qs 7, .inl (ca 5, 2, .inr (.inr (.inr (.inr (va_up (va_up (fun _ => none) 0 (some d0)) 1 (some d1))))))), (qs 8, .inr (8, [.null, .int 0, .int 0])), (d0, .inr (17, sD r0)), (d1, .inr (17, sD r1)), (mo, .inr (0, mF qm 0)), (qm 1, .inr (1, [x0, x1, x2, x3, x4, x5, x6, x7])), (qm 2, .inr (2, [.ref qa, .int 0])), (qa, .inl (ca 0, 16, .inl (fun _ => 0))), (qm 12, .inl (ca 4, 148, .inr (.inr (.inr (.inr (fun _ => none)))))), (qm 110, .inl (ca 1, 2, .inl (fun _ => 0))), (qm 111, .inl (ca 2, 2, .inr (.inl (fun _ => 0)))), (qm 112, .inl (ca 1, 2, .inl (fun _ => 0))), (qm 113, .inl (ca 2, 2, .inr (.inl (fun _ => 0)))), (qm 114, .inl (ca 2, 2, .inr (.inl (fun _ => 0)))), (qm 117, .inl (ca 1, 2, .inl (fun _ => 0))), (qm 118, .inl (ca 1, 2, .inl (fun _ => 0))), (qm 120, .inl (ca 1, 8000, .inl (fun _ => 0))), (qm 122, .inl (ca 1, 2, .inl (fun _ => 0))), (o, .inl (ca 2, 1, .inr (.inl (fun _ => 0))))]) (hS : va_S A s.heap H locs) (hl : lv_has ls 8 [(4, .int 0), (3, .ref o), (2, .ref mo), (1, .ref xo), (0, .ref b)])
    (kk : lkk p l e s m args below meth c A b Q) : W p l e room_1 s m args below meth c H locs 236 644961 Q (F0 m 672 ls []) := by
  obtain ⟨hx, hb, hml, hown, hts, hKm, hE, hA, hAs, hX, hbl, hbA⟩ := L
  have hKs := hE.1.1
  refine lv_aload_n hx hb d_law_672 rfl (lv_at hl 3 rfl) ?_
  refine lv_aload_n hx hb d_law_673 rfl (lv_at hl 4 rfl) ?_
  refine lv_iload hx hb d_law_674 (lv_at hl 0 rfl) ?_
  refine lv_iconst (v := 1) hx hb d_law_676 (by decide) ?_
  refine lv_iadd hx hb d_law_677 ?_
  refine lv_topi (fun z e9 => ?_)
  obtain rfl : z = 1 := by rw [e9]; decide
  refine va_sld hx hb hX hbl hbA hS (by unfold vp_in; decide) d_law_678 ?_
  refine ax_Vb (Z := sk) (ci := 7) (q0 := 0) (k := 1) (As := [.int (xs (Int32.toNatClampNeg 1))]) (rest := []) (wr := [(mo, .inr (0, mF qm 0)), (qm 1, .inr (1, [x0, x1, x2, x3, x4, x5, x6, x7])), (qm 2, .inr (2, [.ref qa, .int 0])), (qa, .inl (ca 0, 16, .inl (fun _ => 0))), (qm 12, .inl (ca 4, 148, .inr (.inr (.inr (.inr (fun _ => none)))))), (qm 110, .inl (ca 1, 2, .inl (fun _ => 0))), (qm 111, .inl (ca 2, 2, .inr (.inl (fun _ => 0)))), (qm 112, .inl (ca 1, 2, .inl (fun _ => 0))), (qm 113, .inl (ca 2, 2, .inr (.inl (fun _ => 0)))), (qm 114, .inl (ca 2, 2, .inr (.inl (fun _ => 0)))), (qm 117, .inl (ca 1, 2, .inl (fun _ => 0))), (qm 118, .inl (ca 1, 2, .inl (fun _ => 0))), (qm 120, .inl (ca 1, 8000, .inl (fun _ => 0))), (qm 122, .inl (ca 1, 2, .inl (fun _ => 0))), (o, .inl (ca 2, 1, .inr (.inl (fun _ => 0))))]) rfl hx hb hml hown hts g_sk sk_lk (sK_bl dC dI ca) (c_SS_judge l dC dI ca xo qs ((xs (Int32.toNatClampNeg 1)))) xl_12 xs_274 xs_0 xs_276 xs_275 (by decide +kernel) rfl (Nat.le_of_ble_eq_true rfl) (Nat.le_of_ble_eq_true rfl) hl.1 (Nat.le_of_ble_eq_true rfl) (sK_up hKs) hKs.1 hP hD hS hA rfl rfl [0] [7, 8, 9, 10, 11, 12, 13, 14, 15, 16, 17, 18, 19, 20, 21] rfl (by decide) rfl rfl (by decide) (by decide) (Nat.le_of_ble_eq_true rfl) (Nat.le_of_ble_eq_true rfl) d_law_679 (fun v u H locs hp hP hD hS => ?_)
  obtain rfl : v = some (.int (-1)) := hp
  have hP : va_P (dC, dI) classes [(mo, .inr (0, mF qm 0)), (qm 1, .inr (1, [x0, x1, x2, x3, x4, x5, x6, x7])), (qm 2, .inr (2, [.ref qa, .int 0])), (qa, .inl (ca 0, 16, .inl (fun _ => 0))), (qm 12, .inl (ca 4, 148, .inr (.inr (.inr (.inr (fun _ => none)))))), (qm 110, .inl (ca 1, 2, .inl (fun _ => 0))), (qm 111, .inl (ca 2, 2, .inr (.inl (fun _ => 0)))), (qm 112, .inl (ca 1, 2, .inl (fun _ => 0))), (qm 113, .inl (ca 2, 2, .inr (.inl (fun _ => 0)))), (qm 114, .inl (ca 2, 2, .inr (.inl (fun _ => 0)))), (qm 117, .inl (ca 1, 2, .inl (fun _ => 0))), (qm 118, .inl (ca 1, 2, .inl (fun _ => 0))), (qm 120, .inl (ca 1, 8000, .inl (fun _ => 0))), (qm 122, .inl (ca 1, 2, .inl (fun _ => 0))), (o, .inl (ca 2, 1, .inr (.inl (fun _ => 0)))), (xo, .inr (7, sF qs 0))] H := hP
  have hD : va_D A [(mo, .inr (0, mF qm 0)), (qm 1, .inr (1, [x0, x1, x2, x3, x4, x5, x6, x7])), (qm 2, .inr (2, [.ref qa, .int 0])), (qa, .inl (ca 0, 16, .inl (fun _ => 0))), (qm 12, .inl (ca 4, 148, .inr (.inr (.inr (.inr (fun _ => none)))))), (qm 110, .inl (ca 1, 2, .inl (fun _ => 0))), (qm 111, .inl (ca 2, 2, .inr (.inl (fun _ => 0)))), (qm 112, .inl (ca 1, 2, .inl (fun _ => 0))), (qm 113, .inl (ca 2, 2, .inr (.inl (fun _ => 0)))), (qm 114, .inl (ca 2, 2, .inr (.inl (fun _ => 0)))), (qm 117, .inl (ca 1, 2, .inl (fun _ => 0))), (qm 118, .inl (ca 1, 2, .inl (fun _ => 0))), (qm 120, .inl (ca 1, 8000, .inl (fun _ => 0))), (qm 122, .inl (ca 1, 2, .inl (fun _ => 0))), (o, .inl (ca 2, 1, .inr (.inl (fun _ => 0)))), (xo, .inr (7, sF qs 0))] := hD
  refine W.eq (g2 := F0 m 682 ls [.int (-1)]) rfl ?_
  refine lv_aload_n hx hb d_law_682 rfl (lv_at hl 2 rfl) ?_
  refine lv_aload_n hx hb d_law_683 rfl (lv_at hl 4 rfl) ?_
  refine lv_iload hx hb d_law_684 (lv_at hl 0 rfl) ?_
  refine lv_iconst (v := 1) hx hb d_law_686 (by decide) ?_
  refine lv_iadd hx hb d_law_687 ?_
  refine lv_topi (fun z e9 => ?_)
  obtain rfl : z = 1 := by rw [e9]; decide
  refine va_sld hx hb hX hbl hbA hS (by unfold vp_in; decide) d_law_688 ?_
  have hP : va_P (dC, dI) classes [(mo, .inr (0, mF2 qm 0 (.null) 0 0 0)), (qm 1, .inr (1, [x0, x1, x2, x3, x4, x5, x6, x7])), (qm 2, .inr (2, [.ref qa, .int 0])), (qa, .inl (ca 0, 16, .inl (fun _ => 0))), (qm 12, .inl (ca 4, 148, .inr (.inr (.inr (.inr (fun _ => none)))))), (qm 110, .inl (ca 1, 2, .inl (fun _ => 0))), (qm 111, .inl (ca 2, 2, .inr (.inl (fun _ => 0)))), (qm 112, .inl (ca 1, 2, .inl (fun _ => 0))), (qm 113, .inl (ca 2, 2, .inr (.inl (fun _ => 0)))), (qm 114, .inl (ca 2, 2, .inr (.inl (fun _ => 0)))), (qm 117, .inl (ca 1, 2, .inl (fun _ => 0))), (qm 118, .inl (ca 1, 2, .inl (fun _ => 0))), (qm 120, .inl (ca 1, 8000, .inl (fun _ => 0))), (qm 122, .inl (ca 1, 2, .inl (fun _ => 0))), (o, .inl (ca 2, 1, .inr (.inl (fun _ => 0)))), (xo, .inr (7, sF qs 0))] H := hP
  have hD : va_D A [(mo, .inr (0, mF2 qm 0 (.null) 0 0 0)), (qm 1, .inr (1, [x0, x1, x2, x3, x4, x5, x6, x7])), (qm 2, .inr (2, [.ref qa, .int 0])), (qa, .inl (ca 0, 16, .inl (fun _ => 0))), (qm 12, .inl (ca 4, 148, .inr (.inr (.inr (.inr (fun _ => none)))))), (qm 110, .inl (ca 1, 2, .inl (fun _ => 0))), (qm 111, .inl (ca 2, 2, .inr (.inl (fun _ => 0)))), (qm 112, .inl (ca 1, 2, .inl (fun _ => 0))), (qm 113, .inl (ca 2, 2, .inr (.inl (fun _ => 0)))), (qm 114, .inl (ca 2, 2, .inr (.inl (fun _ => 0)))), (qm 117, .inl (ca 1, 2, .inl (fun _ => 0))), (qm 118, .inl (ca 1, 2, .inl (fun _ => 0))), (qm 120, .inl (ca 1, 8000, .inl (fun _ => 0))), (qm 122, .inl (ca 1, 2, .inl (fun _ => 0))), (o, .inl (ca 2, 1, .inr (.inl (fun _ => 0)))), (xo, .inr (7, sF qs 0))] := hD
  refine ax_VWb (Z := wm) (ci := 0) (q0 := 0) (k := 1) (As := [.int (xs (Int32.toNatClampNeg 1))]) (rest := [.int (-1)]) (wr := [(qm 1, .inr (1, [x0, x1, x2, x3, x4, x5, x6, x7])), (qa, .inl (ca 0, 16, .inl (fun _ => 0))), (qm 12, .inl (ca 4, 148, .inr (.inr (.inr (.inr (fun _ => none)))))), (qm 110, .inl (ca 1, 2, .inl (fun _ => 0))), (qm 111, .inl (ca 2, 2, .inr (.inl (fun _ => 0)))), (qm 112, .inl (ca 1, 2, .inl (fun _ => 0))), (qm 113, .inl (ca 2, 2, .inr (.inl (fun _ => 0)))), (qm 114, .inl (ca 2, 2, .inr (.inl (fun _ => 0)))), (qm 117, .inl (ca 1, 2, .inl (fun _ => 0))), (qm 118, .inl (ca 1, 2, .inl (fun _ => 0))), (qm 120, .inl (ca 1, 8000, .inl (fun _ => 0))), (qm 122, .inl (ca 1, 2, .inl (fun _ => 0))), (o, .inl (ca 2, 1, .inr (.inl (fun _ => 0)))), (xo, .inr (7, sF qs 0))]) rfl hx hb hml hown hts g_wm wm_lk (mK_bl dC dI ca) (c_MM_judge l dC dI ca mo qm 0 qa ((xs (Int32.toNatClampNeg 1)))) xl_48 xm_267 xm_0 xm_269 xm_268 (by decide +kernel) rfl (Nat.le_of_ble_eq_true rfl) (Nat.le_of_ble_eq_true rfl) hl.1 (Nat.le_of_ble_eq_true rfl) (mK_up hKm) hKm.1 hP hD hS hA rfl rfl [0, 2] [1, 3, 4, 5, 6, 7, 8, 9, 10, 11, 12, 13, 14, 15] rfl (by decide) rfl rfl (by decide) (by decide) (Nat.le_of_ble_eq_true rfl) (Nat.le_of_ble_eq_true rfl) d_law_689 (fun v u H locs hp hP hD hS => ?_)
  obtain rfl : v = some (.int (-1)) := hp
  have hP : va_P (dC, dI) classes [(qm 1, .inr (1, [x0, x1, x2, x3, x4, x5, x6, x7])), (qa, .inl (ca 0, 16, .inl (fun _ => 0))), (qm 12, .inl (ca 4, 148, .inr (.inr (.inr (.inr (fun _ => none)))))), (qm 110, .inl (ca 1, 2, .inl (fun _ => 0))), (qm 111, .inl (ca 2, 2, .inr (.inl (fun _ => 0)))), (qm 112, .inl (ca 1, 2, .inl (fun _ => 0))), (qm 113, .inl (ca 2, 2, .inr (.inl (fun _ => 0)))), (qm 114, .inl (ca 2, 2, .inr (.inl (fun _ => 0)))), (qm 117, .inl (ca 1, 2, .inl (fun _ => 0))), (qm 118, .inl (ca 1, 2, .inl (fun _ => 0))), (qm 120, .inl (ca 1, 8000, .inl (fun _ => 0))), (qm 122, .inl (ca 1, 2, .inl (fun _ => 0))), (o, .inl (ca 2, 1, .inr (.inl (fun _ => 0)))), (xo, .inr (7, sF qs 0))] H := hP
  have hD : va_D A [(qm 1, .inr (1, [x0, x1, x2, x3, x4, x5, x6, x7])), (qa, .inl (ca 0, 16, .inl (fun _ => 0))), (qm 12, .inl (ca 4, 148, .inr (.inr (.inr (.inr (fun _ => none)))))), (qm 110, .inl (ca 1, 2, .inl (fun _ => 0))), (qm 111, .inl (ca 2, 2, .inr (.inl (fun _ => 0)))), (qm 112, .inl (ca 1, 2, .inl (fun _ => 0))), (qm 113, .inl (ca 2, 2, .inr (.inl (fun _ => 0)))), (qm 114, .inl (ca 2, 2, .inr (.inl (fun _ => 0)))), (qm 117, .inl (ca 1, 2, .inl (fun _ => 0))), (qm 118, .inl (ca 1, 2, .inl (fun _ => 0))), (qm 120, .inl (ca 1, 8000, .inl (fun _ => 0))), (qm 122, .inl (ca 1, 2, .inl (fun _ => 0))), (o, .inl (ca 2, 1, .inr (.inl (fun _ => 0)))), (xo, .inr (7, sF qs 0))] := hD
  refine W.eq (g2 := F0 m 692 ls [.int (-1), .int (-1)]) rfl ?_
  refine lv_icmp_eq (tgt := 1327) hx hb d_law_692 (by decide) (fun _ => ?_) (fun h => absurd rfl h)
  refine W.widen (k := 300) (n := 650000) (Nat.le_of_ble_eq_true rfl) (Nat.le_of_ble_eq_true rfl) ?_
  exact kk H locs ls hS (lv_sub hl [0, 4] rfl)
set_option maxHeartbeats 4000000 in
set_option maxRecDepth 100000 in
theorem lc_11 {p : Program} {l : Launch} {e : Env} {s : State} {m : MethodId} {args : Array Value} {below : List Frame} {meth : Method} {c : Code} {H : Heap} {locs : List Loc} {Q : State → Prop} {dC : Nat → ClassId} {dI : Nat → Nat → Nat} {ca : Nat → ClassId} {A : Nat → Prop} {ls : Array Slot} {b : Nat} {xs : Nat → Int32} {xo mo o d0 d1 qa : Nat} {qs qm r0 r1 : Nat → Nat} {x0 x1 x2 x3 x4 x5 x6 x7 : Value} (hl9 : l.stackTraces = false) (L : lC p s m args c dC dI ca A b xs) (hP : va_P (dC, dI) classes [(xo, .inr (7, sF qs 0)), (qs 0, .inl (ca 0, 256, .inl (fun _ => 0))), (qs 4, .inl (ca 6, 160, .inr (.inr (.inr (.inr (fun _ => none)))))), (qs 7, .inl (ca 5, 2, .inr (.inr (.inr (.inr (va_up (va_up (fun _ => none) 0 (some d0)) 1 (some d1))))))), (qs 8, .inr (8, [.null, .int 0, .int 0])), (d0, .inr (17, sD r0)), (d1, .inr (17, sD r1)), (mo, .inr (0, mF qm 0)), (qm 1, .inr (1, [x0, x1, x2, x3, x4, x5, x6, x7])), (qm 2, .inr (2, [.ref qa, .int 0])), (qa, .inl (ca 0, 16, .inl (fun _ => 0))), (qm 12, .inl (ca 4, 148, .inr (.inr (.inr (.inr (fun _ => none)))))), (qm 110, .inl (ca 1, 2, .inl (fun _ => 0))), (qm 111, .inl (ca 2, 2, .inr (.inl (fun _ => 0)))), (qm 112, .inl (ca 1, 2, .inl (fun _ => 0))), (qm 113, .inl (ca 2, 2, .inr (.inl (fun _ => 0)))), (qm 114, .inl (ca 2, 2, .inr (.inl (fun _ => 0)))), (qm 117, .inl (ca 1, 2, .inl (fun _ => 0))), (qm 118, .inl (ca 1, 2, .inl (fun _ => 0))), (qm 120, .inl (ca 1, 8000, .inl (fun _ => 0))), (qm 122, .inl (ca 1, 2, .inl (fun _ => 0))), (o, .inl (ca 2, 1, .inr (.inl (fun _ => 0))))] H) (hD : va_D A [(xo, .inr (7, sF qs 0)), (qs 0, .inl (ca 0, 256, .inl (fun _ => 0))), (qs 4, .inl (ca 6, 160, .inr (.inr (.inr (.inr (fun _ => none)))))), (qs 7, .inl (ca 5, 2, .inr (.inr (.inr (.inr (va_up (va_up (fun _ => none) 0 (some d0)) 1 (some d1))))))), (qs 8, .inr (8, [.null, .int 0, .int 0])), (d0, .inr (17, sD r0)), (d1, .inr (17, sD r1)), (mo, .inr (0, mF qm 0)), (qm 1, .inr (1, [x0, x1, x2, x3, x4, x5, x6, x7])), (qm 2, .inr (2, [.ref qa, .int 0])), (qa, .inl (ca 0, 16, .inl (fun _ => 0))), (qm 12, .inl (ca 4, 148, .inr (.inr (.inr (.inr (fun _ => none)))))), (qm 110, .inl (ca 1, 2, .inl (fun _ => 0))), (qm 111, .inl (ca 2, 2, .inr (.inl (fun _ => 0)))), (qm 112, .inl (ca 1, 2, .inl (fun _ => 0))), (qm 113, .inl (ca 2, 2, .inr (.inl (fun _ => 0)))), (qm 114, .inl (ca 2, 2, .inr (.inl (fun _ => 0)))), (qm 117, .inl (ca 1, 2, .inl (fun _ => 0))), (qm 118, .inl (ca 1, 2, .inl (fun _ => 0))), (qm 120, .inl (ca 1, 8000, .inl (fun _ => 0))), (qm 122, .inl (ca 1, 2, .inl (fun _ => 0))), (o, .inl (ca 2, 1, .inr (.inl (fun _ => 0))))]) (hS : va_S A s.heap H locs) (hl : lv_has ls 8 [(4, .int 0), (3, .ref o), (2, .ref mo), (1, .ref xo), (0, .ref b)])
    (kk : lkk p l e s m args below meth c A b Q) : W p l e room_1 s m args below meth c H locs 236 644961 Q (F0 m 697 ls []) := by
  obtain ⟨hx, hb, hml, hown, hts, hKm, hE, hA, hAs, hX, hbl, hbA⟩ := L
  have hKs := hE.1.1
  refine lv_aload_n hx hb d_law_697 rfl (lv_at hl 3 rfl) ?_
  refine lv_aload_n hx hb d_law_698 rfl (lv_at hl 4 rfl) ?_
  refine lv_iload hx hb d_law_699 (lv_at hl 0 rfl) ?_
  refine lv_iconst (v := 1) hx hb d_law_701 (by decide) ?_
  refine lv_iadd hx hb d_law_702 ?_
  refine lv_topi (fun z e9 => ?_)
  obtain rfl : z = 1 := by rw [e9]; decide
  refine va_sld hx hb hX hbl hbA hS (by unfold vp_in; decide) d_law_703 ?_
  refine lv_aload_n hx hb d_law_704 rfl (lv_at hl 4 rfl) ?_
  refine lv_iload hx hb d_law_705 (lv_at hl 0 rfl) ?_
  refine lv_iconst (v := 2) hx hb d_law_707 (by decide) ?_
  refine lv_iadd hx hb d_law_708 ?_
  refine lv_topi (fun z e9 => ?_)
  obtain rfl : z = 2 := by rw [e9]; decide
  refine va_sld hx hb hX hbl hbA hS (by unfold vp_in; decide) d_law_709 ?_
  refine ax_Vb (Z := sk) (ci := 7) (q0 := 0) (k := 2) (As := [.int (xs (Int32.toNatClampNeg 1)), .int (xs (Int32.toNatClampNeg 2))]) (rest := []) (wr := [(mo, .inr (0, mF qm 0)), (qm 1, .inr (1, [x0, x1, x2, x3, x4, x5, x6, x7])), (qm 2, .inr (2, [.ref qa, .int 0])), (qa, .inl (ca 0, 16, .inl (fun _ => 0))), (qm 12, .inl (ca 4, 148, .inr (.inr (.inr (.inr (fun _ => none)))))), (qm 110, .inl (ca 1, 2, .inl (fun _ => 0))), (qm 111, .inl (ca 2, 2, .inr (.inl (fun _ => 0)))), (qm 112, .inl (ca 1, 2, .inl (fun _ => 0))), (qm 113, .inl (ca 2, 2, .inr (.inl (fun _ => 0)))), (qm 114, .inl (ca 2, 2, .inr (.inl (fun _ => 0)))), (qm 117, .inl (ca 1, 2, .inl (fun _ => 0))), (qm 118, .inl (ca 1, 2, .inl (fun _ => 0))), (qm 120, .inl (ca 1, 8000, .inl (fun _ => 0))), (qm 122, .inl (ca 1, 2, .inl (fun _ => 0))), (o, .inl (ca 2, 1, .inr (.inl (fun _ => 0))))]) rfl hx hb hml hown hts g_sk sk_lk (sK_bl dC dI ca) (c_SS_edit l dC dI ca xo qs ((xs (Int32.toNatClampNeg 1))) ((xs (Int32.toNatClampNeg 2)))) xl_13 xs_277 xs_0 xs_279 xs_278 (by decide +kernel) rfl (Nat.le_of_ble_eq_true rfl) (Nat.le_of_ble_eq_true rfl) hl.1 (Nat.le_of_ble_eq_true rfl) (sK_up hKs) hKs.1 hP hD hS hA rfl rfl [0] [7, 8, 9, 10, 11, 12, 13, 14, 15, 16, 17, 18, 19, 20, 21] rfl (by decide) rfl rfl (by decide) (by decide) (Nat.le_of_ble_eq_true rfl) (Nat.le_of_ble_eq_true rfl) d_law_710 (fun v u H locs hp hP hD hS => ?_)
  obtain rfl : v = some (.int (-1)) := hp
  have hP : va_P (dC, dI) classes [(mo, .inr (0, mF qm 0)), (qm 1, .inr (1, [x0, x1, x2, x3, x4, x5, x6, x7])), (qm 2, .inr (2, [.ref qa, .int 0])), (qa, .inl (ca 0, 16, .inl (fun _ => 0))), (qm 12, .inl (ca 4, 148, .inr (.inr (.inr (.inr (fun _ => none)))))), (qm 110, .inl (ca 1, 2, .inl (fun _ => 0))), (qm 111, .inl (ca 2, 2, .inr (.inl (fun _ => 0)))), (qm 112, .inl (ca 1, 2, .inl (fun _ => 0))), (qm 113, .inl (ca 2, 2, .inr (.inl (fun _ => 0)))), (qm 114, .inl (ca 2, 2, .inr (.inl (fun _ => 0)))), (qm 117, .inl (ca 1, 2, .inl (fun _ => 0))), (qm 118, .inl (ca 1, 2, .inl (fun _ => 0))), (qm 120, .inl (ca 1, 8000, .inl (fun _ => 0))), (qm 122, .inl (ca 1, 2, .inl (fun _ => 0))), (o, .inl (ca 2, 1, .inr (.inl (fun _ => 0)))), (xo, .inr (7, sF qs 0))] H := hP
  have hD : va_D A [(mo, .inr (0, mF qm 0)), (qm 1, .inr (1, [x0, x1, x2, x3, x4, x5, x6, x7])), (qm 2, .inr (2, [.ref qa, .int 0])), (qa, .inl (ca 0, 16, .inl (fun _ => 0))), (qm 12, .inl (ca 4, 148, .inr (.inr (.inr (.inr (fun _ => none)))))), (qm 110, .inl (ca 1, 2, .inl (fun _ => 0))), (qm 111, .inl (ca 2, 2, .inr (.inl (fun _ => 0)))), (qm 112, .inl (ca 1, 2, .inl (fun _ => 0))), (qm 113, .inl (ca 2, 2, .inr (.inl (fun _ => 0)))), (qm 114, .inl (ca 2, 2, .inr (.inl (fun _ => 0)))), (qm 117, .inl (ca 1, 2, .inl (fun _ => 0))), (qm 118, .inl (ca 1, 2, .inl (fun _ => 0))), (qm 120, .inl (ca 1, 8000, .inl (fun _ => 0))), (qm 122, .inl (ca 1, 2, .inl (fun _ => 0))), (o, .inl (ca 2, 1, .inr (.inl (fun _ => 0)))), (xo, .inr (7, sF qs 0))] := hD
  refine W.eq (g2 := F0 m 713 ls [.int (-1)]) rfl ?_
  refine lv_aload_n hx hb d_law_713 rfl (lv_at hl 2 rfl) ?_
  refine lv_aload_n hx hb d_law_714 rfl (lv_at hl 4 rfl) ?_
  refine lv_iload hx hb d_law_715 (lv_at hl 0 rfl) ?_
  refine lv_iconst (v := 1) hx hb d_law_717 (by decide) ?_
  refine lv_iadd hx hb d_law_718 ?_
  refine lv_topi (fun z e9 => ?_)
  obtain rfl : z = 1 := by rw [e9]; decide
  refine va_sld hx hb hX hbl hbA hS (by unfold vp_in; decide) d_law_719 ?_
  refine lv_aload_n hx hb d_law_720 rfl (lv_at hl 4 rfl) ?_
  refine lv_iload hx hb d_law_721 (lv_at hl 0 rfl) ?_
  refine lv_iconst (v := 2) hx hb d_law_723 (by decide) ?_
  refine lv_iadd hx hb d_law_724 ?_
  refine lv_topi (fun z e9 => ?_)
  obtain rfl : z = 2 := by rw [e9]; decide
  refine va_sld hx hb hX hbl hbA hS (by unfold vp_in; decide) d_law_725 ?_
  have hP : va_P (dC, dI) classes [(mo, .inr (0, mF2 qm 0 (.null) 0 0 0)), (qm 1, .inr (1, [x0, x1, x2, x3, x4, x5, x6, x7])), (qm 2, .inr (2, [.ref qa, .int 0])), (qa, .inl (ca 0, 16, .inl (fun _ => 0))), (qm 12, .inl (ca 4, 148, .inr (.inr (.inr (.inr (fun _ => none)))))), (qm 110, .inl (ca 1, 2, .inl (fun _ => 0))), (qm 111, .inl (ca 2, 2, .inr (.inl (fun _ => 0)))), (qm 112, .inl (ca 1, 2, .inl (fun _ => 0))), (qm 113, .inl (ca 2, 2, .inr (.inl (fun _ => 0)))), (qm 114, .inl (ca 2, 2, .inr (.inl (fun _ => 0)))), (qm 117, .inl (ca 1, 2, .inl (fun _ => 0))), (qm 118, .inl (ca 1, 2, .inl (fun _ => 0))), (qm 120, .inl (ca 1, 8000, .inl (fun _ => 0))), (qm 122, .inl (ca 1, 2, .inl (fun _ => 0))), (o, .inl (ca 2, 1, .inr (.inl (fun _ => 0)))), (xo, .inr (7, sF qs 0))] H := hP
  have hD : va_D A [(mo, .inr (0, mF2 qm 0 (.null) 0 0 0)), (qm 1, .inr (1, [x0, x1, x2, x3, x4, x5, x6, x7])), (qm 2, .inr (2, [.ref qa, .int 0])), (qa, .inl (ca 0, 16, .inl (fun _ => 0))), (qm 12, .inl (ca 4, 148, .inr (.inr (.inr (.inr (fun _ => none)))))), (qm 110, .inl (ca 1, 2, .inl (fun _ => 0))), (qm 111, .inl (ca 2, 2, .inr (.inl (fun _ => 0)))), (qm 112, .inl (ca 1, 2, .inl (fun _ => 0))), (qm 113, .inl (ca 2, 2, .inr (.inl (fun _ => 0)))), (qm 114, .inl (ca 2, 2, .inr (.inl (fun _ => 0)))), (qm 117, .inl (ca 1, 2, .inl (fun _ => 0))), (qm 118, .inl (ca 1, 2, .inl (fun _ => 0))), (qm 120, .inl (ca 1, 8000, .inl (fun _ => 0))), (qm 122, .inl (ca 1, 2, .inl (fun _ => 0))), (o, .inl (ca 2, 1, .inr (.inl (fun _ => 0)))), (xo, .inr (7, sF qs 0))] := hD
  refine ax_VWb (Z := wm) (ci := 0) (q0 := 0) (k := 2) (As := [.int (xs (Int32.toNatClampNeg 1)), .int (xs (Int32.toNatClampNeg 2))]) (rest := [.int (-1)]) (wr := [(qm 1, .inr (1, [x0, x1, x2, x3, x4, x5, x6, x7])), (qa, .inl (ca 0, 16, .inl (fun _ => 0))), (qm 12, .inl (ca 4, 148, .inr (.inr (.inr (.inr (fun _ => none)))))), (qm 110, .inl (ca 1, 2, .inl (fun _ => 0))), (qm 111, .inl (ca 2, 2, .inr (.inl (fun _ => 0)))), (qm 112, .inl (ca 1, 2, .inl (fun _ => 0))), (qm 113, .inl (ca 2, 2, .inr (.inl (fun _ => 0)))), (qm 114, .inl (ca 2, 2, .inr (.inl (fun _ => 0)))), (qm 117, .inl (ca 1, 2, .inl (fun _ => 0))), (qm 118, .inl (ca 1, 2, .inl (fun _ => 0))), (qm 120, .inl (ca 1, 8000, .inl (fun _ => 0))), (qm 122, .inl (ca 1, 2, .inl (fun _ => 0))), (o, .inl (ca 2, 1, .inr (.inl (fun _ => 0)))), (xo, .inr (7, sF qs 0))]) rfl hx hb hml hown hts g_wm wm_lk (mK_bl dC dI ca) (c_MM_edit l dC dI ca mo qm 0 qa ((xs (Int32.toNatClampNeg 1))) ((xs (Int32.toNatClampNeg 2)))) xl_49 xm_270 xm_0 xm_272 xm_271 (by decide +kernel) rfl (Nat.le_of_ble_eq_true rfl) (Nat.le_of_ble_eq_true rfl) hl.1 (Nat.le_of_ble_eq_true rfl) (mK_up hKm) hKm.1 hP hD hS hA rfl rfl [0, 2] [1, 3, 4, 5, 6, 7, 8, 9, 10, 11, 12, 13, 14, 15] rfl (by decide) rfl rfl (by decide) (by decide) (Nat.le_of_ble_eq_true rfl) (Nat.le_of_ble_eq_true rfl) d_law_726 (fun v u H locs hp hP hD hS => ?_)
  obtain rfl : v = some (.int (-1)) := hp
  have hP : va_P (dC, dI) classes [(qm 1, .inr (1, [x0, x1, x2, x3, x4, x5, x6, x7])), (qa, .inl (ca 0, 16, .inl (fun _ => 0))), (qm 12, .inl (ca 4, 148, .inr (.inr (.inr (.inr (fun _ => none)))))), (qm 110, .inl (ca 1, 2, .inl (fun _ => 0))), (qm 111, .inl (ca 2, 2, .inr (.inl (fun _ => 0)))), (qm 112, .inl (ca 1, 2, .inl (fun _ => 0))), (qm 113, .inl (ca 2, 2, .inr (.inl (fun _ => 0)))), (qm 114, .inl (ca 2, 2, .inr (.inl (fun _ => 0)))), (qm 117, .inl (ca 1, 2, .inl (fun _ => 0))), (qm 118, .inl (ca 1, 2, .inl (fun _ => 0))), (qm 120, .inl (ca 1, 8000, .inl (fun _ => 0))), (qm 122, .inl (ca 1, 2, .inl (fun _ => 0))), (o, .inl (ca 2, 1, .inr (.inl (fun _ => 0)))), (xo, .inr (7, sF qs 0))] H := hP
  have hD : va_D A [(qm 1, .inr (1, [x0, x1, x2, x3, x4, x5, x6, x7])), (qa, .inl (ca 0, 16, .inl (fun _ => 0))), (qm 12, .inl (ca 4, 148, .inr (.inr (.inr (.inr (fun _ => none)))))), (qm 110, .inl (ca 1, 2, .inl (fun _ => 0))), (qm 111, .inl (ca 2, 2, .inr (.inl (fun _ => 0)))), (qm 112, .inl (ca 1, 2, .inl (fun _ => 0))), (qm 113, .inl (ca 2, 2, .inr (.inl (fun _ => 0)))), (qm 114, .inl (ca 2, 2, .inr (.inl (fun _ => 0)))), (qm 117, .inl (ca 1, 2, .inl (fun _ => 0))), (qm 118, .inl (ca 1, 2, .inl (fun _ => 0))), (qm 120, .inl (ca 1, 8000, .inl (fun _ => 0))), (qm 122, .inl (ca 1, 2, .inl (fun _ => 0))), (o, .inl (ca 2, 1, .inr (.inl (fun _ => 0)))), (xo, .inr (7, sF qs 0))] := hD
  refine W.eq (g2 := F0 m 729 ls [.int (-1), .int (-1)]) rfl ?_
  refine lv_icmp_eq (tgt := 1327) hx hb d_law_729 (by decide) (fun _ => ?_) (fun h => absurd rfl h)
  refine W.widen (k := 300) (n := 650000) (Nat.le_of_ble_eq_true rfl) (Nat.le_of_ble_eq_true rfl) ?_
  exact kk H locs ls hS (lv_sub hl [0, 4] rfl)
set_option maxHeartbeats 4000000 in
set_option maxRecDepth 100000 in
theorem lc_12 {p : Program} {l : Launch} {e : Env} {s : State} {m : MethodId} {args : Array Value} {below : List Frame} {meth : Method} {c : Code} {H : Heap} {locs : List Loc} {Q : State → Prop} {dC : Nat → ClassId} {dI : Nat → Nat → Nat} {ca : Nat → ClassId} {A : Nat → Prop} {ls : Array Slot} {b : Nat} {xs : Nat → Int32} {xo mo o d0 d1 qa : Nat} {qs qm r0 r1 : Nat → Nat} {x0 x1 x2 x3 x4 x5 x6 x7 : Value} (hl9 : l.stackTraces = false) (L : lC p s m args c dC dI ca A b xs) (hP : va_P (dC, dI) classes [(xo, .inr (7, sF qs 0)), (qs 0, .inl (ca 0, 256, .inl (fun _ => 0))), (qs 4, .inl (ca 6, 160, .inr (.inr (.inr (.inr (fun _ => none)))))), (qs 7, .inl (ca 5, 2, .inr (.inr (.inr (.inr (va_up (va_up (fun _ => none) 0 (some d0)) 1 (some d1))))))), (qs 8, .inr (8, [.null, .int 0, .int 0])), (d0, .inr (17, sD r0)), (d1, .inr (17, sD r1)), (mo, .inr (0, mF qm 0)), (qm 1, .inr (1, [x0, x1, x2, x3, x4, x5, x6, x7])), (qm 2, .inr (2, [.ref qa, .int 0])), (qa, .inl (ca 0, 16, .inl (fun _ => 0))), (qm 12, .inl (ca 4, 148, .inr (.inr (.inr (.inr (fun _ => none)))))), (qm 110, .inl (ca 1, 2, .inl (fun _ => 0))), (qm 111, .inl (ca 2, 2, .inr (.inl (fun _ => 0)))), (qm 112, .inl (ca 1, 2, .inl (fun _ => 0))), (qm 113, .inl (ca 2, 2, .inr (.inl (fun _ => 0)))), (qm 114, .inl (ca 2, 2, .inr (.inl (fun _ => 0)))), (qm 117, .inl (ca 1, 2, .inl (fun _ => 0))), (qm 118, .inl (ca 1, 2, .inl (fun _ => 0))), (qm 120, .inl (ca 1, 8000, .inl (fun _ => 0))), (qm 122, .inl (ca 1, 2, .inl (fun _ => 0))), (o, .inl (ca 2, 1, .inr (.inl (fun _ => 0))))] H) (hD : va_D A [(xo, .inr (7, sF qs 0)), (qs 0, .inl (ca 0, 256, .inl (fun _ => 0))), (qs 4, .inl (ca 6, 160, .inr (.inr (.inr (.inr (fun _ => none)))))), (qs 7, .inl (ca 5, 2, .inr (.inr (.inr (.inr (va_up (va_up (fun _ => none) 0 (some d0)) 1 (some d1))))))), (qs 8, .inr (8, [.null, .int 0, .int 0])), (d0, .inr (17, sD r0)), (d1, .inr (17, sD r1)), (mo, .inr (0, mF qm 0)), (qm 1, .inr (1, [x0, x1, x2, x3, x4, x5, x6, x7])), (qm 2, .inr (2, [.ref qa, .int 0])), (qa, .inl (ca 0, 16, .inl (fun _ => 0))), (qm 12, .inl (ca 4, 148, .inr (.inr (.inr (.inr (fun _ => none)))))), (qm 110, .inl (ca 1, 2, .inl (fun _ => 0))), (qm 111, .inl (ca 2, 2, .inr (.inl (fun _ => 0)))), (qm 112, .inl (ca 1, 2, .inl (fun _ => 0))), (qm 113, .inl (ca 2, 2, .inr (.inl (fun _ => 0)))), (qm 114, .inl (ca 2, 2, .inr (.inl (fun _ => 0)))), (qm 117, .inl (ca 1, 2, .inl (fun _ => 0))), (qm 118, .inl (ca 1, 2, .inl (fun _ => 0))), (qm 120, .inl (ca 1, 8000, .inl (fun _ => 0))), (qm 122, .inl (ca 1, 2, .inl (fun _ => 0))), (o, .inl (ca 2, 1, .inr (.inl (fun _ => 0))))]) (hS : va_S A s.heap H locs) (hl : lv_has ls 8 [(4, .int 0), (3, .ref o), (2, .ref mo), (1, .ref xo), (0, .ref b)])
    (kk : lkk p l e s m args below meth c A b Q) : W p l e room_1 s m args below meth c H locs 236 644961 Q (F0 m 734 ls []) := by
  obtain ⟨hx, hb, hml, hown, hts, hKm, hE, hA, hAs, hX, hbl, hbA⟩ := L
  have hKs := hE.1.1
  refine lv_aload_n hx hb d_law_734 rfl (lv_at hl 3 rfl) ?_
  refine lv_aload_n hx hb d_law_735 rfl (lv_at hl 4 rfl) ?_
  refine lv_iload hx hb d_law_736 (lv_at hl 0 rfl) ?_
  refine lv_iconst (v := 1) hx hb d_law_738 (by decide) ?_
  refine lv_iadd hx hb d_law_739 ?_
  refine lv_topi (fun z e9 => ?_)
  obtain rfl : z = 1 := by rw [e9]; decide
  refine va_sld hx hb hX hbl hbA hS (by unfold vp_in; decide) d_law_740 ?_
  refine ax_Vb (Z := sk) (ci := 7) (q0 := 0) (k := 1) (As := [.int (xs (Int32.toNatClampNeg 1))]) (rest := []) (wr := [(mo, .inr (0, mF qm 0)), (qm 1, .inr (1, [x0, x1, x2, x3, x4, x5, x6, x7])), (qm 2, .inr (2, [.ref qa, .int 0])), (qa, .inl (ca 0, 16, .inl (fun _ => 0))), (qm 12, .inl (ca 4, 148, .inr (.inr (.inr (.inr (fun _ => none)))))), (qm 110, .inl (ca 1, 2, .inl (fun _ => 0))), (qm 111, .inl (ca 2, 2, .inr (.inl (fun _ => 0)))), (qm 112, .inl (ca 1, 2, .inl (fun _ => 0))), (qm 113, .inl (ca 2, 2, .inr (.inl (fun _ => 0)))), (qm 114, .inl (ca 2, 2, .inr (.inl (fun _ => 0)))), (qm 117, .inl (ca 1, 2, .inl (fun _ => 0))), (qm 118, .inl (ca 1, 2, .inl (fun _ => 0))), (qm 120, .inl (ca 1, 8000, .inl (fun _ => 0))), (qm 122, .inl (ca 1, 2, .inl (fun _ => 0))), (o, .inl (ca 2, 1, .inr (.inl (fun _ => 0))))]) rfl hx hb hml hown hts g_sk sk_lk (sK_bl dC dI ca) (c_SS_undo l dC dI ca xo qs 0 ((xs (Int32.toNatClampNeg 1)))) xl_14 xs_280 xs_0 xs_282 xs_281 (by decide +kernel) rfl (Nat.le_of_ble_eq_true rfl) (Nat.le_of_ble_eq_true rfl) hl.1 (Nat.le_of_ble_eq_true rfl) (sK_up hKs) hKs.1 hP hD hS hA rfl rfl [0] [7, 8, 9, 10, 11, 12, 13, 14, 15, 16, 17, 18, 19, 20, 21] rfl (by decide) rfl rfl (by decide) (by decide) (Nat.le_of_ble_eq_true rfl) (Nat.le_of_ble_eq_true rfl) d_law_741 (fun v u H locs hp hP hD hS => ?_)
  obtain rfl : v = some (.int 0) := hp
  have hP : va_P (dC, dI) classes [(mo, .inr (0, mF qm 0)), (qm 1, .inr (1, [x0, x1, x2, x3, x4, x5, x6, x7])), (qm 2, .inr (2, [.ref qa, .int 0])), (qa, .inl (ca 0, 16, .inl (fun _ => 0))), (qm 12, .inl (ca 4, 148, .inr (.inr (.inr (.inr (fun _ => none)))))), (qm 110, .inl (ca 1, 2, .inl (fun _ => 0))), (qm 111, .inl (ca 2, 2, .inr (.inl (fun _ => 0)))), (qm 112, .inl (ca 1, 2, .inl (fun _ => 0))), (qm 113, .inl (ca 2, 2, .inr (.inl (fun _ => 0)))), (qm 114, .inl (ca 2, 2, .inr (.inl (fun _ => 0)))), (qm 117, .inl (ca 1, 2, .inl (fun _ => 0))), (qm 118, .inl (ca 1, 2, .inl (fun _ => 0))), (qm 120, .inl (ca 1, 8000, .inl (fun _ => 0))), (qm 122, .inl (ca 1, 2, .inl (fun _ => 0))), (o, .inl (ca 2, 1, .inr (.inl (fun _ => 0)))), (xo, .inr (7, sF qs 0))] H := hP
  have hD : va_D A [(mo, .inr (0, mF qm 0)), (qm 1, .inr (1, [x0, x1, x2, x3, x4, x5, x6, x7])), (qm 2, .inr (2, [.ref qa, .int 0])), (qa, .inl (ca 0, 16, .inl (fun _ => 0))), (qm 12, .inl (ca 4, 148, .inr (.inr (.inr (.inr (fun _ => none)))))), (qm 110, .inl (ca 1, 2, .inl (fun _ => 0))), (qm 111, .inl (ca 2, 2, .inr (.inl (fun _ => 0)))), (qm 112, .inl (ca 1, 2, .inl (fun _ => 0))), (qm 113, .inl (ca 2, 2, .inr (.inl (fun _ => 0)))), (qm 114, .inl (ca 2, 2, .inr (.inl (fun _ => 0)))), (qm 117, .inl (ca 1, 2, .inl (fun _ => 0))), (qm 118, .inl (ca 1, 2, .inl (fun _ => 0))), (qm 120, .inl (ca 1, 8000, .inl (fun _ => 0))), (qm 122, .inl (ca 1, 2, .inl (fun _ => 0))), (o, .inl (ca 2, 1, .inr (.inl (fun _ => 0)))), (xo, .inr (7, sF qs 0))] := hD
  refine W.eq (g2 := F0 m 744 ls [.int 0]) rfl ?_
  refine lv_aload_n hx hb d_law_744 rfl (lv_at hl 2 rfl) ?_
  refine lv_aload_n hx hb d_law_745 rfl (lv_at hl 4 rfl) ?_
  refine lv_iload hx hb d_law_746 (lv_at hl 0 rfl) ?_
  refine lv_iconst (v := 1) hx hb d_law_748 (by decide) ?_
  refine lv_iadd hx hb d_law_749 ?_
  refine lv_topi (fun z e9 => ?_)
  obtain rfl : z = 1 := by rw [e9]; decide
  refine va_sld hx hb hX hbl hbA hS (by unfold vp_in; decide) d_law_750 ?_
  refine ax_Vb (Z := wm) (ci := 0) (q0 := 0) (k := 1) (As := [.int (xs (Int32.toNatClampNeg 1))]) (rest := [.int 0]) (wr := [(qm 1, .inr (1, [x0, x1, x2, x3, x4, x5, x6, x7])), (qm 2, .inr (2, [.ref qa, .int 0])), (qa, .inl (ca 0, 16, .inl (fun _ => 0))), (qm 12, .inl (ca 4, 148, .inr (.inr (.inr (.inr (fun _ => none)))))), (qm 110, .inl (ca 1, 2, .inl (fun _ => 0))), (qm 111, .inl (ca 2, 2, .inr (.inl (fun _ => 0)))), (qm 112, .inl (ca 1, 2, .inl (fun _ => 0))), (qm 113, .inl (ca 2, 2, .inr (.inl (fun _ => 0)))), (qm 114, .inl (ca 2, 2, .inr (.inl (fun _ => 0)))), (qm 117, .inl (ca 1, 2, .inl (fun _ => 0))), (qm 118, .inl (ca 1, 2, .inl (fun _ => 0))), (qm 120, .inl (ca 1, 8000, .inl (fun _ => 0))), (qm 122, .inl (ca 1, 2, .inl (fun _ => 0))), (o, .inl (ca 2, 1, .inr (.inl (fun _ => 0)))), (xo, .inr (7, sF qs 0))]) rfl hx hb hml hown hts g_wm wm_lk (mK_bl dC dI ca) (c_MM_undo l dC dI ca mo qm 0 ((xs (Int32.toNatClampNeg 1)))) xl_50 xm_273 xm_0 xm_275 xm_274 (by decide +kernel) rfl (Nat.le_of_ble_eq_true rfl) (Nat.le_of_ble_eq_true rfl) hl.1 (Nat.le_of_ble_eq_true rfl) (mK_up hKm) hKm.1 hP hD hS hA rfl rfl [0] [1, 2, 3, 4, 5, 6, 7, 8, 9, 10, 11, 12, 13, 14, 15] rfl (by decide) rfl rfl (by decide) (by decide) (Nat.le_of_ble_eq_true rfl) (Nat.le_of_ble_eq_true rfl) d_law_751 (fun v u H locs hp hP hD hS => ?_)
  obtain rfl : v = some (.int 0) := hp
  have hP : va_P (dC, dI) classes [(qm 1, .inr (1, [x0, x1, x2, x3, x4, x5, x6, x7])), (qm 2, .inr (2, [.ref qa, .int 0])), (qa, .inl (ca 0, 16, .inl (fun _ => 0))), (qm 12, .inl (ca 4, 148, .inr (.inr (.inr (.inr (fun _ => none)))))), (qm 110, .inl (ca 1, 2, .inl (fun _ => 0))), (qm 111, .inl (ca 2, 2, .inr (.inl (fun _ => 0)))), (qm 112, .inl (ca 1, 2, .inl (fun _ => 0))), (qm 113, .inl (ca 2, 2, .inr (.inl (fun _ => 0)))), (qm 114, .inl (ca 2, 2, .inr (.inl (fun _ => 0)))), (qm 117, .inl (ca 1, 2, .inl (fun _ => 0))), (qm 118, .inl (ca 1, 2, .inl (fun _ => 0))), (qm 120, .inl (ca 1, 8000, .inl (fun _ => 0))), (qm 122, .inl (ca 1, 2, .inl (fun _ => 0))), (o, .inl (ca 2, 1, .inr (.inl (fun _ => 0)))), (xo, .inr (7, sF qs 0)), (mo, .inr (0, mF qm 0))] H := hP
  have hD : va_D A [(qm 1, .inr (1, [x0, x1, x2, x3, x4, x5, x6, x7])), (qm 2, .inr (2, [.ref qa, .int 0])), (qa, .inl (ca 0, 16, .inl (fun _ => 0))), (qm 12, .inl (ca 4, 148, .inr (.inr (.inr (.inr (fun _ => none)))))), (qm 110, .inl (ca 1, 2, .inl (fun _ => 0))), (qm 111, .inl (ca 2, 2, .inr (.inl (fun _ => 0)))), (qm 112, .inl (ca 1, 2, .inl (fun _ => 0))), (qm 113, .inl (ca 2, 2, .inr (.inl (fun _ => 0)))), (qm 114, .inl (ca 2, 2, .inr (.inl (fun _ => 0)))), (qm 117, .inl (ca 1, 2, .inl (fun _ => 0))), (qm 118, .inl (ca 1, 2, .inl (fun _ => 0))), (qm 120, .inl (ca 1, 8000, .inl (fun _ => 0))), (qm 122, .inl (ca 1, 2, .inl (fun _ => 0))), (o, .inl (ca 2, 1, .inr (.inl (fun _ => 0)))), (xo, .inr (7, sF qs 0)), (mo, .inr (0, mF qm 0))] := hD
  refine W.eq (g2 := F0 m 754 ls [.int 0, .int 0]) rfl ?_
  refine lv_icmp_eq (tgt := 1327) hx hb d_law_754 (by decide) (fun _ => ?_) (fun h => absurd rfl h)
  refine W.widen (k := 300) (n := 650000) (Nat.le_of_ble_eq_true rfl) (Nat.le_of_ble_eq_true rfl) ?_
  exact kk H locs ls hS (lv_sub hl [0, 4] rfl)
set_option maxHeartbeats 4000000 in
set_option maxRecDepth 100000 in
theorem lc_13 {p : Program} {l : Launch} {e : Env} {s : State} {m : MethodId} {args : Array Value} {below : List Frame} {meth : Method} {c : Code} {H : Heap} {locs : List Loc} {Q : State → Prop} {dC : Nat → ClassId} {dI : Nat → Nat → Nat} {ca : Nat → ClassId} {A : Nat → Prop} {ls : Array Slot} {b : Nat} {xs : Nat → Int32} {xo mo o d0 d1 qa : Nat} {qs qm r0 r1 : Nat → Nat} {x0 x1 x2 x3 x4 x5 x6 x7 : Value} (hl9 : l.stackTraces = false) (L : lC p s m args c dC dI ca A b xs) (hP : va_P (dC, dI) classes [(xo, .inr (7, sF qs 0)), (qs 0, .inl (ca 0, 256, .inl (fun _ => 0))), (qs 4, .inl (ca 6, 160, .inr (.inr (.inr (.inr (fun _ => none)))))), (qs 7, .inl (ca 5, 2, .inr (.inr (.inr (.inr (va_up (va_up (fun _ => none) 0 (some d0)) 1 (some d1))))))), (qs 8, .inr (8, [.null, .int 0, .int 0])), (d0, .inr (17, sD r0)), (d1, .inr (17, sD r1)), (mo, .inr (0, mF qm 0)), (qm 1, .inr (1, [x0, x1, x2, x3, x4, x5, x6, x7])), (qm 2, .inr (2, [.ref qa, .int 0])), (qa, .inl (ca 0, 16, .inl (fun _ => 0))), (qm 12, .inl (ca 4, 148, .inr (.inr (.inr (.inr (fun _ => none)))))), (qm 110, .inl (ca 1, 2, .inl (fun _ => 0))), (qm 111, .inl (ca 2, 2, .inr (.inl (fun _ => 0)))), (qm 112, .inl (ca 1, 2, .inl (fun _ => 0))), (qm 113, .inl (ca 2, 2, .inr (.inl (fun _ => 0)))), (qm 114, .inl (ca 2, 2, .inr (.inl (fun _ => 0)))), (qm 117, .inl (ca 1, 2, .inl (fun _ => 0))), (qm 118, .inl (ca 1, 2, .inl (fun _ => 0))), (qm 120, .inl (ca 1, 8000, .inl (fun _ => 0))), (qm 122, .inl (ca 1, 2, .inl (fun _ => 0))), (o, .inl (ca 2, 1, .inr (.inl (fun _ => 0))))] H) (hD : va_D A [(xo, .inr (7, sF qs 0)), (qs 0, .inl (ca 0, 256, .inl (fun _ => 0))), (qs 4, .inl (ca 6, 160, .inr (.inr (.inr (.inr (fun _ => none)))))), (qs 7, .inl (ca 5, 2, .inr (.inr (.inr (.inr (va_up (va_up (fun _ => none) 0 (some d0)) 1 (some d1))))))), (qs 8, .inr (8, [.null, .int 0, .int 0])), (d0, .inr (17, sD r0)), (d1, .inr (17, sD r1)), (mo, .inr (0, mF qm 0)), (qm 1, .inr (1, [x0, x1, x2, x3, x4, x5, x6, x7])), (qm 2, .inr (2, [.ref qa, .int 0])), (qa, .inl (ca 0, 16, .inl (fun _ => 0))), (qm 12, .inl (ca 4, 148, .inr (.inr (.inr (.inr (fun _ => none)))))), (qm 110, .inl (ca 1, 2, .inl (fun _ => 0))), (qm 111, .inl (ca 2, 2, .inr (.inl (fun _ => 0)))), (qm 112, .inl (ca 1, 2, .inl (fun _ => 0))), (qm 113, .inl (ca 2, 2, .inr (.inl (fun _ => 0)))), (qm 114, .inl (ca 2, 2, .inr (.inl (fun _ => 0)))), (qm 117, .inl (ca 1, 2, .inl (fun _ => 0))), (qm 118, .inl (ca 1, 2, .inl (fun _ => 0))), (qm 120, .inl (ca 1, 8000, .inl (fun _ => 0))), (qm 122, .inl (ca 1, 2, .inl (fun _ => 0))), (o, .inl (ca 2, 1, .inr (.inl (fun _ => 0))))]) (hS : va_S A s.heap H locs) (hl : lv_has ls 8 [(4, .int 0), (3, .ref o), (2, .ref mo), (1, .ref xo), (0, .ref b)])
    (kk : lkk p l e s m args below meth c A b Q) : W p l e room_1 s m args below meth c H locs 236 644961 Q (F0 m 759 ls []) := by
  obtain ⟨hx, hb, hml, hown, hts, hKm, hE, hA, hAs, hX, hbl, hbA⟩ := L
  have hKs := hE.1.1
  refine lv_aload_n hx hb d_law_759 rfl (lv_at hl 3 rfl) ?_
  refine lv_aload_n hx hb d_law_760 rfl (lv_at hl 4 rfl) ?_
  refine lv_iload hx hb d_law_761 (lv_at hl 0 rfl) ?_
  refine lv_iconst (v := 1) hx hb d_law_763 (by decide) ?_
  refine lv_iadd hx hb d_law_764 ?_
  refine lv_topi (fun z e9 => ?_)
  obtain rfl : z = 1 := by rw [e9]; decide
  refine va_sld hx hb hX hbl hbA hS (by unfold vp_in; decide) d_law_765 ?_
  refine lv_aload_n hx hb d_law_766 rfl (lv_at hl 4 rfl) ?_
  refine lv_iload hx hb d_law_767 (lv_at hl 0 rfl) ?_
  refine lv_iconst (v := 2) hx hb d_law_769 (by decide) ?_
  refine lv_iadd hx hb d_law_770 ?_
  refine lv_topi (fun z e9 => ?_)
  obtain rfl : z = 2 := by rw [e9]; decide
  refine va_sld hx hb hX hbl hbA hS (by unfold vp_in; decide) d_law_771 ?_
  refine lv_aload_n hx hb d_law_772 rfl (lv_at hl 4 rfl) ?_
  refine lv_iload hx hb d_law_773 (lv_at hl 0 rfl) ?_
  refine lv_iconst (v := 3) hx hb d_law_775 (by decide) ?_
  refine lv_iadd hx hb d_law_776 ?_
  refine lv_topi (fun z e9 => ?_)
  obtain rfl : z = 3 := by rw [e9]; decide
  refine va_sld hx hb hX hbl hbA hS (by unfold vp_in; decide) d_law_777 ?_
  refine ax_Vb (Z := sk) (ci := 7) (q0 := 0) (k := 3) (As := [.int (xs (Int32.toNatClampNeg 1)), .int (xs (Int32.toNatClampNeg 2)), .int (xs (Int32.toNatClampNeg 3))]) (rest := []) (wr := [(mo, .inr (0, mF qm 0)), (qm 1, .inr (1, [x0, x1, x2, x3, x4, x5, x6, x7])), (qm 2, .inr (2, [.ref qa, .int 0])), (qa, .inl (ca 0, 16, .inl (fun _ => 0))), (qm 12, .inl (ca 4, 148, .inr (.inr (.inr (.inr (fun _ => none)))))), (qm 110, .inl (ca 1, 2, .inl (fun _ => 0))), (qm 111, .inl (ca 2, 2, .inr (.inl (fun _ => 0)))), (qm 112, .inl (ca 1, 2, .inl (fun _ => 0))), (qm 113, .inl (ca 2, 2, .inr (.inl (fun _ => 0)))), (qm 114, .inl (ca 2, 2, .inr (.inl (fun _ => 0)))), (qm 117, .inl (ca 1, 2, .inl (fun _ => 0))), (qm 118, .inl (ca 1, 2, .inl (fun _ => 0))), (qm 120, .inl (ca 1, 8000, .inl (fun _ => 0))), (qm 122, .inl (ca 1, 2, .inl (fun _ => 0))), (o, .inl (ca 2, 1, .inr (.inl (fun _ => 0))))]) rfl hx hb hml hown hts g_sk sk_lk (sK_bl dC dI ca) (c_SS_pair l dC dI ca xo qs 0 ((xs (Int32.toNatClampNeg 1))) ((xs (Int32.toNatClampNeg 2))) ((xs (Int32.toNatClampNeg 3)))) xl_15 xs_283 xs_0 xs_285 xs_284 (by decide +kernel) rfl (Nat.le_of_ble_eq_true rfl) (Nat.le_of_ble_eq_true rfl) hl.1 (Nat.le_of_ble_eq_true rfl) (sK_up hKs) hKs.1 hP hD hS hA rfl rfl [0] [7, 8, 9, 10, 11, 12, 13, 14, 15, 16, 17, 18, 19, 20, 21] rfl (by decide) rfl rfl (by decide) (by decide) (Nat.le_of_ble_eq_true rfl) (Nat.le_of_ble_eq_true rfl) d_law_778 (fun v u H locs hp hP hD hS => ?_)
  obtain rfl : v = some (.int (-1)) := hp
  have hP : va_P (dC, dI) classes [(mo, .inr (0, mF qm 0)), (qm 1, .inr (1, [x0, x1, x2, x3, x4, x5, x6, x7])), (qm 2, .inr (2, [.ref qa, .int 0])), (qa, .inl (ca 0, 16, .inl (fun _ => 0))), (qm 12, .inl (ca 4, 148, .inr (.inr (.inr (.inr (fun _ => none)))))), (qm 110, .inl (ca 1, 2, .inl (fun _ => 0))), (qm 111, .inl (ca 2, 2, .inr (.inl (fun _ => 0)))), (qm 112, .inl (ca 1, 2, .inl (fun _ => 0))), (qm 113, .inl (ca 2, 2, .inr (.inl (fun _ => 0)))), (qm 114, .inl (ca 2, 2, .inr (.inl (fun _ => 0)))), (qm 117, .inl (ca 1, 2, .inl (fun _ => 0))), (qm 118, .inl (ca 1, 2, .inl (fun _ => 0))), (qm 120, .inl (ca 1, 8000, .inl (fun _ => 0))), (qm 122, .inl (ca 1, 2, .inl (fun _ => 0))), (o, .inl (ca 2, 1, .inr (.inl (fun _ => 0)))), (xo, .inr (7, sF qs 0))] H := hP
  have hD : va_D A [(mo, .inr (0, mF qm 0)), (qm 1, .inr (1, [x0, x1, x2, x3, x4, x5, x6, x7])), (qm 2, .inr (2, [.ref qa, .int 0])), (qa, .inl (ca 0, 16, .inl (fun _ => 0))), (qm 12, .inl (ca 4, 148, .inr (.inr (.inr (.inr (fun _ => none)))))), (qm 110, .inl (ca 1, 2, .inl (fun _ => 0))), (qm 111, .inl (ca 2, 2, .inr (.inl (fun _ => 0)))), (qm 112, .inl (ca 1, 2, .inl (fun _ => 0))), (qm 113, .inl (ca 2, 2, .inr (.inl (fun _ => 0)))), (qm 114, .inl (ca 2, 2, .inr (.inl (fun _ => 0)))), (qm 117, .inl (ca 1, 2, .inl (fun _ => 0))), (qm 118, .inl (ca 1, 2, .inl (fun _ => 0))), (qm 120, .inl (ca 1, 8000, .inl (fun _ => 0))), (qm 122, .inl (ca 1, 2, .inl (fun _ => 0))), (o, .inl (ca 2, 1, .inr (.inl (fun _ => 0)))), (xo, .inr (7, sF qs 0))] := hD
  refine W.eq (g2 := F0 m 781 ls [.int (-1)]) rfl ?_
  refine lv_aload_n hx hb d_law_781 rfl (lv_at hl 2 rfl) ?_
  refine lv_aload_n hx hb d_law_782 rfl (lv_at hl 4 rfl) ?_
  refine lv_iload hx hb d_law_783 (lv_at hl 0 rfl) ?_
  refine lv_iconst (v := 1) hx hb d_law_785 (by decide) ?_
  refine lv_iadd hx hb d_law_786 ?_
  refine lv_topi (fun z e9 => ?_)
  obtain rfl : z = 1 := by rw [e9]; decide
  refine va_sld hx hb hX hbl hbA hS (by unfold vp_in; decide) d_law_787 ?_
  refine lv_aload_n hx hb d_law_788 rfl (lv_at hl 4 rfl) ?_
  refine lv_iload hx hb d_law_789 (lv_at hl 0 rfl) ?_
  refine lv_iconst (v := 2) hx hb d_law_791 (by decide) ?_
  refine lv_iadd hx hb d_law_792 ?_
  refine lv_topi (fun z e9 => ?_)
  obtain rfl : z = 2 := by rw [e9]; decide
  refine va_sld hx hb hX hbl hbA hS (by unfold vp_in; decide) d_law_793 ?_
  refine lv_aload_n hx hb d_law_794 rfl (lv_at hl 4 rfl) ?_
  refine lv_iload hx hb d_law_795 (lv_at hl 0 rfl) ?_
  refine lv_iconst (v := 3) hx hb d_law_797 (by decide) ?_
  refine lv_iadd hx hb d_law_798 ?_
  refine lv_topi (fun z e9 => ?_)
  obtain rfl : z = 3 := by rw [e9]; decide
  refine va_sld hx hb hX hbl hbA hS (by unfold vp_in; decide) d_law_799 ?_
  refine ax_Vb (Z := wm) (ci := 0) (q0 := 0) (k := 3) (As := [.int (xs (Int32.toNatClampNeg 1)), .int (xs (Int32.toNatClampNeg 2)), .int (xs (Int32.toNatClampNeg 3))]) (rest := [.int (-1)]) (wr := [(qm 1, .inr (1, [x0, x1, x2, x3, x4, x5, x6, x7])), (qm 2, .inr (2, [.ref qa, .int 0])), (qa, .inl (ca 0, 16, .inl (fun _ => 0))), (qm 12, .inl (ca 4, 148, .inr (.inr (.inr (.inr (fun _ => none)))))), (qm 110, .inl (ca 1, 2, .inl (fun _ => 0))), (qm 111, .inl (ca 2, 2, .inr (.inl (fun _ => 0)))), (qm 112, .inl (ca 1, 2, .inl (fun _ => 0))), (qm 113, .inl (ca 2, 2, .inr (.inl (fun _ => 0)))), (qm 114, .inl (ca 2, 2, .inr (.inl (fun _ => 0)))), (qm 117, .inl (ca 1, 2, .inl (fun _ => 0))), (qm 118, .inl (ca 1, 2, .inl (fun _ => 0))), (qm 120, .inl (ca 1, 8000, .inl (fun _ => 0))), (qm 122, .inl (ca 1, 2, .inl (fun _ => 0))), (o, .inl (ca 2, 1, .inr (.inl (fun _ => 0)))), (xo, .inr (7, sF qs 0))]) rfl hx hb hml hown hts g_wm wm_lk (mK_bl dC dI ca) (c_MM_pair l dC dI ca mo qm 0 ((xs (Int32.toNatClampNeg 1))) ((xs (Int32.toNatClampNeg 2))) ((xs (Int32.toNatClampNeg 3)))) xl_51 xm_276 xm_0 xm_278 xm_277 (by decide +kernel) rfl (Nat.le_of_ble_eq_true rfl) (Nat.le_of_ble_eq_true rfl) hl.1 (Nat.le_of_ble_eq_true rfl) (mK_up hKm) hKm.1 hP hD hS hA rfl rfl [0] [1, 2, 3, 4, 5, 6, 7, 8, 9, 10, 11, 12, 13, 14, 15] rfl (by decide) rfl rfl (by decide) (by decide) (Nat.le_of_ble_eq_true rfl) (Nat.le_of_ble_eq_true rfl) d_law_800 (fun v u H locs hp hP hD hS => ?_)
  obtain rfl : v = some (.int (-1)) := hp
  have hP : va_P (dC, dI) classes [(qm 1, .inr (1, [x0, x1, x2, x3, x4, x5, x6, x7])), (qm 2, .inr (2, [.ref qa, .int 0])), (qa, .inl (ca 0, 16, .inl (fun _ => 0))), (qm 12, .inl (ca 4, 148, .inr (.inr (.inr (.inr (fun _ => none)))))), (qm 110, .inl (ca 1, 2, .inl (fun _ => 0))), (qm 111, .inl (ca 2, 2, .inr (.inl (fun _ => 0)))), (qm 112, .inl (ca 1, 2, .inl (fun _ => 0))), (qm 113, .inl (ca 2, 2, .inr (.inl (fun _ => 0)))), (qm 114, .inl (ca 2, 2, .inr (.inl (fun _ => 0)))), (qm 117, .inl (ca 1, 2, .inl (fun _ => 0))), (qm 118, .inl (ca 1, 2, .inl (fun _ => 0))), (qm 120, .inl (ca 1, 8000, .inl (fun _ => 0))), (qm 122, .inl (ca 1, 2, .inl (fun _ => 0))), (o, .inl (ca 2, 1, .inr (.inl (fun _ => 0)))), (xo, .inr (7, sF qs 0)), (mo, .inr (0, mF qm 0))] H := hP
  have hD : va_D A [(qm 1, .inr (1, [x0, x1, x2, x3, x4, x5, x6, x7])), (qm 2, .inr (2, [.ref qa, .int 0])), (qa, .inl (ca 0, 16, .inl (fun _ => 0))), (qm 12, .inl (ca 4, 148, .inr (.inr (.inr (.inr (fun _ => none)))))), (qm 110, .inl (ca 1, 2, .inl (fun _ => 0))), (qm 111, .inl (ca 2, 2, .inr (.inl (fun _ => 0)))), (qm 112, .inl (ca 1, 2, .inl (fun _ => 0))), (qm 113, .inl (ca 2, 2, .inr (.inl (fun _ => 0)))), (qm 114, .inl (ca 2, 2, .inr (.inl (fun _ => 0)))), (qm 117, .inl (ca 1, 2, .inl (fun _ => 0))), (qm 118, .inl (ca 1, 2, .inl (fun _ => 0))), (qm 120, .inl (ca 1, 8000, .inl (fun _ => 0))), (qm 122, .inl (ca 1, 2, .inl (fun _ => 0))), (o, .inl (ca 2, 1, .inr (.inl (fun _ => 0)))), (xo, .inr (7, sF qs 0)), (mo, .inr (0, mF qm 0))] := hD
  refine W.eq (g2 := F0 m 803 ls [.int (-1), .int (-1)]) rfl ?_
  refine lv_icmp_eq (tgt := 1327) hx hb d_law_803 (by decide) (fun _ => ?_) (fun h => absurd rfl h)
  refine W.widen (k := 300) (n := 650000) (Nat.le_of_ble_eq_true rfl) (Nat.le_of_ble_eq_true rfl) ?_
  exact kk H locs ls hS (lv_sub hl [0, 4] rfl)
set_option maxHeartbeats 4000000 in
set_option maxRecDepth 100000 in
theorem lc_14 {p : Program} {l : Launch} {e : Env} {s : State} {m : MethodId} {args : Array Value} {below : List Frame} {meth : Method} {c : Code} {H : Heap} {locs : List Loc} {Q : State → Prop} {dC : Nat → ClassId} {dI : Nat → Nat → Nat} {ca : Nat → ClassId} {A : Nat → Prop} {ls : Array Slot} {b : Nat} {xs : Nat → Int32} {xo mo o d0 d1 qa : Nat} {qs qm r0 r1 : Nat → Nat} {x0 x1 x2 x3 x4 x5 x6 x7 : Value} (hl9 : l.stackTraces = false) (L : lC p s m args c dC dI ca A b xs) (hP : va_P (dC, dI) classes [(xo, .inr (7, sF qs 0)), (qs 0, .inl (ca 0, 256, .inl (fun _ => 0))), (qs 4, .inl (ca 6, 160, .inr (.inr (.inr (.inr (fun _ => none)))))), (qs 7, .inl (ca 5, 2, .inr (.inr (.inr (.inr (va_up (va_up (fun _ => none) 0 (some d0)) 1 (some d1))))))), (qs 8, .inr (8, [.null, .int 0, .int 0])), (d0, .inr (17, sD r0)), (d1, .inr (17, sD r1)), (mo, .inr (0, mF qm 0)), (qm 1, .inr (1, [x0, x1, x2, x3, x4, x5, x6, x7])), (qm 2, .inr (2, [.ref qa, .int 0])), (qa, .inl (ca 0, 16, .inl (fun _ => 0))), (qm 12, .inl (ca 4, 148, .inr (.inr (.inr (.inr (fun _ => none)))))), (qm 110, .inl (ca 1, 2, .inl (fun _ => 0))), (qm 111, .inl (ca 2, 2, .inr (.inl (fun _ => 0)))), (qm 112, .inl (ca 1, 2, .inl (fun _ => 0))), (qm 113, .inl (ca 2, 2, .inr (.inl (fun _ => 0)))), (qm 114, .inl (ca 2, 2, .inr (.inl (fun _ => 0)))), (qm 117, .inl (ca 1, 2, .inl (fun _ => 0))), (qm 118, .inl (ca 1, 2, .inl (fun _ => 0))), (qm 120, .inl (ca 1, 8000, .inl (fun _ => 0))), (qm 122, .inl (ca 1, 2, .inl (fun _ => 0))), (o, .inl (ca 2, 1, .inr (.inl (fun _ => 0))))] H) (hD : va_D A [(xo, .inr (7, sF qs 0)), (qs 0, .inl (ca 0, 256, .inl (fun _ => 0))), (qs 4, .inl (ca 6, 160, .inr (.inr (.inr (.inr (fun _ => none)))))), (qs 7, .inl (ca 5, 2, .inr (.inr (.inr (.inr (va_up (va_up (fun _ => none) 0 (some d0)) 1 (some d1))))))), (qs 8, .inr (8, [.null, .int 0, .int 0])), (d0, .inr (17, sD r0)), (d1, .inr (17, sD r1)), (mo, .inr (0, mF qm 0)), (qm 1, .inr (1, [x0, x1, x2, x3, x4, x5, x6, x7])), (qm 2, .inr (2, [.ref qa, .int 0])), (qa, .inl (ca 0, 16, .inl (fun _ => 0))), (qm 12, .inl (ca 4, 148, .inr (.inr (.inr (.inr (fun _ => none)))))), (qm 110, .inl (ca 1, 2, .inl (fun _ => 0))), (qm 111, .inl (ca 2, 2, .inr (.inl (fun _ => 0)))), (qm 112, .inl (ca 1, 2, .inl (fun _ => 0))), (qm 113, .inl (ca 2, 2, .inr (.inl (fun _ => 0)))), (qm 114, .inl (ca 2, 2, .inr (.inl (fun _ => 0)))), (qm 117, .inl (ca 1, 2, .inl (fun _ => 0))), (qm 118, .inl (ca 1, 2, .inl (fun _ => 0))), (qm 120, .inl (ca 1, 8000, .inl (fun _ => 0))), (qm 122, .inl (ca 1, 2, .inl (fun _ => 0))), (o, .inl (ca 2, 1, .inr (.inl (fun _ => 0))))]) (hS : va_S A s.heap H locs) (hl : lv_has ls 8 [(4, .int 0), (3, .ref o), (2, .ref mo), (1, .ref xo), (0, .ref b)])
    (kk : lkk p l e s m args below meth c A b Q) : W p l e room_1 s m args below meth c H locs 236 644961 Q (F0 m 808 ls []) := by
  obtain ⟨hx, hb, hml, hown, hts, hKm, hE, hA, hAs, hX, hbl, hbA⟩ := L
  have hKs := hE.1.1
  refine lv_aload_n hx hb d_law_808 rfl (lv_at hl 3 rfl) ?_
  refine lv_aload_n hx hb d_law_809 rfl (lv_at hl 4 rfl) ?_
  refine lv_iload hx hb d_law_810 (lv_at hl 0 rfl) ?_
  refine lv_iconst (v := 1) hx hb d_law_812 (by decide) ?_
  refine lv_iadd hx hb d_law_813 ?_
  refine lv_topi (fun z e9 => ?_)
  obtain rfl : z = 1 := by rw [e9]; decide
  refine va_sld hx hb hX hbl hbA hS (by unfold vp_in; decide) d_law_814 ?_
  refine lv_aload_n hx hb d_law_815 rfl (lv_at hl 4 rfl) ?_
  refine lv_iload hx hb d_law_816 (lv_at hl 0 rfl) ?_
  refine lv_iconst (v := 2) hx hb d_law_818 (by decide) ?_
  refine lv_iadd hx hb d_law_819 ?_
  refine lv_topi (fun z e9 => ?_)
  obtain rfl : z = 2 := by rw [e9]; decide
  refine va_sld hx hb hX hbl hbA hS (by unfold vp_in; decide) d_law_820 ?_
  refine lv_aload_n hx hb d_law_821 rfl (lv_at hl 4 rfl) ?_
  refine lv_iload hx hb d_law_822 (lv_at hl 0 rfl) ?_
  refine lv_iconst (v := 3) hx hb d_law_824 (by decide) ?_
  refine lv_iadd hx hb d_law_825 ?_
  refine lv_topi (fun z e9 => ?_)
  obtain rfl : z = 3 := by rw [e9]; decide
  refine va_sld hx hb hX hbl hbA hS (by unfold vp_in; decide) d_law_826 ?_
  refine ax_Vb (Z := sk) (ci := 7) (q0 := 0) (k := 3) (As := [.int (xs (Int32.toNatClampNeg 1)), .int (xs (Int32.toNatClampNeg 2)), .int (xs (Int32.toNatClampNeg 3))]) (rest := []) (wr := [(mo, .inr (0, mF qm 0)), (qm 1, .inr (1, [x0, x1, x2, x3, x4, x5, x6, x7])), (qm 2, .inr (2, [.ref qa, .int 0])), (qa, .inl (ca 0, 16, .inl (fun _ => 0))), (qm 12, .inl (ca 4, 148, .inr (.inr (.inr (.inr (fun _ => none)))))), (qm 110, .inl (ca 1, 2, .inl (fun _ => 0))), (qm 111, .inl (ca 2, 2, .inr (.inl (fun _ => 0)))), (qm 112, .inl (ca 1, 2, .inl (fun _ => 0))), (qm 113, .inl (ca 2, 2, .inr (.inl (fun _ => 0)))), (qm 114, .inl (ca 2, 2, .inr (.inl (fun _ => 0)))), (qm 117, .inl (ca 1, 2, .inl (fun _ => 0))), (qm 118, .inl (ca 1, 2, .inl (fun _ => 0))), (qm 120, .inl (ca 1, 8000, .inl (fun _ => 0))), (qm 122, .inl (ca 1, 2, .inl (fun _ => 0))), (o, .inl (ca 2, 1, .inr (.inl (fun _ => 0))))]) rfl hx hb hml hown hts g_sk sk_lk (sK_bl dC dI ca) (c_SS_alike l dC dI ca xo qs 0 ((xs (Int32.toNatClampNeg 1))) ((xs (Int32.toNatClampNeg 2))) ((xs (Int32.toNatClampNeg 3)))) xl_16 xs_286 xs_0 xs_288 xs_287 (by decide +kernel) rfl (Nat.le_of_ble_eq_true rfl) (Nat.le_of_ble_eq_true rfl) hl.1 (Nat.le_of_ble_eq_true rfl) (sK_up hKs) hKs.1 hP hD hS hA rfl rfl [0] [7, 8, 9, 10, 11, 12, 13, 14, 15, 16, 17, 18, 19, 20, 21] rfl (by decide) rfl rfl (by decide) (by decide) (Nat.le_of_ble_eq_true rfl) (Nat.le_of_ble_eq_true rfl) d_law_827 (fun v u H locs hp hP hD hS => ?_)
  obtain rfl : v = some (.int (-1)) := hp
  have hP : va_P (dC, dI) classes [(mo, .inr (0, mF qm 0)), (qm 1, .inr (1, [x0, x1, x2, x3, x4, x5, x6, x7])), (qm 2, .inr (2, [.ref qa, .int 0])), (qa, .inl (ca 0, 16, .inl (fun _ => 0))), (qm 12, .inl (ca 4, 148, .inr (.inr (.inr (.inr (fun _ => none)))))), (qm 110, .inl (ca 1, 2, .inl (fun _ => 0))), (qm 111, .inl (ca 2, 2, .inr (.inl (fun _ => 0)))), (qm 112, .inl (ca 1, 2, .inl (fun _ => 0))), (qm 113, .inl (ca 2, 2, .inr (.inl (fun _ => 0)))), (qm 114, .inl (ca 2, 2, .inr (.inl (fun _ => 0)))), (qm 117, .inl (ca 1, 2, .inl (fun _ => 0))), (qm 118, .inl (ca 1, 2, .inl (fun _ => 0))), (qm 120, .inl (ca 1, 8000, .inl (fun _ => 0))), (qm 122, .inl (ca 1, 2, .inl (fun _ => 0))), (o, .inl (ca 2, 1, .inr (.inl (fun _ => 0)))), (xo, .inr (7, sF qs 0))] H := hP
  have hD : va_D A [(mo, .inr (0, mF qm 0)), (qm 1, .inr (1, [x0, x1, x2, x3, x4, x5, x6, x7])), (qm 2, .inr (2, [.ref qa, .int 0])), (qa, .inl (ca 0, 16, .inl (fun _ => 0))), (qm 12, .inl (ca 4, 148, .inr (.inr (.inr (.inr (fun _ => none)))))), (qm 110, .inl (ca 1, 2, .inl (fun _ => 0))), (qm 111, .inl (ca 2, 2, .inr (.inl (fun _ => 0)))), (qm 112, .inl (ca 1, 2, .inl (fun _ => 0))), (qm 113, .inl (ca 2, 2, .inr (.inl (fun _ => 0)))), (qm 114, .inl (ca 2, 2, .inr (.inl (fun _ => 0)))), (qm 117, .inl (ca 1, 2, .inl (fun _ => 0))), (qm 118, .inl (ca 1, 2, .inl (fun _ => 0))), (qm 120, .inl (ca 1, 8000, .inl (fun _ => 0))), (qm 122, .inl (ca 1, 2, .inl (fun _ => 0))), (o, .inl (ca 2, 1, .inr (.inl (fun _ => 0)))), (xo, .inr (7, sF qs 0))] := hD
  refine W.eq (g2 := F0 m 830 ls [.int (-1)]) rfl ?_
  refine lv_aload_n hx hb d_law_830 rfl (lv_at hl 2 rfl) ?_
  refine lv_aload_n hx hb d_law_831 rfl (lv_at hl 4 rfl) ?_
  refine lv_iload hx hb d_law_832 (lv_at hl 0 rfl) ?_
  refine lv_iconst (v := 1) hx hb d_law_834 (by decide) ?_
  refine lv_iadd hx hb d_law_835 ?_
  refine lv_topi (fun z e9 => ?_)
  obtain rfl : z = 1 := by rw [e9]; decide
  refine va_sld hx hb hX hbl hbA hS (by unfold vp_in; decide) d_law_836 ?_
  refine lv_aload_n hx hb d_law_837 rfl (lv_at hl 4 rfl) ?_
  refine lv_iload hx hb d_law_838 (lv_at hl 0 rfl) ?_
  refine lv_iconst (v := 2) hx hb d_law_840 (by decide) ?_
  refine lv_iadd hx hb d_law_841 ?_
  refine lv_topi (fun z e9 => ?_)
  obtain rfl : z = 2 := by rw [e9]; decide
  refine va_sld hx hb hX hbl hbA hS (by unfold vp_in; decide) d_law_842 ?_
  refine lv_aload_n hx hb d_law_843 rfl (lv_at hl 4 rfl) ?_
  refine lv_iload hx hb d_law_844 (lv_at hl 0 rfl) ?_
  refine lv_iconst (v := 3) hx hb d_law_846 (by decide) ?_
  refine lv_iadd hx hb d_law_847 ?_
  refine lv_topi (fun z e9 => ?_)
  obtain rfl : z = 3 := by rw [e9]; decide
  refine va_sld hx hb hX hbl hbA hS (by unfold vp_in; decide) d_law_848 ?_
  refine ax_Vb (Z := wm) (ci := 0) (q0 := 0) (k := 3) (As := [.int (xs (Int32.toNatClampNeg 1)), .int (xs (Int32.toNatClampNeg 2)), .int (xs (Int32.toNatClampNeg 3))]) (rest := [.int (-1)]) (wr := [(qm 1, .inr (1, [x0, x1, x2, x3, x4, x5, x6, x7])), (qm 2, .inr (2, [.ref qa, .int 0])), (qa, .inl (ca 0, 16, .inl (fun _ => 0))), (qm 12, .inl (ca 4, 148, .inr (.inr (.inr (.inr (fun _ => none)))))), (qm 110, .inl (ca 1, 2, .inl (fun _ => 0))), (qm 111, .inl (ca 2, 2, .inr (.inl (fun _ => 0)))), (qm 112, .inl (ca 1, 2, .inl (fun _ => 0))), (qm 113, .inl (ca 2, 2, .inr (.inl (fun _ => 0)))), (qm 114, .inl (ca 2, 2, .inr (.inl (fun _ => 0)))), (qm 117, .inl (ca 1, 2, .inl (fun _ => 0))), (qm 118, .inl (ca 1, 2, .inl (fun _ => 0))), (qm 120, .inl (ca 1, 8000, .inl (fun _ => 0))), (qm 122, .inl (ca 1, 2, .inl (fun _ => 0))), (o, .inl (ca 2, 1, .inr (.inl (fun _ => 0)))), (xo, .inr (7, sF qs 0))]) rfl hx hb hml hown hts g_wm wm_lk (mK_bl dC dI ca) (c_MM_alike l dC dI ca mo qm 0 ((xs (Int32.toNatClampNeg 1))) ((xs (Int32.toNatClampNeg 2))) ((xs (Int32.toNatClampNeg 3)))) xl_52 xm_282 xm_0 xm_284 xm_283 (by decide +kernel) rfl (Nat.le_of_ble_eq_true rfl) (Nat.le_of_ble_eq_true rfl) hl.1 (Nat.le_of_ble_eq_true rfl) (mK_up hKm) hKm.1 hP hD hS hA rfl rfl [0] [1, 2, 3, 4, 5, 6, 7, 8, 9, 10, 11, 12, 13, 14, 15] rfl (by decide) rfl rfl (by decide) (by decide) (Nat.le_of_ble_eq_true rfl) (Nat.le_of_ble_eq_true rfl) d_law_849 (fun v u H locs hp hP hD hS => ?_)
  obtain rfl : v = some (.int (-1)) := hp
  have hP : va_P (dC, dI) classes [(qm 1, .inr (1, [x0, x1, x2, x3, x4, x5, x6, x7])), (qm 2, .inr (2, [.ref qa, .int 0])), (qa, .inl (ca 0, 16, .inl (fun _ => 0))), (qm 12, .inl (ca 4, 148, .inr (.inr (.inr (.inr (fun _ => none)))))), (qm 110, .inl (ca 1, 2, .inl (fun _ => 0))), (qm 111, .inl (ca 2, 2, .inr (.inl (fun _ => 0)))), (qm 112, .inl (ca 1, 2, .inl (fun _ => 0))), (qm 113, .inl (ca 2, 2, .inr (.inl (fun _ => 0)))), (qm 114, .inl (ca 2, 2, .inr (.inl (fun _ => 0)))), (qm 117, .inl (ca 1, 2, .inl (fun _ => 0))), (qm 118, .inl (ca 1, 2, .inl (fun _ => 0))), (qm 120, .inl (ca 1, 8000, .inl (fun _ => 0))), (qm 122, .inl (ca 1, 2, .inl (fun _ => 0))), (o, .inl (ca 2, 1, .inr (.inl (fun _ => 0)))), (xo, .inr (7, sF qs 0)), (mo, .inr (0, mF qm 0))] H := hP
  have hD : va_D A [(qm 1, .inr (1, [x0, x1, x2, x3, x4, x5, x6, x7])), (qm 2, .inr (2, [.ref qa, .int 0])), (qa, .inl (ca 0, 16, .inl (fun _ => 0))), (qm 12, .inl (ca 4, 148, .inr (.inr (.inr (.inr (fun _ => none)))))), (qm 110, .inl (ca 1, 2, .inl (fun _ => 0))), (qm 111, .inl (ca 2, 2, .inr (.inl (fun _ => 0)))), (qm 112, .inl (ca 1, 2, .inl (fun _ => 0))), (qm 113, .inl (ca 2, 2, .inr (.inl (fun _ => 0)))), (qm 114, .inl (ca 2, 2, .inr (.inl (fun _ => 0)))), (qm 117, .inl (ca 1, 2, .inl (fun _ => 0))), (qm 118, .inl (ca 1, 2, .inl (fun _ => 0))), (qm 120, .inl (ca 1, 8000, .inl (fun _ => 0))), (qm 122, .inl (ca 1, 2, .inl (fun _ => 0))), (o, .inl (ca 2, 1, .inr (.inl (fun _ => 0)))), (xo, .inr (7, sF qs 0)), (mo, .inr (0, mF qm 0))] := hD
  refine W.eq (g2 := F0 m 852 ls [.int (-1), .int (-1)]) rfl ?_
  refine lv_icmp_eq (tgt := 1327) hx hb d_law_852 (by decide) (fun _ => ?_) (fun h => absurd rfl h)
  refine W.widen (k := 300) (n := 650000) (Nat.le_of_ble_eq_true rfl) (Nat.le_of_ble_eq_true rfl) ?_
  exact kk H locs ls hS (lv_sub hl [0, 4] rfl)
set_option maxHeartbeats 4000000 in
set_option maxRecDepth 100000 in
theorem lc_15 {p : Program} {l : Launch} {e : Env} {s : State} {m : MethodId} {args : Array Value} {below : List Frame} {meth : Method} {c : Code} {H : Heap} {locs : List Loc} {Q : State → Prop} {dC : Nat → ClassId} {dI : Nat → Nat → Nat} {ca : Nat → ClassId} {A : Nat → Prop} {ls : Array Slot} {b : Nat} {xs : Nat → Int32} {xo mo o d0 d1 qa : Nat} {qs qm r0 r1 : Nat → Nat} {x0 x1 x2 x3 x4 x5 x6 x7 : Value} (hl9 : l.stackTraces = false) (L : lC p s m args c dC dI ca A b xs) (hP : va_P (dC, dI) classes [(xo, .inr (7, sF qs 0)), (qs 0, .inl (ca 0, 256, .inl (fun _ => 0))), (qs 4, .inl (ca 6, 160, .inr (.inr (.inr (.inr (fun _ => none)))))), (qs 7, .inl (ca 5, 2, .inr (.inr (.inr (.inr (va_up (va_up (fun _ => none) 0 (some d0)) 1 (some d1))))))), (qs 8, .inr (8, [.null, .int 0, .int 0])), (d0, .inr (17, sD r0)), (d1, .inr (17, sD r1)), (mo, .inr (0, mF qm 0)), (qm 1, .inr (1, [x0, x1, x2, x3, x4, x5, x6, x7])), (qm 2, .inr (2, [.ref qa, .int 0])), (qa, .inl (ca 0, 16, .inl (fun _ => 0))), (qm 12, .inl (ca 4, 148, .inr (.inr (.inr (.inr (fun _ => none)))))), (qm 110, .inl (ca 1, 2, .inl (fun _ => 0))), (qm 111, .inl (ca 2, 2, .inr (.inl (fun _ => 0)))), (qm 112, .inl (ca 1, 2, .inl (fun _ => 0))), (qm 113, .inl (ca 2, 2, .inr (.inl (fun _ => 0)))), (qm 114, .inl (ca 2, 2, .inr (.inl (fun _ => 0)))), (qm 117, .inl (ca 1, 2, .inl (fun _ => 0))), (qm 118, .inl (ca 1, 2, .inl (fun _ => 0))), (qm 120, .inl (ca 1, 8000, .inl (fun _ => 0))), (qm 122, .inl (ca 1, 2, .inl (fun _ => 0))), (o, .inl (ca 2, 1, .inr (.inl (fun _ => 0))))] H) (hD : va_D A [(xo, .inr (7, sF qs 0)), (qs 0, .inl (ca 0, 256, .inl (fun _ => 0))), (qs 4, .inl (ca 6, 160, .inr (.inr (.inr (.inr (fun _ => none)))))), (qs 7, .inl (ca 5, 2, .inr (.inr (.inr (.inr (va_up (va_up (fun _ => none) 0 (some d0)) 1 (some d1))))))), (qs 8, .inr (8, [.null, .int 0, .int 0])), (d0, .inr (17, sD r0)), (d1, .inr (17, sD r1)), (mo, .inr (0, mF qm 0)), (qm 1, .inr (1, [x0, x1, x2, x3, x4, x5, x6, x7])), (qm 2, .inr (2, [.ref qa, .int 0])), (qa, .inl (ca 0, 16, .inl (fun _ => 0))), (qm 12, .inl (ca 4, 148, .inr (.inr (.inr (.inr (fun _ => none)))))), (qm 110, .inl (ca 1, 2, .inl (fun _ => 0))), (qm 111, .inl (ca 2, 2, .inr (.inl (fun _ => 0)))), (qm 112, .inl (ca 1, 2, .inl (fun _ => 0))), (qm 113, .inl (ca 2, 2, .inr (.inl (fun _ => 0)))), (qm 114, .inl (ca 2, 2, .inr (.inl (fun _ => 0)))), (qm 117, .inl (ca 1, 2, .inl (fun _ => 0))), (qm 118, .inl (ca 1, 2, .inl (fun _ => 0))), (qm 120, .inl (ca 1, 8000, .inl (fun _ => 0))), (qm 122, .inl (ca 1, 2, .inl (fun _ => 0))), (o, .inl (ca 2, 1, .inr (.inl (fun _ => 0))))]) (hS : va_S A s.heap H locs) (hl : lv_has ls 8 [(4, .int 0), (3, .ref o), (2, .ref mo), (1, .ref xo), (0, .ref b)])
    (kk : lkk p l e s m args below meth c A b Q) : W p l e room_1 s m args below meth c H locs 236 644961 Q (F0 m 857 ls []) := by
  obtain ⟨hx, hb, hml, hown, hts, hKm, hE, hA, hAs, hX, hbl, hbA⟩ := L
  have hKs := hE.1.1
  refine lv_aload_n hx hb d_law_857 rfl (lv_at hl 3 rfl) ?_
  refine lv_aload_n hx hb d_law_858 rfl (lv_at hl 4 rfl) ?_
  refine lv_iload hx hb d_law_859 (lv_at hl 0 rfl) ?_
  refine lv_iconst (v := 1) hx hb d_law_861 (by decide) ?_
  refine lv_iadd hx hb d_law_862 ?_
  refine lv_topi (fun z e9 => ?_)
  obtain rfl : z = 1 := by rw [e9]; decide
  refine va_sld hx hb hX hbl hbA hS (by unfold vp_in; decide) d_law_863 ?_
  refine lv_aload_n hx hb d_law_864 rfl (lv_at hl 4 rfl) ?_
  refine lv_iload hx hb d_law_865 (lv_at hl 0 rfl) ?_
  refine lv_iconst (v := 2) hx hb d_law_867 (by decide) ?_
  refine lv_iadd hx hb d_law_868 ?_
  refine lv_topi (fun z e9 => ?_)
  obtain rfl : z = 2 := by rw [e9]; decide
  refine va_sld hx hb hX hbl hbA hS (by unfold vp_in; decide) d_law_869 ?_
  refine lv_aload_n hx hb d_law_870 rfl (lv_at hl 4 rfl) ?_
  refine lv_iload hx hb d_law_871 (lv_at hl 0 rfl) ?_
  refine lv_iconst (v := 3) hx hb d_law_873 (by decide) ?_
  refine lv_iadd hx hb d_law_874 ?_
  refine lv_topi (fun z e9 => ?_)
  obtain rfl : z = 3 := by rw [e9]; decide
  refine va_sld hx hb hX hbl hbA hS (by unfold vp_in; decide) d_law_875 ?_
  refine lv_aload_n hx hb d_law_876 rfl (lv_at hl 4 rfl) ?_
  refine lv_iload hx hb d_law_877 (lv_at hl 0 rfl) ?_
  refine lv_iconst (v := 4) hx hb d_law_879 (by decide) ?_
  refine lv_iadd hx hb d_law_880 ?_
  refine lv_topi (fun z e9 => ?_)
  obtain rfl : z = 4 := by rw [e9]; decide
  refine va_sld hx hb hX hbl hbA hS (by unfold vp_in; decide) d_law_881 ?_
  refine lv_i2l hx hb d_law_882 rfl ?_
  refine lv_topl (fun z1 _ => ?_)
  refine lv_bipush (v := 32) hx hb d_law_883 (by decide +kernel) ?_
  refine lv_lshl hx hb d_law_885 rfl ?_
  refine lv_topl (fun z2 _ => ?_)
  refine lv_aload_n hx hb d_law_886 rfl (lv_at hl 4 rfl) ?_
  refine lv_iload hx hb d_law_887 (lv_at hl 0 rfl) ?_
  refine lv_iconst (v := 5) hx hb d_law_889 (by decide) ?_
  refine lv_iadd hx hb d_law_890 ?_
  refine lv_topi (fun z e9 => ?_)
  obtain rfl : z = 5 := by rw [e9]; decide
  refine va_sld hx hb hX hbl hbA hS (by unfold vp_in; decide) d_law_891 ?_
  refine lv_i2l hx hb d_law_892 rfl ?_
  refine lv_topl (fun z3 _ => ?_)
  refine lv_ldc2 (v := 4294967295) hx hb hown (hts _ xl_68) d_law_893 ?_
  refine lv_land hx hb d_law_896 ?_
  refine lv_topl (fun z4 _ => ?_)
  refine lv_lor hx hb d_law_897 ?_
  refine lv_topl (fun z5 _ => ?_)
  refine lv_aload_n hx hb d_law_898 rfl (lv_at hl 4 rfl) ?_
  refine lv_iload hx hb d_law_899 (lv_at hl 0 rfl) ?_
  refine lv_bipush (v := 6) hx hb d_law_901 (by decide +kernel) ?_
  refine lv_iadd hx hb d_law_903 ?_
  refine lv_topi (fun z e9 => ?_)
  obtain rfl : z = 6 := by rw [e9]; decide
  refine va_sld hx hb hX hbl hbA hS (by unfold vp_in; decide) d_law_904 ?_
  refine lv_i2l hx hb d_law_905 rfl ?_
  refine lv_topl (fun z6 _ => ?_)
  refine lv_bipush (v := 32) hx hb d_law_906 (by decide +kernel) ?_
  refine lv_lshl hx hb d_law_908 rfl ?_
  refine lv_topl (fun z7 _ => ?_)
  refine lv_aload_n hx hb d_law_909 rfl (lv_at hl 4 rfl) ?_
  refine lv_iload hx hb d_law_910 (lv_at hl 0 rfl) ?_
  refine lv_bipush (v := 7) hx hb d_law_912 (by decide +kernel) ?_
  refine lv_iadd hx hb d_law_914 ?_
  refine lv_topi (fun z e9 => ?_)
  obtain rfl : z = 7 := by rw [e9]; decide
  refine va_sld hx hb hX hbl hbA hS (by unfold vp_in; decide) d_law_915 ?_
  refine lv_i2l hx hb d_law_916 rfl ?_
  refine lv_topl (fun z8 _ => ?_)
  refine lv_ldc2 (v := 4294967295) hx hb hown (hts _ xl_68) d_law_917 ?_
  refine lv_land hx hb d_law_920 ?_
  refine lv_topl (fun z9 _ => ?_)
  refine lv_lor hx hb d_law_921 ?_
  refine lv_topl (fun z10 _ => ?_)
  refine ax_Vb (Z := sk) (ci := 7) (q0 := 0) (k := 5) (As := [.int (xs (Int32.toNatClampNeg 1)), .int (xs (Int32.toNatClampNeg 2)), .int (xs (Int32.toNatClampNeg 3)), .long z5, .long z10]) (rest := []) (wr := [(mo, .inr (0, mF qm 0)), (qm 1, .inr (1, [x0, x1, x2, x3, x4, x5, x6, x7])), (qm 2, .inr (2, [.ref qa, .int 0])), (qa, .inl (ca 0, 16, .inl (fun _ => 0))), (qm 12, .inl (ca 4, 148, .inr (.inr (.inr (.inr (fun _ => none)))))), (qm 110, .inl (ca 1, 2, .inl (fun _ => 0))), (qm 111, .inl (ca 2, 2, .inr (.inl (fun _ => 0)))), (qm 112, .inl (ca 1, 2, .inl (fun _ => 0))), (qm 113, .inl (ca 2, 2, .inr (.inl (fun _ => 0)))), (qm 114, .inl (ca 2, 2, .inr (.inl (fun _ => 0)))), (qm 117, .inl (ca 1, 2, .inl (fun _ => 0))), (qm 118, .inl (ca 1, 2, .inl (fun _ => 0))), (qm 120, .inl (ca 1, 8000, .inl (fun _ => 0))), (qm 122, .inl (ca 1, 2, .inl (fun _ => 0))), (o, .inl (ca 2, 1, .inr (.inl (fun _ => 0))))]) rfl hx hb hml hown hts g_sk sk_lk (sK_bl dC dI ca) (c_SS_call l dC dI ca xo qs 0 ((xs (Int32.toNatClampNeg 1))) ((xs (Int32.toNatClampNeg 2))) ((xs (Int32.toNatClampNeg 3))) (z5) (z10)) xl_17 xs_289 xs_0 xs_291 xs_290 (by decide +kernel) rfl (Nat.le_of_ble_eq_true rfl) (Nat.le_of_ble_eq_true rfl) hl.1 (Nat.le_of_ble_eq_true rfl) (sK_up hKs) hKs.1 hP hD hS hA rfl rfl [0] [7, 8, 9, 10, 11, 12, 13, 14, 15, 16, 17, 18, 19, 20, 21] rfl (by decide) rfl rfl (by decide) (by decide) (Nat.le_of_ble_eq_true rfl) (Nat.le_of_ble_eq_true rfl) d_law_922 (fun v u H locs hp hP hD hS => ?_)
  obtain rfl : v = some (.int 0) := hp
  have hP : va_P (dC, dI) classes [(mo, .inr (0, mF qm 0)), (qm 1, .inr (1, [x0, x1, x2, x3, x4, x5, x6, x7])), (qm 2, .inr (2, [.ref qa, .int 0])), (qa, .inl (ca 0, 16, .inl (fun _ => 0))), (qm 12, .inl (ca 4, 148, .inr (.inr (.inr (.inr (fun _ => none)))))), (qm 110, .inl (ca 1, 2, .inl (fun _ => 0))), (qm 111, .inl (ca 2, 2, .inr (.inl (fun _ => 0)))), (qm 112, .inl (ca 1, 2, .inl (fun _ => 0))), (qm 113, .inl (ca 2, 2, .inr (.inl (fun _ => 0)))), (qm 114, .inl (ca 2, 2, .inr (.inl (fun _ => 0)))), (qm 117, .inl (ca 1, 2, .inl (fun _ => 0))), (qm 118, .inl (ca 1, 2, .inl (fun _ => 0))), (qm 120, .inl (ca 1, 8000, .inl (fun _ => 0))), (qm 122, .inl (ca 1, 2, .inl (fun _ => 0))), (o, .inl (ca 2, 1, .inr (.inl (fun _ => 0)))), (xo, .inr (7, sF qs 0))] H := hP
  have hD : va_D A [(mo, .inr (0, mF qm 0)), (qm 1, .inr (1, [x0, x1, x2, x3, x4, x5, x6, x7])), (qm 2, .inr (2, [.ref qa, .int 0])), (qa, .inl (ca 0, 16, .inl (fun _ => 0))), (qm 12, .inl (ca 4, 148, .inr (.inr (.inr (.inr (fun _ => none)))))), (qm 110, .inl (ca 1, 2, .inl (fun _ => 0))), (qm 111, .inl (ca 2, 2, .inr (.inl (fun _ => 0)))), (qm 112, .inl (ca 1, 2, .inl (fun _ => 0))), (qm 113, .inl (ca 2, 2, .inr (.inl (fun _ => 0)))), (qm 114, .inl (ca 2, 2, .inr (.inl (fun _ => 0)))), (qm 117, .inl (ca 1, 2, .inl (fun _ => 0))), (qm 118, .inl (ca 1, 2, .inl (fun _ => 0))), (qm 120, .inl (ca 1, 8000, .inl (fun _ => 0))), (qm 122, .inl (ca 1, 2, .inl (fun _ => 0))), (o, .inl (ca 2, 1, .inr (.inl (fun _ => 0)))), (xo, .inr (7, sF qs 0))] := hD
  refine W.eq (g2 := F0 m 925 ls [.int 0]) rfl ?_
  refine lv_aload_n hx hb d_law_925 rfl (lv_at hl 2 rfl) ?_
  refine lv_aload_n hx hb d_law_926 rfl (lv_at hl 4 rfl) ?_
  refine lv_iload hx hb d_law_927 (lv_at hl 0 rfl) ?_
  refine lv_iconst (v := 1) hx hb d_law_929 (by decide) ?_
  refine lv_iadd hx hb d_law_930 ?_
  refine lv_topi (fun z e9 => ?_)
  obtain rfl : z = 1 := by rw [e9]; decide
  refine va_sld hx hb hX hbl hbA hS (by unfold vp_in; decide) d_law_931 ?_
  refine lv_aload_n hx hb d_law_932 rfl (lv_at hl 4 rfl) ?_
  refine lv_iload hx hb d_law_933 (lv_at hl 0 rfl) ?_
  refine lv_iconst (v := 2) hx hb d_law_935 (by decide) ?_
  refine lv_iadd hx hb d_law_936 ?_
  refine lv_topi (fun z e9 => ?_)
  obtain rfl : z = 2 := by rw [e9]; decide
  refine va_sld hx hb hX hbl hbA hS (by unfold vp_in; decide) d_law_937 ?_
  refine lv_aload_n hx hb d_law_938 rfl (lv_at hl 4 rfl) ?_
  refine lv_iload hx hb d_law_939 (lv_at hl 0 rfl) ?_
  refine lv_iconst (v := 3) hx hb d_law_941 (by decide) ?_
  refine lv_iadd hx hb d_law_942 ?_
  refine lv_topi (fun z e9 => ?_)
  obtain rfl : z = 3 := by rw [e9]; decide
  refine va_sld hx hb hX hbl hbA hS (by unfold vp_in; decide) d_law_943 ?_
  refine lv_aload_n hx hb d_law_944 rfl (lv_at hl 4 rfl) ?_
  refine lv_iload hx hb d_law_945 (lv_at hl 0 rfl) ?_
  refine lv_iconst (v := 4) hx hb d_law_947 (by decide) ?_
  refine lv_iadd hx hb d_law_948 ?_
  refine lv_topi (fun z e9 => ?_)
  obtain rfl : z = 4 := by rw [e9]; decide
  refine va_sld hx hb hX hbl hbA hS (by unfold vp_in; decide) d_law_949 ?_
  refine lv_i2l hx hb d_law_950 rfl ?_
  refine lv_topl (fun z11 _ => ?_)
  refine lv_bipush (v := 32) hx hb d_law_951 (by decide +kernel) ?_
  refine lv_lshl hx hb d_law_953 rfl ?_
  refine lv_topl (fun z12 _ => ?_)
  refine lv_aload_n hx hb d_law_954 rfl (lv_at hl 4 rfl) ?_
  refine lv_iload hx hb d_law_955 (lv_at hl 0 rfl) ?_
  refine lv_iconst (v := 5) hx hb d_law_957 (by decide) ?_
  refine lv_iadd hx hb d_law_958 ?_
  refine lv_topi (fun z e9 => ?_)
  obtain rfl : z = 5 := by rw [e9]; decide
  refine va_sld hx hb hX hbl hbA hS (by unfold vp_in; decide) d_law_959 ?_
  refine lv_i2l hx hb d_law_960 rfl ?_
  refine lv_topl (fun z13 _ => ?_)
  refine lv_ldc2 (v := 4294967295) hx hb hown (hts _ xl_68) d_law_961 ?_
  refine lv_land hx hb d_law_964 ?_
  refine lv_topl (fun z14 _ => ?_)
  refine lv_lor hx hb d_law_965 ?_
  refine lv_topl (fun z15 _ => ?_)
  refine lv_aload_n hx hb d_law_966 rfl (lv_at hl 4 rfl) ?_
  refine lv_iload hx hb d_law_967 (lv_at hl 0 rfl) ?_
  refine lv_bipush (v := 6) hx hb d_law_969 (by decide +kernel) ?_
  refine lv_iadd hx hb d_law_971 ?_
  refine lv_topi (fun z e9 => ?_)
  obtain rfl : z = 6 := by rw [e9]; decide
  refine va_sld hx hb hX hbl hbA hS (by unfold vp_in; decide) d_law_972 ?_
  refine lv_i2l hx hb d_law_973 rfl ?_
  refine lv_topl (fun z16 _ => ?_)
  refine lv_bipush (v := 32) hx hb d_law_974 (by decide +kernel) ?_
  refine lv_lshl hx hb d_law_976 rfl ?_
  refine lv_topl (fun z17 _ => ?_)
  refine lv_aload_n hx hb d_law_977 rfl (lv_at hl 4 rfl) ?_
  refine lv_iload hx hb d_law_978 (lv_at hl 0 rfl) ?_
  refine lv_bipush (v := 7) hx hb d_law_980 (by decide +kernel) ?_
  refine lv_iadd hx hb d_law_982 ?_
  refine lv_topi (fun z e9 => ?_)
  obtain rfl : z = 7 := by rw [e9]; decide
  refine va_sld hx hb hX hbl hbA hS (by unfold vp_in; decide) d_law_983 ?_
  refine lv_i2l hx hb d_law_984 rfl ?_
  refine lv_topl (fun z18 _ => ?_)
  refine lv_ldc2 (v := 4294967295) hx hb hown (hts _ xl_68) d_law_985 ?_
  refine lv_land hx hb d_law_988 ?_
  refine lv_topl (fun z19 _ => ?_)
  refine lv_lor hx hb d_law_989 ?_
  refine lv_topl (fun z20 _ => ?_)
  refine ax_Vb (Z := wm) (ci := 0) (q0 := 0) (k := 5) (As := [.int (xs (Int32.toNatClampNeg 1)), .int (xs (Int32.toNatClampNeg 2)), .int (xs (Int32.toNatClampNeg 3)), .long z15, .long z20]) (rest := [.int 0]) (wr := [(qm 1, .inr (1, [x0, x1, x2, x3, x4, x5, x6, x7])), (qm 2, .inr (2, [.ref qa, .int 0])), (qa, .inl (ca 0, 16, .inl (fun _ => 0))), (qm 12, .inl (ca 4, 148, .inr (.inr (.inr (.inr (fun _ => none)))))), (qm 110, .inl (ca 1, 2, .inl (fun _ => 0))), (qm 111, .inl (ca 2, 2, .inr (.inl (fun _ => 0)))), (qm 112, .inl (ca 1, 2, .inl (fun _ => 0))), (qm 113, .inl (ca 2, 2, .inr (.inl (fun _ => 0)))), (qm 114, .inl (ca 2, 2, .inr (.inl (fun _ => 0)))), (qm 117, .inl (ca 1, 2, .inl (fun _ => 0))), (qm 118, .inl (ca 1, 2, .inl (fun _ => 0))), (qm 120, .inl (ca 1, 8000, .inl (fun _ => 0))), (qm 122, .inl (ca 1, 2, .inl (fun _ => 0))), (o, .inl (ca 2, 1, .inr (.inl (fun _ => 0)))), (xo, .inr (7, sF qs 0))]) rfl hx hb hml hown hts g_wm wm_lk (mK_bl dC dI ca) (c_MM_call l dC dI ca mo qm 0 ((xs (Int32.toNatClampNeg 1))) ((xs (Int32.toNatClampNeg 2))) ((xs (Int32.toNatClampNeg 3))) (z15) (z20)) xl_54 xm_289 xm_0 xm_291 xm_290 (by decide +kernel) rfl (Nat.le_of_ble_eq_true rfl) (Nat.le_of_ble_eq_true rfl) hl.1 (Nat.le_of_ble_eq_true rfl) (mK_up hKm) hKm.1 hP hD hS hA rfl rfl [0] [1, 2, 3, 4, 5, 6, 7, 8, 9, 10, 11, 12, 13, 14, 15] rfl (by decide) rfl rfl (by decide) (by decide) (Nat.le_of_ble_eq_true rfl) (Nat.le_of_ble_eq_true rfl) d_law_990 (fun v u H locs hp hP hD hS => ?_)
  obtain rfl : v = some (.int 0) := hp
  have hP : va_P (dC, dI) classes [(qm 1, .inr (1, [x0, x1, x2, x3, x4, x5, x6, x7])), (qm 2, .inr (2, [.ref qa, .int 0])), (qa, .inl (ca 0, 16, .inl (fun _ => 0))), (qm 12, .inl (ca 4, 148, .inr (.inr (.inr (.inr (fun _ => none)))))), (qm 110, .inl (ca 1, 2, .inl (fun _ => 0))), (qm 111, .inl (ca 2, 2, .inr (.inl (fun _ => 0)))), (qm 112, .inl (ca 1, 2, .inl (fun _ => 0))), (qm 113, .inl (ca 2, 2, .inr (.inl (fun _ => 0)))), (qm 114, .inl (ca 2, 2, .inr (.inl (fun _ => 0)))), (qm 117, .inl (ca 1, 2, .inl (fun _ => 0))), (qm 118, .inl (ca 1, 2, .inl (fun _ => 0))), (qm 120, .inl (ca 1, 8000, .inl (fun _ => 0))), (qm 122, .inl (ca 1, 2, .inl (fun _ => 0))), (o, .inl (ca 2, 1, .inr (.inl (fun _ => 0)))), (xo, .inr (7, sF qs 0)), (mo, .inr (0, mF qm 0))] H := hP
  have hD : va_D A [(qm 1, .inr (1, [x0, x1, x2, x3, x4, x5, x6, x7])), (qm 2, .inr (2, [.ref qa, .int 0])), (qa, .inl (ca 0, 16, .inl (fun _ => 0))), (qm 12, .inl (ca 4, 148, .inr (.inr (.inr (.inr (fun _ => none)))))), (qm 110, .inl (ca 1, 2, .inl (fun _ => 0))), (qm 111, .inl (ca 2, 2, .inr (.inl (fun _ => 0)))), (qm 112, .inl (ca 1, 2, .inl (fun _ => 0))), (qm 113, .inl (ca 2, 2, .inr (.inl (fun _ => 0)))), (qm 114, .inl (ca 2, 2, .inr (.inl (fun _ => 0)))), (qm 117, .inl (ca 1, 2, .inl (fun _ => 0))), (qm 118, .inl (ca 1, 2, .inl (fun _ => 0))), (qm 120, .inl (ca 1, 8000, .inl (fun _ => 0))), (qm 122, .inl (ca 1, 2, .inl (fun _ => 0))), (o, .inl (ca 2, 1, .inr (.inl (fun _ => 0)))), (xo, .inr (7, sF qs 0)), (mo, .inr (0, mF qm 0))] := hD
  refine W.eq (g2 := F0 m 993 ls [.int 0, .int 0]) rfl ?_
  refine lv_icmp_eq (tgt := 1327) hx hb d_law_993 (by decide) (fun _ => ?_) (fun h => absurd rfl h)
  refine W.widen (k := 300) (n := 650000) (Nat.le_of_ble_eq_true rfl) (Nat.le_of_ble_eq_true rfl) ?_
  exact kk H locs ls hS (lv_sub hl [0, 4] rfl)
set_option maxHeartbeats 4000000 in
set_option maxRecDepth 100000 in
theorem lc_16a {p : Program} {l : Launch} {e : Env} {s : State} {m : MethodId} {args : Array Value} {below : List Frame} {meth : Method} {c : Code} {H : Heap} {locs : List Loc} {Q : State → Prop} {dC : Nat → ClassId} {dI : Nat → Nat → Nat} {ca : Nat → ClassId} {A : Nat → Prop} {ls : Array Slot} {b : Nat} {xs : Nat → Int32} {xo mo o d0 d1 qa : Nat} {qs qm r0 r1 : Nat → Nat} {x0 x1 x2 x3 x4 x5 x6 x7 : Value} (hl9 : l.stackTraces = false) (L : lC p s m args c dC dI ca A b xs) (hc : ¬ ((¬ (xs (Int32.toNatClampNeg 1)) < 0 ∧ ¬ 1 < (xs (Int32.toNatClampNeg 1))) ∧ (¬ (xs (Int32.toNatClampNeg 2)) < 1 ∧ (xs (Int32.toNatClampNeg 2)) ≤ 4000))) (hP : va_P (dC, dI) classes [(xo, .inr (7, sF qs 0)), (qs 0, .inl (ca 0, 256, .inl (fun _ => 0))), (qs 4, .inl (ca 6, 160, .inr (.inr (.inr (.inr (fun _ => none)))))), (qs 7, .inl (ca 5, 2, .inr (.inr (.inr (.inr (va_up (va_up (fun _ => none) 0 (some d0)) 1 (some d1))))))), (qs 8, .inr (8, [.null, .int 0, .int 0])), (d0, .inr (17, sD r0)), (d1, .inr (17, sD r1)), (mo, .inr (0, mF qm 0)), (qm 1, .inr (1, [x0, x1, x2, x3, x4, x5, x6, x7])), (qm 2, .inr (2, [.ref qa, .int 0])), (qa, .inl (ca 0, 16, .inl (fun _ => 0))), (qm 12, .inl (ca 4, 148, .inr (.inr (.inr (.inr (fun _ => none)))))), (qm 110, .inl (ca 1, 2, .inl (fun _ => 0))), (qm 111, .inl (ca 2, 2, .inr (.inl (fun _ => 0)))), (qm 112, .inl (ca 1, 2, .inl (fun _ => 0))), (qm 113, .inl (ca 2, 2, .inr (.inl (fun _ => 0)))), (qm 114, .inl (ca 2, 2, .inr (.inl (fun _ => 0)))), (qm 117, .inl (ca 1, 2, .inl (fun _ => 0))), (qm 118, .inl (ca 1, 2, .inl (fun _ => 0))), (qm 120, .inl (ca 1, 8000, .inl (fun _ => 0))), (qm 122, .inl (ca 1, 2, .inl (fun _ => 0))), (o, .inl (ca 2, 1, .inr (.inl (fun _ => 0))))] H) (hD : va_D A [(xo, .inr (7, sF qs 0)), (qs 0, .inl (ca 0, 256, .inl (fun _ => 0))), (qs 4, .inl (ca 6, 160, .inr (.inr (.inr (.inr (fun _ => none)))))), (qs 7, .inl (ca 5, 2, .inr (.inr (.inr (.inr (va_up (va_up (fun _ => none) 0 (some d0)) 1 (some d1))))))), (qs 8, .inr (8, [.null, .int 0, .int 0])), (d0, .inr (17, sD r0)), (d1, .inr (17, sD r1)), (mo, .inr (0, mF qm 0)), (qm 1, .inr (1, [x0, x1, x2, x3, x4, x5, x6, x7])), (qm 2, .inr (2, [.ref qa, .int 0])), (qa, .inl (ca 0, 16, .inl (fun _ => 0))), (qm 12, .inl (ca 4, 148, .inr (.inr (.inr (.inr (fun _ => none)))))), (qm 110, .inl (ca 1, 2, .inl (fun _ => 0))), (qm 111, .inl (ca 2, 2, .inr (.inl (fun _ => 0)))), (qm 112, .inl (ca 1, 2, .inl (fun _ => 0))), (qm 113, .inl (ca 2, 2, .inr (.inl (fun _ => 0)))), (qm 114, .inl (ca 2, 2, .inr (.inl (fun _ => 0)))), (qm 117, .inl (ca 1, 2, .inl (fun _ => 0))), (qm 118, .inl (ca 1, 2, .inl (fun _ => 0))), (qm 120, .inl (ca 1, 8000, .inl (fun _ => 0))), (qm 122, .inl (ca 1, 2, .inl (fun _ => 0))), (o, .inl (ca 2, 1, .inr (.inl (fun _ => 0))))]) (hS : va_S A s.heap H locs) (hl : lv_has ls 8 [(4, .int 0), (3, .ref o), (2, .ref mo), (1, .ref xo), (0, .ref b)])
    (kk : lkk p l e s m args below meth c A b Q) : W p l e room_1 s m args below meth c H locs 236 644961 Q (F0 m 998 ls []) := by
  obtain ⟨hx, hb, hml, hown, hts, hKm, hE, hA, hAs, hX, hbl, hbA⟩ := L
  have hKs := hE.1.1
  refine lv_aload_n hx hb d_law_998 rfl (lv_at hl 3 rfl) ?_
  refine lv_aload_n hx hb d_law_999 rfl (lv_at hl 4 rfl) ?_
  refine lv_iload hx hb d_law_1000 (lv_at hl 0 rfl) ?_
  refine lv_iconst (v := 1) hx hb d_law_1002 (by decide) ?_
  refine lv_iadd hx hb d_law_1003 ?_
  refine lv_topi (fun z e9 => ?_)
  obtain rfl : z = 1 := by rw [e9]; decide
  refine va_sld hx hb hX hbl hbA hS (by unfold vp_in; decide) d_law_1004 ?_
  refine lv_aload_n hx hb d_law_1005 rfl (lv_at hl 4 rfl) ?_
  refine lv_iload hx hb d_law_1006 (lv_at hl 0 rfl) ?_
  refine lv_iconst (v := 2) hx hb d_law_1008 (by decide) ?_
  refine lv_iadd hx hb d_law_1009 ?_
  refine lv_topi (fun z e9 => ?_)
  obtain rfl : z = 2 := by rw [e9]; decide
  refine va_sld hx hb hX hbl hbA hS (by unfold vp_in; decide) d_law_1010 ?_
  refine lv_aload_n hx hb d_law_1011 rfl (lv_at hl 1 rfl) ?_
  refine ax_StW (Z := lk) (Zb := lk) (k := 4) (As := [.ref xo, .int (xs (Int32.toNatClampNeg 1)), .int (xs (Int32.toNatClampNeg 2)), .ref o]) (rest := []) (wr := [(mo, .inr (0, mF qm 0)), (qm 1, .inr (1, [x0, x1, x2, x3, x4, x5, x6, x7])), (qm 2, .inr (2, [.ref qa, .int 0])), (qa, .inl (ca 0, 16, .inl (fun _ => 0))), (qm 12, .inl (ca 4, 148, .inr (.inr (.inr (.inr (fun _ => none)))))), (qm 110, .inl (ca 1, 2, .inl (fun _ => 0))), (qm 111, .inl (ca 2, 2, .inr (.inl (fun _ => 0)))), (qm 112, .inl (ca 1, 2, .inl (fun _ => 0))), (qm 113, .inl (ca 2, 2, .inr (.inl (fun _ => 0)))), (qm 114, .inl (ca 2, 2, .inr (.inl (fun _ => 0)))), (qm 117, .inl (ca 1, 2, .inl (fun _ => 0))), (qm 118, .inl (ca 1, 2, .inl (fun _ => 0))), (qm 120, .inl (ca 1, 8000, .inl (fun _ => 0))), (qm 122, .inl (ca 1, 2, .inl (fun _ => 0)))]) rfl hx hb hml hown hts (ax_goodw g_lk xl_27) (lE_bl dC dI ca) (h_steps1 l hl9 dC dI ca xo qs ((xs (Int32.toNatClampNeg 1))) ((xs (Int32.toNatClampNeg 2))) hc o) (hts _ xl_25) (hts _ xl_26) (hts _ xl_0) (by decide +kernel) rfl (Nat.le_of_ble_eq_true rfl) (Nat.le_of_ble_eq_true rfl) hl.1 (Nat.le_of_ble_eq_true rfl) (lE_up hE (l_st hS hAs)) hP hD hS hA [0] [7, 8, 9, 10, 11, 12, 13, 14, 15, 16, 17, 18, 19, 20] rfl (by decide) rfl rfl (by decide) (by decide) (Nat.le_of_ble_eq_true rfl) (Nat.le_of_ble_eq_true rfl) d_law_1012 (fun v u H locs hp hP hD hS => ?_)
  obtain rfl : v = some (.int 1) := hp
  have hP : va_P (dC, dI) classes [(mo, .inr (0, mF qm 0)), (qm 1, .inr (1, [x0, x1, x2, x3, x4, x5, x6, x7])), (qm 2, .inr (2, [.ref qa, .int 0])), (qa, .inl (ca 0, 16, .inl (fun _ => 0))), (qm 12, .inl (ca 4, 148, .inr (.inr (.inr (.inr (fun _ => none)))))), (qm 110, .inl (ca 1, 2, .inl (fun _ => 0))), (qm 111, .inl (ca 2, 2, .inr (.inl (fun _ => 0)))), (qm 112, .inl (ca 1, 2, .inl (fun _ => 0))), (qm 113, .inl (ca 2, 2, .inr (.inl (fun _ => 0)))), (qm 114, .inl (ca 2, 2, .inr (.inl (fun _ => 0)))), (qm 117, .inl (ca 1, 2, .inl (fun _ => 0))), (qm 118, .inl (ca 1, 2, .inl (fun _ => 0))), (qm 120, .inl (ca 1, 8000, .inl (fun _ => 0))), (qm 122, .inl (ca 1, 2, .inl (fun _ => 0)))] H := hP
  have hD : va_D A [(mo, .inr (0, mF qm 0)), (qm 1, .inr (1, [x0, x1, x2, x3, x4, x5, x6, x7])), (qm 2, .inr (2, [.ref qa, .int 0])), (qa, .inl (ca 0, 16, .inl (fun _ => 0))), (qm 12, .inl (ca 4, 148, .inr (.inr (.inr (.inr (fun _ => none)))))), (qm 110, .inl (ca 1, 2, .inl (fun _ => 0))), (qm 111, .inl (ca 2, 2, .inr (.inl (fun _ => 0)))), (qm 112, .inl (ca 1, 2, .inl (fun _ => 0))), (qm 113, .inl (ca 2, 2, .inr (.inl (fun _ => 0)))), (qm 114, .inl (ca 2, 2, .inr (.inl (fun _ => 0)))), (qm 117, .inl (ca 1, 2, .inl (fun _ => 0))), (qm 118, .inl (ca 1, 2, .inl (fun _ => 0))), (qm 120, .inl (ca 1, 8000, .inl (fun _ => 0))), (qm 122, .inl (ca 1, 2, .inl (fun _ => 0)))] := hD
  refine W.eq (g2 := F0 m 1015 ls [.int 1]) rfl ?_
  refine lv_istore (lv' := [(5, .int 1), (4, .int 0), (3, .ref o), (2, .ref mo), (1, .ref xo), (0, .ref b)]) hx hb d_law_1015 hl (by decide) rfl (fun ls hl => ?_)
  refine lv_aload_n hx hb d_law_1017 rfl (lv_at hl 3 rfl) ?_
  refine lv_aload_n hx hb d_law_1018 rfl (lv_at hl 5 rfl) ?_
  refine lv_iload hx hb d_law_1019 (lv_at hl 1 rfl) ?_
  refine lv_iconst (v := 1) hx hb d_law_1021 (by decide) ?_
  refine lv_iadd hx hb d_law_1022 ?_
  refine lv_topi (fun z e9 => ?_)
  obtain rfl : z = 1 := by rw [e9]; decide
  refine va_sld hx hb hX hbl hbA hS (by unfold vp_in; decide) d_law_1023 ?_
  refine lv_aload_n hx hb d_law_1024 rfl (lv_at hl 5 rfl) ?_
  refine lv_iload hx hb d_law_1025 (lv_at hl 1 rfl) ?_
  refine lv_iconst (v := 2) hx hb d_law_1027 (by decide) ?_
  refine lv_iadd hx hb d_law_1028 ?_
  refine lv_topi (fun z e9 => ?_)
  obtain rfl : z = 2 := by rw [e9]; decide
  refine va_sld hx hb hX hbl hbA hS (by unfold vp_in; decide) d_law_1029 ?_
  refine ax_Vb (Z := wm) (ci := 0) (q0 := 0) (k := 2) (As := [.int (xs (Int32.toNatClampNeg 1)), .int (xs (Int32.toNatClampNeg 2))]) (rest := []) (wr := [(qm 1, .inr (1, [x0, x1, x2, x3, x4, x5, x6, x7])), (qm 2, .inr (2, [.ref qa, .int 0])), (qa, .inl (ca 0, 16, .inl (fun _ => 0))), (qm 12, .inl (ca 4, 148, .inr (.inr (.inr (.inr (fun _ => none)))))), (qm 111, .inl (ca 2, 2, .inr (.inl (fun _ => 0)))), (qm 112, .inl (ca 1, 2, .inl (fun _ => 0))), (qm 113, .inl (ca 2, 2, .inr (.inl (fun _ => 0)))), (qm 114, .inl (ca 2, 2, .inr (.inl (fun _ => 0)))), (qm 117, .inl (ca 1, 2, .inl (fun _ => 0))), (qm 118, .inl (ca 1, 2, .inl (fun _ => 0))), (qm 120, .inl (ca 1, 8000, .inl (fun _ => 0))), (qm 122, .inl (ca 1, 2, .inl (fun _ => 0)))]) rfl hx hb hml hown hts g_wm wm_lk (mK_bl dC dI ca) (c_MM_steps l dC dI ca mo qm 0 ((xs (Int32.toNatClampNeg 1))) ((xs (Int32.toNatClampNeg 2)))) xl_55 xm_293 xm_0 xm_295 xm_294 (by decide +kernel) rfl (Nat.le_of_ble_eq_true rfl) (Nat.le_of_ble_eq_true rfl) hl.1 (Nat.le_of_ble_eq_true rfl) (mK_up hKm) hKm.1 hP hD hS hA rfl rfl [0, 5] [1, 2, 3, 4, 6, 7, 8, 9, 10, 11, 12, 13] rfl (by decide) rfl rfl (by decide) (by decide) (Nat.le_of_ble_eq_true rfl) (Nat.le_of_ble_eq_true rfl) d_law_1030 (fun v u H locs hp hP hD hS => ?_)
  obtain rfl : u = 1 := hp.2.elim (fun h => absurd (cs_of h.2) hc) (fun h => h.1)
  obtain rfl : v = some (.int 0) := hp.1
  have hP : va_P (dC, dI) classes [(qm 1, .inr (1, [x0, x1, x2, x3, x4, x5, x6, x7])), (qm 2, .inr (2, [.ref qa, .int 0])), (qa, .inl (ca 0, 16, .inl (fun _ => 0))), (qm 12, .inl (ca 4, 148, .inr (.inr (.inr (.inr (fun _ => none)))))), (qm 111, .inl (ca 2, 2, .inr (.inl (fun _ => 0)))), (qm 112, .inl (ca 1, 2, .inl (fun _ => 0))), (qm 113, .inl (ca 2, 2, .inr (.inl (fun _ => 0)))), (qm 114, .inl (ca 2, 2, .inr (.inl (fun _ => 0)))), (qm 117, .inl (ca 1, 2, .inl (fun _ => 0))), (qm 118, .inl (ca 1, 2, .inl (fun _ => 0))), (qm 120, .inl (ca 1, 8000, .inl (fun _ => 0))), (qm 122, .inl (ca 1, 2, .inl (fun _ => 0))), (mo, .inr (0, mF qm 1))] H := hP
  have hD : va_D A [(qm 1, .inr (1, [x0, x1, x2, x3, x4, x5, x6, x7])), (qm 2, .inr (2, [.ref qa, .int 0])), (qa, .inl (ca 0, 16, .inl (fun _ => 0))), (qm 12, .inl (ca 4, 148, .inr (.inr (.inr (.inr (fun _ => none)))))), (qm 111, .inl (ca 2, 2, .inr (.inl (fun _ => 0)))), (qm 112, .inl (ca 1, 2, .inl (fun _ => 0))), (qm 113, .inl (ca 2, 2, .inr (.inl (fun _ => 0)))), (qm 114, .inl (ca 2, 2, .inr (.inl (fun _ => 0)))), (qm 117, .inl (ca 1, 2, .inl (fun _ => 0))), (qm 118, .inl (ca 1, 2, .inl (fun _ => 0))), (qm 120, .inl (ca 1, 8000, .inl (fun _ => 0))), (qm 122, .inl (ca 1, 2, .inl (fun _ => 0))), (mo, .inr (0, mF qm 1))] := hD
  refine W.eq (g2 := F0 m 1033 ls [.int 0]) rfl ?_
  refine lv_istore (lv' := [(6, .int 0), (5, .int 1), (4, .int 0), (3, .ref o), (2, .ref mo), (1, .ref xo), (0, .ref b)]) hx hb d_law_1033 hl (by decide) rfl (fun ls hl => ?_)
  refine lv_aload_n hx hb d_law_1035 rfl (lv_at hl 4 rfl) ?_
  refine ax_Vb (Z := wm) (ci := 0) (q0 := 0) (k := 0) (As := []) (rest := []) (wr := [(qm 1, .inr (1, [x0, x1, x2, x3, x4, x5, x6, x7])), (qm 2, .inr (2, [.ref qa, .int 0])), (qa, .inl (ca 0, 16, .inl (fun _ => 0))), (qm 12, .inl (ca 4, 148, .inr (.inr (.inr (.inr (fun _ => none)))))), (qm 111, .inl (ca 2, 2, .inr (.inl (fun _ => 0)))), (qm 112, .inl (ca 1, 2, .inl (fun _ => 0))), (qm 113, .inl (ca 2, 2, .inr (.inl (fun _ => 0)))), (qm 114, .inl (ca 2, 2, .inr (.inl (fun _ => 0)))), (qm 117, .inl (ca 1, 2, .inl (fun _ => 0))), (qm 118, .inl (ca 1, 2, .inl (fun _ => 0))), (qm 120, .inl (ca 1, 8000, .inl (fun _ => 0))), (qm 122, .inl (ca 1, 2, .inl (fun _ => 0)))]) rfl hx hb hml hown hts g_wm wm_lk (mK_bl dC dI ca) (c_MM_thrown l dC dI ca mo qm 1) xl_45 xm_175 xm_0 xm_177 xm_176 (by decide +kernel) rfl (Nat.le_of_ble_eq_true rfl) (Nat.le_of_ble_eq_true rfl) hl.1 (Nat.le_of_ble_eq_true rfl) (mK_up hKm) hKm.1 hP hD hS hA rfl rfl [12] [0, 1, 2, 3, 4, 5, 6, 7, 8, 9, 10, 11] rfl (by decide) rfl rfl (by decide) (by decide) (Nat.le_of_ble_eq_true rfl) (Nat.le_of_ble_eq_true rfl) d_law_1036 (fun v u H locs hp hP hD hS => ?_)
  obtain rfl : v = some (.int 1) := hp
  have hP : va_P (dC, dI) classes [(qm 1, .inr (1, [x0, x1, x2, x3, x4, x5, x6, x7])), (qm 2, .inr (2, [.ref qa, .int 0])), (qa, .inl (ca 0, 16, .inl (fun _ => 0))), (qm 12, .inl (ca 4, 148, .inr (.inr (.inr (.inr (fun _ => none)))))), (qm 111, .inl (ca 2, 2, .inr (.inl (fun _ => 0)))), (qm 112, .inl (ca 1, 2, .inl (fun _ => 0))), (qm 113, .inl (ca 2, 2, .inr (.inl (fun _ => 0)))), (qm 114, .inl (ca 2, 2, .inr (.inl (fun _ => 0)))), (qm 117, .inl (ca 1, 2, .inl (fun _ => 0))), (qm 118, .inl (ca 1, 2, .inl (fun _ => 0))), (qm 120, .inl (ca 1, 8000, .inl (fun _ => 0))), (qm 122, .inl (ca 1, 2, .inl (fun _ => 0))), (mo, .inr (0, mF qm 1))] H := hP
  have hD : va_D A [(qm 1, .inr (1, [x0, x1, x2, x3, x4, x5, x6, x7])), (qm 2, .inr (2, [.ref qa, .int 0])), (qa, .inl (ca 0, 16, .inl (fun _ => 0))), (qm 12, .inl (ca 4, 148, .inr (.inr (.inr (.inr (fun _ => none)))))), (qm 111, .inl (ca 2, 2, .inr (.inl (fun _ => 0)))), (qm 112, .inl (ca 1, 2, .inl (fun _ => 0))), (qm 113, .inl (ca 2, 2, .inr (.inl (fun _ => 0)))), (qm 114, .inl (ca 2, 2, .inr (.inl (fun _ => 0)))), (qm 117, .inl (ca 1, 2, .inl (fun _ => 0))), (qm 118, .inl (ca 1, 2, .inl (fun _ => 0))), (qm 120, .inl (ca 1, 8000, .inl (fun _ => 0))), (qm 122, .inl (ca 1, 2, .inl (fun _ => 0))), (mo, .inr (0, mF qm 1))] := hD
  refine W.eq (g2 := F0 m 1039 ls [.int 1]) rfl ?_
  refine lv_iload hx hb d_law_1039 (lv_at hl 1 rfl) ?_
  refine lv_icmp_eq (tgt := 1046) hx hb d_law_1041 (by decide) (fun _ => ?_) (fun h => absurd rfl h)
  refine lv_iload hx hb d_law_1046 (lv_at hl 1 rfl) ?_
  refine lv_if_ne (tgt := 1063) hx hb d_law_1048 (by decide) (fun _ => ?_) (fun h => absurd h (by decide))
  refine lv_goto (tgt := 1327) hx hb d_law_1063 (by decide) ?_
  refine W.widen (k := 300) (n := 650000) (Nat.le_of_ble_eq_true rfl) (Nat.le_of_ble_eq_true rfl) ?_
  exact kk H locs ls hS (lv_sub hl [2, 6] rfl)
set_option maxHeartbeats 4000000 in
set_option maxRecDepth 100000 in
theorem lc_16b {p : Program} {l : Launch} {e : Env} {s : State} {m : MethodId} {args : Array Value} {below : List Frame} {meth : Method} {c : Code} {H : Heap} {locs : List Loc} {Q : State → Prop} {dC : Nat → ClassId} {dI : Nat → Nat → Nat} {ca : Nat → ClassId} {A : Nat → Prop} {ls : Array Slot} {b : Nat} {xs : Nat → Int32} {xo mo o d0 d1 qa : Nat} {qs qm r0 r1 : Nat → Nat} {x0 x1 x2 x3 x4 x5 x6 x7 : Value} (hl9 : l.stackTraces = false) (L : lC p s m args c dC dI ca A b xs) (hc : (¬ (xs (Int32.toNatClampNeg 1)) < 0 ∧ ¬ 1 < (xs (Int32.toNatClampNeg 1))) ∧ (¬ (xs (Int32.toNatClampNeg 2)) < 1 ∧ (xs (Int32.toNatClampNeg 2)) ≤ 4000)) (hP : va_P (dC, dI) classes [(xo, .inr (7, sF qs 0)), (qs 0, .inl (ca 0, 256, .inl (fun _ => 0))), (qs 4, .inl (ca 6, 160, .inr (.inr (.inr (.inr (fun _ => none)))))), (qs 7, .inl (ca 5, 2, .inr (.inr (.inr (.inr (va_up (va_up (fun _ => none) 0 (some d0)) 1 (some d1))))))), (qs 8, .inr (8, [.null, .int 0, .int 0])), (d0, .inr (17, sD r0)), (d1, .inr (17, sD r1)), (mo, .inr (0, mF qm 0)), (qm 1, .inr (1, [x0, x1, x2, x3, x4, x5, x6, x7])), (qm 2, .inr (2, [.ref qa, .int 0])), (qa, .inl (ca 0, 16, .inl (fun _ => 0))), (qm 12, .inl (ca 4, 148, .inr (.inr (.inr (.inr (fun _ => none)))))), (qm 110, .inl (ca 1, 2, .inl (fun _ => 0))), (qm 111, .inl (ca 2, 2, .inr (.inl (fun _ => 0)))), (qm 112, .inl (ca 1, 2, .inl (fun _ => 0))), (qm 113, .inl (ca 2, 2, .inr (.inl (fun _ => 0)))), (qm 114, .inl (ca 2, 2, .inr (.inl (fun _ => 0)))), (qm 117, .inl (ca 1, 2, .inl (fun _ => 0))), (qm 118, .inl (ca 1, 2, .inl (fun _ => 0))), (qm 120, .inl (ca 1, 8000, .inl (fun _ => 0))), (qm 122, .inl (ca 1, 2, .inl (fun _ => 0))), (o, .inl (ca 2, 1, .inr (.inl (fun _ => 0))))] H) (hD : va_D A [(xo, .inr (7, sF qs 0)), (qs 0, .inl (ca 0, 256, .inl (fun _ => 0))), (qs 4, .inl (ca 6, 160, .inr (.inr (.inr (.inr (fun _ => none)))))), (qs 7, .inl (ca 5, 2, .inr (.inr (.inr (.inr (va_up (va_up (fun _ => none) 0 (some d0)) 1 (some d1))))))), (qs 8, .inr (8, [.null, .int 0, .int 0])), (d0, .inr (17, sD r0)), (d1, .inr (17, sD r1)), (mo, .inr (0, mF qm 0)), (qm 1, .inr (1, [x0, x1, x2, x3, x4, x5, x6, x7])), (qm 2, .inr (2, [.ref qa, .int 0])), (qa, .inl (ca 0, 16, .inl (fun _ => 0))), (qm 12, .inl (ca 4, 148, .inr (.inr (.inr (.inr (fun _ => none)))))), (qm 110, .inl (ca 1, 2, .inl (fun _ => 0))), (qm 111, .inl (ca 2, 2, .inr (.inl (fun _ => 0)))), (qm 112, .inl (ca 1, 2, .inl (fun _ => 0))), (qm 113, .inl (ca 2, 2, .inr (.inl (fun _ => 0)))), (qm 114, .inl (ca 2, 2, .inr (.inl (fun _ => 0)))), (qm 117, .inl (ca 1, 2, .inl (fun _ => 0))), (qm 118, .inl (ca 1, 2, .inl (fun _ => 0))), (qm 120, .inl (ca 1, 8000, .inl (fun _ => 0))), (qm 122, .inl (ca 1, 2, .inl (fun _ => 0))), (o, .inl (ca 2, 1, .inr (.inl (fun _ => 0))))]) (hS : va_S A s.heap H locs) (hl : lv_has ls 8 [(4, .int 0), (3, .ref o), (2, .ref mo), (1, .ref xo), (0, .ref b)])
    (kk : lkk p l e s m args below meth c A b Q) : W p l e room_1 s m args below meth c H locs 236 644961 Q (F0 m 998 ls []) := by
  obtain ⟨hx, hb, hml, hown, hts, hKm, hE, hA, hAs, hX, hbl, hbA⟩ := L
  have hKs := hE.1.1
  refine lv_aload_n hx hb d_law_998 rfl (lv_at hl 3 rfl) ?_
  refine lv_aload_n hx hb d_law_999 rfl (lv_at hl 4 rfl) ?_
  refine lv_iload hx hb d_law_1000 (lv_at hl 0 rfl) ?_
  refine lv_iconst (v := 1) hx hb d_law_1002 (by decide) ?_
  refine lv_iadd hx hb d_law_1003 ?_
  refine lv_topi (fun z e9 => ?_)
  obtain rfl : z = 1 := by rw [e9]; decide
  refine va_sld hx hb hX hbl hbA hS (by unfold vp_in; decide) d_law_1004 ?_
  refine lv_aload_n hx hb d_law_1005 rfl (lv_at hl 4 rfl) ?_
  refine lv_iload hx hb d_law_1006 (lv_at hl 0 rfl) ?_
  refine lv_iconst (v := 2) hx hb d_law_1008 (by decide) ?_
  refine lv_iadd hx hb d_law_1009 ?_
  refine lv_topi (fun z e9 => ?_)
  obtain rfl : z = 2 := by rw [e9]; decide
  refine va_sld hx hb hX hbl hbA hS (by unfold vp_in; decide) d_law_1010 ?_
  refine lv_aload_n hx hb d_law_1011 rfl (lv_at hl 1 rfl) ?_
  refine ax_StW (Z := lk) (Zb := lk) (k := 4) (As := [.ref xo, .int (xs (Int32.toNatClampNeg 1)), .int (xs (Int32.toNatClampNeg 2)), .ref o]) (rest := []) (wr := [(mo, .inr (0, mF qm 0)), (qm 1, .inr (1, [x0, x1, x2, x3, x4, x5, x6, x7])), (qm 2, .inr (2, [.ref qa, .int 0])), (qa, .inl (ca 0, 16, .inl (fun _ => 0))), (qm 12, .inl (ca 4, 148, .inr (.inr (.inr (.inr (fun _ => none)))))), (qm 110, .inl (ca 1, 2, .inl (fun _ => 0))), (qm 111, .inl (ca 2, 2, .inr (.inl (fun _ => 0)))), (qm 112, .inl (ca 1, 2, .inl (fun _ => 0))), (qm 113, .inl (ca 2, 2, .inr (.inl (fun _ => 0)))), (qm 114, .inl (ca 2, 2, .inr (.inl (fun _ => 0)))), (qm 117, .inl (ca 1, 2, .inl (fun _ => 0))), (qm 118, .inl (ca 1, 2, .inl (fun _ => 0))), (qm 120, .inl (ca 1, 8000, .inl (fun _ => 0))), (qm 122, .inl (ca 1, 2, .inl (fun _ => 0)))]) rfl hx hb hml hown hts (ax_goodw g_lk xl_27) (lE_bl dC dI ca) (h_steps2 l hl9 dC dI ca xo qs d0 d1 r0 r1 ((xs (Int32.toNatClampNeg 1))) ((xs (Int32.toNatClampNeg 2))) hc o) (hts _ xl_25) (hts _ xl_26) (hts _ xl_0) (by decide +kernel) rfl (Nat.le_of_ble_eq_true rfl) (Nat.le_of_ble_eq_true rfl) hl.1 (Nat.le_of_ble_eq_true rfl) (lE_up hE (l_st hS hAs)) hP hD hS hA [0, 3, 5, 6] [7, 8, 9, 10, 11, 12, 13, 14, 15, 16, 17, 18, 19, 20] rfl (by decide) rfl rfl (by decide) (by decide) (Nat.le_of_ble_eq_true rfl) (Nat.le_of_ble_eq_true rfl) d_law_1012 (fun v u H locs hp hP hD hS => ?_)
  obtain rfl : v = some (.int 2) := hp
  have hP : va_P (dC, dI) classes [(mo, .inr (0, mF qm 0)), (qm 1, .inr (1, [x0, x1, x2, x3, x4, x5, x6, x7])), (qm 2, .inr (2, [.ref qa, .int 0])), (qa, .inl (ca 0, 16, .inl (fun _ => 0))), (qm 12, .inl (ca 4, 148, .inr (.inr (.inr (.inr (fun _ => none)))))), (qm 110, .inl (ca 1, 2, .inl (fun _ => 0))), (qm 111, .inl (ca 2, 2, .inr (.inl (fun _ => 0)))), (qm 112, .inl (ca 1, 2, .inl (fun _ => 0))), (qm 113, .inl (ca 2, 2, .inr (.inl (fun _ => 0)))), (qm 114, .inl (ca 2, 2, .inr (.inl (fun _ => 0)))), (qm 117, .inl (ca 1, 2, .inl (fun _ => 0))), (qm 118, .inl (ca 1, 2, .inl (fun _ => 0))), (qm 120, .inl (ca 1, 8000, .inl (fun _ => 0))), (qm 122, .inl (ca 1, 2, .inl (fun _ => 0)))] H := hP
  have hD : va_D A [(mo, .inr (0, mF qm 0)), (qm 1, .inr (1, [x0, x1, x2, x3, x4, x5, x6, x7])), (qm 2, .inr (2, [.ref qa, .int 0])), (qa, .inl (ca 0, 16, .inl (fun _ => 0))), (qm 12, .inl (ca 4, 148, .inr (.inr (.inr (.inr (fun _ => none)))))), (qm 110, .inl (ca 1, 2, .inl (fun _ => 0))), (qm 111, .inl (ca 2, 2, .inr (.inl (fun _ => 0)))), (qm 112, .inl (ca 1, 2, .inl (fun _ => 0))), (qm 113, .inl (ca 2, 2, .inr (.inl (fun _ => 0)))), (qm 114, .inl (ca 2, 2, .inr (.inl (fun _ => 0)))), (qm 117, .inl (ca 1, 2, .inl (fun _ => 0))), (qm 118, .inl (ca 1, 2, .inl (fun _ => 0))), (qm 120, .inl (ca 1, 8000, .inl (fun _ => 0))), (qm 122, .inl (ca 1, 2, .inl (fun _ => 0)))] := hD
  refine W.eq (g2 := F0 m 1015 ls [.int 2]) rfl ?_
  refine lv_istore (lv' := [(5, .int 2), (4, .int 0), (3, .ref o), (2, .ref mo), (1, .ref xo), (0, .ref b)]) hx hb d_law_1015 hl (by decide) rfl (fun ls hl => ?_)
  refine lv_aload_n hx hb d_law_1017 rfl (lv_at hl 3 rfl) ?_
  refine lv_aload_n hx hb d_law_1018 rfl (lv_at hl 5 rfl) ?_
  refine lv_iload hx hb d_law_1019 (lv_at hl 1 rfl) ?_
  refine lv_iconst (v := 1) hx hb d_law_1021 (by decide) ?_
  refine lv_iadd hx hb d_law_1022 ?_
  refine lv_topi (fun z e9 => ?_)
  obtain rfl : z = 1 := by rw [e9]; decide
  refine va_sld hx hb hX hbl hbA hS (by unfold vp_in; decide) d_law_1023 ?_
  refine lv_aload_n hx hb d_law_1024 rfl (lv_at hl 5 rfl) ?_
  refine lv_iload hx hb d_law_1025 (lv_at hl 1 rfl) ?_
  refine lv_iconst (v := 2) hx hb d_law_1027 (by decide) ?_
  refine lv_iadd hx hb d_law_1028 ?_
  refine lv_topi (fun z e9 => ?_)
  obtain rfl : z = 2 := by rw [e9]; decide
  refine va_sld hx hb hX hbl hbA hS (by unfold vp_in; decide) d_law_1029 ?_
  refine ax_Vb (Z := wm) (ci := 0) (q0 := 0) (k := 2) (As := [.int (xs (Int32.toNatClampNeg 1)), .int (xs (Int32.toNatClampNeg 2))]) (rest := []) (wr := [(qm 1, .inr (1, [x0, x1, x2, x3, x4, x5, x6, x7])), (qm 2, .inr (2, [.ref qa, .int 0])), (qa, .inl (ca 0, 16, .inl (fun _ => 0))), (qm 12, .inl (ca 4, 148, .inr (.inr (.inr (.inr (fun _ => none)))))), (qm 111, .inl (ca 2, 2, .inr (.inl (fun _ => 0)))), (qm 112, .inl (ca 1, 2, .inl (fun _ => 0))), (qm 113, .inl (ca 2, 2, .inr (.inl (fun _ => 0)))), (qm 114, .inl (ca 2, 2, .inr (.inl (fun _ => 0)))), (qm 117, .inl (ca 1, 2, .inl (fun _ => 0))), (qm 118, .inl (ca 1, 2, .inl (fun _ => 0))), (qm 120, .inl (ca 1, 8000, .inl (fun _ => 0))), (qm 122, .inl (ca 1, 2, .inl (fun _ => 0)))]) rfl hx hb hml hown hts g_wm wm_lk (mK_bl dC dI ca) (c_MM_steps l dC dI ca mo qm 0 ((xs (Int32.toNatClampNeg 1))) ((xs (Int32.toNatClampNeg 2)))) xl_55 xm_293 xm_0 xm_295 xm_294 (by decide +kernel) rfl (Nat.le_of_ble_eq_true rfl) (Nat.le_of_ble_eq_true rfl) hl.1 (Nat.le_of_ble_eq_true rfl) (mK_up hKm) hKm.1 hP hD hS hA rfl rfl [0, 5] [1, 2, 3, 4, 6, 7, 8, 9, 10, 11, 12, 13] rfl (by decide) rfl rfl (by decide) (by decide) (Nat.le_of_ble_eq_true rfl) (Nat.le_of_ble_eq_true rfl) d_law_1030 (fun v u H locs hp hP hD hS => ?_)
  obtain rfl : u = 2 := hp.2.elim (fun h => h.1) (fun h => absurd (cs_to hc) h.2)
  obtain rfl : v = some (.int 0) := hp.1
  have hP : va_P (dC, dI) classes [(qm 1, .inr (1, [x0, x1, x2, x3, x4, x5, x6, x7])), (qm 2, .inr (2, [.ref qa, .int 0])), (qa, .inl (ca 0, 16, .inl (fun _ => 0))), (qm 12, .inl (ca 4, 148, .inr (.inr (.inr (.inr (fun _ => none)))))), (qm 111, .inl (ca 2, 2, .inr (.inl (fun _ => 0)))), (qm 112, .inl (ca 1, 2, .inl (fun _ => 0))), (qm 113, .inl (ca 2, 2, .inr (.inl (fun _ => 0)))), (qm 114, .inl (ca 2, 2, .inr (.inl (fun _ => 0)))), (qm 117, .inl (ca 1, 2, .inl (fun _ => 0))), (qm 118, .inl (ca 1, 2, .inl (fun _ => 0))), (qm 120, .inl (ca 1, 8000, .inl (fun _ => 0))), (qm 122, .inl (ca 1, 2, .inl (fun _ => 0))), (mo, .inr (0, mF qm 2))] H := hP
  have hD : va_D A [(qm 1, .inr (1, [x0, x1, x2, x3, x4, x5, x6, x7])), (qm 2, .inr (2, [.ref qa, .int 0])), (qa, .inl (ca 0, 16, .inl (fun _ => 0))), (qm 12, .inl (ca 4, 148, .inr (.inr (.inr (.inr (fun _ => none)))))), (qm 111, .inl (ca 2, 2, .inr (.inl (fun _ => 0)))), (qm 112, .inl (ca 1, 2, .inl (fun _ => 0))), (qm 113, .inl (ca 2, 2, .inr (.inl (fun _ => 0)))), (qm 114, .inl (ca 2, 2, .inr (.inl (fun _ => 0)))), (qm 117, .inl (ca 1, 2, .inl (fun _ => 0))), (qm 118, .inl (ca 1, 2, .inl (fun _ => 0))), (qm 120, .inl (ca 1, 8000, .inl (fun _ => 0))), (qm 122, .inl (ca 1, 2, .inl (fun _ => 0))), (mo, .inr (0, mF qm 2))] := hD
  refine W.eq (g2 := F0 m 1033 ls [.int 0]) rfl ?_
  refine lv_istore (lv' := [(6, .int 0), (5, .int 2), (4, .int 0), (3, .ref o), (2, .ref mo), (1, .ref xo), (0, .ref b)]) hx hb d_law_1033 hl (by decide) rfl (fun ls hl => ?_)
  refine lv_aload_n hx hb d_law_1035 rfl (lv_at hl 4 rfl) ?_
  refine ax_Vb (Z := wm) (ci := 0) (q0 := 0) (k := 0) (As := []) (rest := []) (wr := [(qm 1, .inr (1, [x0, x1, x2, x3, x4, x5, x6, x7])), (qm 2, .inr (2, [.ref qa, .int 0])), (qa, .inl (ca 0, 16, .inl (fun _ => 0))), (qm 12, .inl (ca 4, 148, .inr (.inr (.inr (.inr (fun _ => none)))))), (qm 111, .inl (ca 2, 2, .inr (.inl (fun _ => 0)))), (qm 112, .inl (ca 1, 2, .inl (fun _ => 0))), (qm 113, .inl (ca 2, 2, .inr (.inl (fun _ => 0)))), (qm 114, .inl (ca 2, 2, .inr (.inl (fun _ => 0)))), (qm 117, .inl (ca 1, 2, .inl (fun _ => 0))), (qm 118, .inl (ca 1, 2, .inl (fun _ => 0))), (qm 120, .inl (ca 1, 8000, .inl (fun _ => 0))), (qm 122, .inl (ca 1, 2, .inl (fun _ => 0)))]) rfl hx hb hml hown hts g_wm wm_lk (mK_bl dC dI ca) (c_MM_thrown l dC dI ca mo qm 2) xl_45 xm_175 xm_0 xm_177 xm_176 (by decide +kernel) rfl (Nat.le_of_ble_eq_true rfl) (Nat.le_of_ble_eq_true rfl) hl.1 (Nat.le_of_ble_eq_true rfl) (mK_up hKm) hKm.1 hP hD hS hA rfl rfl [12] [0, 1, 2, 3, 4, 5, 6, 7, 8, 9, 10, 11] rfl (by decide) rfl rfl (by decide) (by decide) (Nat.le_of_ble_eq_true rfl) (Nat.le_of_ble_eq_true rfl) d_law_1036 (fun v u H locs hp hP hD hS => ?_)
  obtain rfl : v = some (.int 2) := hp
  have hP : va_P (dC, dI) classes [(qm 1, .inr (1, [x0, x1, x2, x3, x4, x5, x6, x7])), (qm 2, .inr (2, [.ref qa, .int 0])), (qa, .inl (ca 0, 16, .inl (fun _ => 0))), (qm 12, .inl (ca 4, 148, .inr (.inr (.inr (.inr (fun _ => none)))))), (qm 111, .inl (ca 2, 2, .inr (.inl (fun _ => 0)))), (qm 112, .inl (ca 1, 2, .inl (fun _ => 0))), (qm 113, .inl (ca 2, 2, .inr (.inl (fun _ => 0)))), (qm 114, .inl (ca 2, 2, .inr (.inl (fun _ => 0)))), (qm 117, .inl (ca 1, 2, .inl (fun _ => 0))), (qm 118, .inl (ca 1, 2, .inl (fun _ => 0))), (qm 120, .inl (ca 1, 8000, .inl (fun _ => 0))), (qm 122, .inl (ca 1, 2, .inl (fun _ => 0))), (mo, .inr (0, mF qm 2))] H := hP
  have hD : va_D A [(qm 1, .inr (1, [x0, x1, x2, x3, x4, x5, x6, x7])), (qm 2, .inr (2, [.ref qa, .int 0])), (qa, .inl (ca 0, 16, .inl (fun _ => 0))), (qm 12, .inl (ca 4, 148, .inr (.inr (.inr (.inr (fun _ => none)))))), (qm 111, .inl (ca 2, 2, .inr (.inl (fun _ => 0)))), (qm 112, .inl (ca 1, 2, .inl (fun _ => 0))), (qm 113, .inl (ca 2, 2, .inr (.inl (fun _ => 0)))), (qm 114, .inl (ca 2, 2, .inr (.inl (fun _ => 0)))), (qm 117, .inl (ca 1, 2, .inl (fun _ => 0))), (qm 118, .inl (ca 1, 2, .inl (fun _ => 0))), (qm 120, .inl (ca 1, 8000, .inl (fun _ => 0))), (qm 122, .inl (ca 1, 2, .inl (fun _ => 0))), (mo, .inr (0, mF qm 2))] := hD
  refine W.eq (g2 := F0 m 1039 ls [.int 2]) rfl ?_
  refine lv_iload hx hb d_law_1039 (lv_at hl 1 rfl) ?_
  refine lv_icmp_eq (tgt := 1046) hx hb d_law_1041 (by decide) (fun _ => ?_) (fun h => absurd rfl h)
  refine lv_iload hx hb d_law_1046 (lv_at hl 1 rfl) ?_
  refine lv_if_ne (tgt := 1063) hx hb d_law_1048 (by decide) (fun _ => ?_) (fun h => absurd h (by decide))
  refine lv_goto (tgt := 1327) hx hb d_law_1063 (by decide) ?_
  refine W.widen (k := 300) (n := 650000) (Nat.le_of_ble_eq_true rfl) (Nat.le_of_ble_eq_true rfl) ?_
  exact kk H locs ls hS (lv_sub hl [2, 6] rfl)
set_option maxHeartbeats 4000000 in
set_option maxRecDepth 100000 in
theorem lc_17a {p : Program} {l : Launch} {e : Env} {s : State} {m : MethodId} {args : Array Value} {below : List Frame} {meth : Method} {c : Code} {H : Heap} {locs : List Loc} {Q : State → Prop} {dC : Nat → ClassId} {dI : Nat → Nat → Nat} {ca : Nat → ClassId} {A : Nat → Prop} {ls : Array Slot} {b : Nat} {xs : Nat → Int32} {xo mo o d0 d1 qa : Nat} {qs qm r0 r1 : Nat → Nat} {x0 x1 x2 x3 x4 x5 x6 x7 : Value} (hl9 : l.stackTraces = false) (L : lC p s m args c dC dI ca A b xs) (hc : ¬ ((¬ (xs (Int32.toNatClampNeg 1)) < 0 ∧ ¬ 1 < (xs (Int32.toNatClampNeg 1))) ∧ (¬ (xs (Int32.toNatClampNeg 2)) < 0 ∧ (xs (Int32.toNatClampNeg 2)) ≤ 8))) (hP : va_P (dC, dI) classes [(xo, .inr (7, sF qs 0)), (qs 0, .inl (ca 0, 256, .inl (fun _ => 0))), (qs 4, .inl (ca 6, 160, .inr (.inr (.inr (.inr (fun _ => none)))))), (qs 7, .inl (ca 5, 2, .inr (.inr (.inr (.inr (va_up (va_up (fun _ => none) 0 (some d0)) 1 (some d1))))))), (qs 8, .inr (8, [.null, .int 0, .int 0])), (d0, .inr (17, sD r0)), (d1, .inr (17, sD r1)), (mo, .inr (0, mF qm 0)), (qm 1, .inr (1, [x0, x1, x2, x3, x4, x5, x6, x7])), (qm 2, .inr (2, [.ref qa, .int 0])), (qa, .inl (ca 0, 16, .inl (fun _ => 0))), (qm 12, .inl (ca 4, 148, .inr (.inr (.inr (.inr (fun _ => none)))))), (qm 110, .inl (ca 1, 2, .inl (fun _ => 0))), (qm 111, .inl (ca 2, 2, .inr (.inl (fun _ => 0)))), (qm 112, .inl (ca 1, 2, .inl (fun _ => 0))), (qm 113, .inl (ca 2, 2, .inr (.inl (fun _ => 0)))), (qm 114, .inl (ca 2, 2, .inr (.inl (fun _ => 0)))), (qm 117, .inl (ca 1, 2, .inl (fun _ => 0))), (qm 118, .inl (ca 1, 2, .inl (fun _ => 0))), (qm 120, .inl (ca 1, 8000, .inl (fun _ => 0))), (qm 122, .inl (ca 1, 2, .inl (fun _ => 0))), (o, .inl (ca 2, 1, .inr (.inl (fun _ => 0))))] H) (hD : va_D A [(xo, .inr (7, sF qs 0)), (qs 0, .inl (ca 0, 256, .inl (fun _ => 0))), (qs 4, .inl (ca 6, 160, .inr (.inr (.inr (.inr (fun _ => none)))))), (qs 7, .inl (ca 5, 2, .inr (.inr (.inr (.inr (va_up (va_up (fun _ => none) 0 (some d0)) 1 (some d1))))))), (qs 8, .inr (8, [.null, .int 0, .int 0])), (d0, .inr (17, sD r0)), (d1, .inr (17, sD r1)), (mo, .inr (0, mF qm 0)), (qm 1, .inr (1, [x0, x1, x2, x3, x4, x5, x6, x7])), (qm 2, .inr (2, [.ref qa, .int 0])), (qa, .inl (ca 0, 16, .inl (fun _ => 0))), (qm 12, .inl (ca 4, 148, .inr (.inr (.inr (.inr (fun _ => none)))))), (qm 110, .inl (ca 1, 2, .inl (fun _ => 0))), (qm 111, .inl (ca 2, 2, .inr (.inl (fun _ => 0)))), (qm 112, .inl (ca 1, 2, .inl (fun _ => 0))), (qm 113, .inl (ca 2, 2, .inr (.inl (fun _ => 0)))), (qm 114, .inl (ca 2, 2, .inr (.inl (fun _ => 0)))), (qm 117, .inl (ca 1, 2, .inl (fun _ => 0))), (qm 118, .inl (ca 1, 2, .inl (fun _ => 0))), (qm 120, .inl (ca 1, 8000, .inl (fun _ => 0))), (qm 122, .inl (ca 1, 2, .inl (fun _ => 0))), (o, .inl (ca 2, 1, .inr (.inl (fun _ => 0))))]) (hS : va_S A s.heap H locs) (hl : lv_has ls 8 [(4, .int 0), (3, .ref o), (2, .ref mo), (1, .ref xo), (0, .ref b)])
    (kk : lkk p l e s m args below meth c A b Q) : W p l e room_1 s m args below meth c H locs 236 644961 Q (F0 m 1066 ls []) := by
  obtain ⟨hx, hb, hml, hown, hts, hKm, hE, hA, hAs, hX, hbl, hbA⟩ := L
  have hKs := hE.1.1
  refine lv_aload_n hx hb d_law_1066 rfl (lv_at hl 3 rfl) ?_
  refine lv_aload_n hx hb d_law_1067 rfl (lv_at hl 4 rfl) ?_
  refine lv_iload hx hb d_law_1068 (lv_at hl 0 rfl) ?_
  refine lv_iconst (v := 1) hx hb d_law_1070 (by decide) ?_
  refine lv_iadd hx hb d_law_1071 ?_
  refine lv_topi (fun z e9 => ?_)
  obtain rfl : z = 1 := by rw [e9]; decide
  refine va_sld hx hb hX hbl hbA hS (by unfold vp_in; decide) d_law_1072 ?_
  refine lv_aload_n hx hb d_law_1073 rfl (lv_at hl 4 rfl) ?_
  refine lv_iload hx hb d_law_1074 (lv_at hl 0 rfl) ?_
  refine lv_iconst (v := 2) hx hb d_law_1076 (by decide) ?_
  refine lv_iadd hx hb d_law_1077 ?_
  refine lv_topi (fun z e9 => ?_)
  obtain rfl : z = 2 := by rw [e9]; decide
  refine va_sld hx hb hX hbl hbA hS (by unfold vp_in; decide) d_law_1078 ?_
  refine lv_aload_n hx hb d_law_1079 rfl (lv_at hl 1 rfl) ?_
  refine ax_StW (Z := lk) (Zb := lk) (k := 4) (As := [.ref xo, .int (xs (Int32.toNatClampNeg 1)), .int (xs (Int32.toNatClampNeg 2)), .ref o]) (rest := []) (wr := [(mo, .inr (0, mF qm 0)), (qm 1, .inr (1, [x0, x1, x2, x3, x4, x5, x6, x7])), (qm 2, .inr (2, [.ref qa, .int 0])), (qa, .inl (ca 0, 16, .inl (fun _ => 0))), (qm 12, .inl (ca 4, 148, .inr (.inr (.inr (.inr (fun _ => none)))))), (qm 110, .inl (ca 1, 2, .inl (fun _ => 0))), (qm 111, .inl (ca 2, 2, .inr (.inl (fun _ => 0)))), (qm 112, .inl (ca 1, 2, .inl (fun _ => 0))), (qm 113, .inl (ca 2, 2, .inr (.inl (fun _ => 0)))), (qm 114, .inl (ca 2, 2, .inr (.inl (fun _ => 0)))), (qm 117, .inl (ca 1, 2, .inl (fun _ => 0))), (qm 118, .inl (ca 1, 2, .inl (fun _ => 0))), (qm 120, .inl (ca 1, 8000, .inl (fun _ => 0))), (qm 122, .inl (ca 1, 2, .inl (fun _ => 0)))]) rfl hx hb hml hown hts (ax_goodw g_lk xl_33) (lE_bl dC dI ca) (h_stateT l hl9 dC dI ca xo qs ((xs (Int32.toNatClampNeg 1))) ((xs (Int32.toNatClampNeg 2))) hc o) (hts _ xl_31) (hts _ xl_32) (hts _ xl_0) (by decide +kernel) rfl (Nat.le_of_ble_eq_true rfl) (Nat.le_of_ble_eq_true rfl) hl.1 (Nat.le_of_ble_eq_true rfl) (lE_up hE (l_st hS hAs)) hP hD hS hA [0] [7, 8, 9, 10, 11, 12, 13, 14, 15, 16, 17, 18, 19, 20] rfl (by decide) rfl rfl (by decide) (by decide) (Nat.le_of_ble_eq_true rfl) (Nat.le_of_ble_eq_true rfl) d_law_1080 (fun v u H locs hp hP hD hS => ?_)
  obtain rfl : v = some (.int 1) := hp
  have hP : va_P (dC, dI) classes [(mo, .inr (0, mF qm 0)), (qm 1, .inr (1, [x0, x1, x2, x3, x4, x5, x6, x7])), (qm 2, .inr (2, [.ref qa, .int 0])), (qa, .inl (ca 0, 16, .inl (fun _ => 0))), (qm 12, .inl (ca 4, 148, .inr (.inr (.inr (.inr (fun _ => none)))))), (qm 110, .inl (ca 1, 2, .inl (fun _ => 0))), (qm 111, .inl (ca 2, 2, .inr (.inl (fun _ => 0)))), (qm 112, .inl (ca 1, 2, .inl (fun _ => 0))), (qm 113, .inl (ca 2, 2, .inr (.inl (fun _ => 0)))), (qm 114, .inl (ca 2, 2, .inr (.inl (fun _ => 0)))), (qm 117, .inl (ca 1, 2, .inl (fun _ => 0))), (qm 118, .inl (ca 1, 2, .inl (fun _ => 0))), (qm 120, .inl (ca 1, 8000, .inl (fun _ => 0))), (qm 122, .inl (ca 1, 2, .inl (fun _ => 0)))] H := hP
  have hD : va_D A [(mo, .inr (0, mF qm 0)), (qm 1, .inr (1, [x0, x1, x2, x3, x4, x5, x6, x7])), (qm 2, .inr (2, [.ref qa, .int 0])), (qa, .inl (ca 0, 16, .inl (fun _ => 0))), (qm 12, .inl (ca 4, 148, .inr (.inr (.inr (.inr (fun _ => none)))))), (qm 110, .inl (ca 1, 2, .inl (fun _ => 0))), (qm 111, .inl (ca 2, 2, .inr (.inl (fun _ => 0)))), (qm 112, .inl (ca 1, 2, .inl (fun _ => 0))), (qm 113, .inl (ca 2, 2, .inr (.inl (fun _ => 0)))), (qm 114, .inl (ca 2, 2, .inr (.inl (fun _ => 0)))), (qm 117, .inl (ca 1, 2, .inl (fun _ => 0))), (qm 118, .inl (ca 1, 2, .inl (fun _ => 0))), (qm 120, .inl (ca 1, 8000, .inl (fun _ => 0))), (qm 122, .inl (ca 1, 2, .inl (fun _ => 0)))] := hD
  refine W.eq (g2 := F0 m 1083 ls [.int 1]) rfl ?_
  refine lv_istore (lv' := [(5, .int 1), (4, .int 0), (3, .ref o), (2, .ref mo), (1, .ref xo), (0, .ref b)]) hx hb d_law_1083 hl (by decide) rfl (fun ls hl => ?_)
  refine lv_aload_n hx hb d_law_1085 rfl (lv_at hl 3 rfl) ?_
  refine lv_aload_n hx hb d_law_1086 rfl (lv_at hl 5 rfl) ?_
  refine lv_iload hx hb d_law_1087 (lv_at hl 1 rfl) ?_
  refine lv_iconst (v := 1) hx hb d_law_1089 (by decide) ?_
  refine lv_iadd hx hb d_law_1090 ?_
  refine lv_topi (fun z e9 => ?_)
  obtain rfl : z = 1 := by rw [e9]; decide
  refine va_sld hx hb hX hbl hbA hS (by unfold vp_in; decide) d_law_1091 ?_
  refine lv_aload_n hx hb d_law_1092 rfl (lv_at hl 5 rfl) ?_
  refine lv_iload hx hb d_law_1093 (lv_at hl 1 rfl) ?_
  refine lv_iconst (v := 2) hx hb d_law_1095 (by decide) ?_
  refine lv_iadd hx hb d_law_1096 ?_
  refine lv_topi (fun z e9 => ?_)
  obtain rfl : z = 2 := by rw [e9]; decide
  refine va_sld hx hb hX hbl hbA hS (by unfold vp_in; decide) d_law_1097 ?_
  refine ax_Vb (Z := wm) (ci := 0) (q0 := 0) (k := 2) (As := [.int (xs (Int32.toNatClampNeg 1)), .int (xs (Int32.toNatClampNeg 2))]) (rest := []) (wr := [(qm 1, .inr (1, [x0, x1, x2, x3, x4, x5, x6, x7])), (qm 2, .inr (2, [.ref qa, .int 0])), (qa, .inl (ca 0, 16, .inl (fun _ => 0))), (qm 12, .inl (ca 4, 148, .inr (.inr (.inr (.inr (fun _ => none)))))), (qm 117, .inl (ca 1, 2, .inl (fun _ => 0))), (qm 118, .inl (ca 1, 2, .inl (fun _ => 0))), (qm 120, .inl (ca 1, 8000, .inl (fun _ => 0)))]) rfl hx hb hml hown hts g_wm wm_lk (mK_bl dC dI ca) (c_MM_stateT l dC dI ca mo qm 0 ((xs (Int32.toNatClampNeg 1))) ((xs (Int32.toNatClampNeg 2))) (fun h => hc (ct_of h))) xl_64 xm_320 xm_0 xm_322 xm_321 (by decide +kernel) rfl (Nat.le_of_ble_eq_true rfl) (Nat.le_of_ble_eq_true rfl) hl.1 (Nat.le_of_ble_eq_true rfl) (mK_up hKm) hKm.1 hP hD hS hA rfl rfl [0, 5, 6, 7, 8, 9, 13] [1, 2, 3, 4, 10, 11, 12] rfl (by decide) rfl rfl (by decide) (by decide) (Nat.le_of_ble_eq_true rfl) (Nat.le_of_ble_eq_true rfl) d_law_1098 (fun v u H locs hp hP hD hS => ?_)
  obtain ⟨rfl, rfl⟩ : u = 1 ∧ v = some (.long 0) := hp
  have hP : va_P (dC, dI) classes [(qm 1, .inr (1, [x0, x1, x2, x3, x4, x5, x6, x7])), (qm 2, .inr (2, [.ref qa, .int 0])), (qa, .inl (ca 0, 16, .inl (fun _ => 0))), (qm 12, .inl (ca 4, 148, .inr (.inr (.inr (.inr (fun _ => none)))))), (qm 117, .inl (ca 1, 2, .inl (fun _ => 0))), (qm 118, .inl (ca 1, 2, .inl (fun _ => 0))), (qm 120, .inl (ca 1, 8000, .inl (fun _ => 0))), (mo, .inr (0, mF qm 1))] H := hP
  have hD : va_D A [(qm 1, .inr (1, [x0, x1, x2, x3, x4, x5, x6, x7])), (qm 2, .inr (2, [.ref qa, .int 0])), (qa, .inl (ca 0, 16, .inl (fun _ => 0))), (qm 12, .inl (ca 4, 148, .inr (.inr (.inr (.inr (fun _ => none)))))), (qm 117, .inl (ca 1, 2, .inl (fun _ => 0))), (qm 118, .inl (ca 1, 2, .inl (fun _ => 0))), (qm 120, .inl (ca 1, 8000, .inl (fun _ => 0))), (mo, .inr (0, mF qm 1))] := hD
  refine W.eq (g2 := F0 m 1101 ls [.long 0]) rfl ?_
  refine lv_lstore (lv' := [(6, .long 0), (5, .int 1), (4, .int 0), (3, .ref o), (2, .ref mo), (1, .ref xo), (0, .ref b)]) hx hb d_law_1101 hl (by decide) rfl (fun ls hl => ?_)
  refine lv_aload_n hx hb d_law_1103 rfl (lv_at hl 4 rfl) ?_
  refine ax_Vb (Z := wm) (ci := 0) (q0 := 0) (k := 0) (As := []) (rest := []) (wr := [(qm 1, .inr (1, [x0, x1, x2, x3, x4, x5, x6, x7])), (qm 2, .inr (2, [.ref qa, .int 0])), (qa, .inl (ca 0, 16, .inl (fun _ => 0))), (qm 12, .inl (ca 4, 148, .inr (.inr (.inr (.inr (fun _ => none)))))), (qm 117, .inl (ca 1, 2, .inl (fun _ => 0))), (qm 118, .inl (ca 1, 2, .inl (fun _ => 0))), (qm 120, .inl (ca 1, 8000, .inl (fun _ => 0)))]) rfl hx hb hml hown hts g_wm wm_lk (mK_bl dC dI ca) (c_MM_thrown l dC dI ca mo qm 1) xl_45 xm_175 xm_0 xm_177 xm_176 (by decide +kernel) rfl (Nat.le_of_ble_eq_true rfl) (Nat.le_of_ble_eq_true rfl) hl.1 (Nat.le_of_ble_eq_true rfl) (mK_up hKm) hKm.1 hP hD hS hA rfl rfl [7] [0, 1, 2, 3, 4, 5, 6] rfl (by decide) rfl rfl (by decide) (by decide) (Nat.le_of_ble_eq_true rfl) (Nat.le_of_ble_eq_true rfl) d_law_1104 (fun v u H locs hp hP hD hS => ?_)
  obtain rfl : v = some (.int 1) := hp
  have hP : va_P (dC, dI) classes [(qm 1, .inr (1, [x0, x1, x2, x3, x4, x5, x6, x7])), (qm 2, .inr (2, [.ref qa, .int 0])), (qa, .inl (ca 0, 16, .inl (fun _ => 0))), (qm 12, .inl (ca 4, 148, .inr (.inr (.inr (.inr (fun _ => none)))))), (qm 117, .inl (ca 1, 2, .inl (fun _ => 0))), (qm 118, .inl (ca 1, 2, .inl (fun _ => 0))), (qm 120, .inl (ca 1, 8000, .inl (fun _ => 0))), (mo, .inr (0, mF qm 1))] H := hP
  have hD : va_D A [(qm 1, .inr (1, [x0, x1, x2, x3, x4, x5, x6, x7])), (qm 2, .inr (2, [.ref qa, .int 0])), (qa, .inl (ca 0, 16, .inl (fun _ => 0))), (qm 12, .inl (ca 4, 148, .inr (.inr (.inr (.inr (fun _ => none)))))), (qm 117, .inl (ca 1, 2, .inl (fun _ => 0))), (qm 118, .inl (ca 1, 2, .inl (fun _ => 0))), (qm 120, .inl (ca 1, 8000, .inl (fun _ => 0))), (mo, .inr (0, mF qm 1))] := hD
  refine W.eq (g2 := F0 m 1107 ls [.int 1]) rfl ?_
  refine lv_iload hx hb d_law_1107 (lv_at hl 1 rfl) ?_
  refine lv_icmp_eq (tgt := 1114) hx hb d_law_1109 (by decide) (fun _ => ?_) (fun h => absurd rfl h)
  refine lv_iload hx hb d_law_1114 (lv_at hl 1 rfl) ?_
  refine lv_if_ne (tgt := 1130) hx hb d_law_1116 (by decide) (fun _ => ?_) (fun h => absurd h (by decide))
  refine lv_goto (tgt := 1327) hx hb d_law_1130 (by decide) ?_
  refine W.widen (k := 300) (n := 650000) (Nat.le_of_ble_eq_true rfl) (Nat.le_of_ble_eq_true rfl) ?_
  exact kk H locs ls hS (lv_sub hl [2, 6] rfl)
set_option maxHeartbeats 4000000 in
set_option maxRecDepth 100000 in
theorem lc_17b {p : Program} {l : Launch} {e : Env} {s : State} {m : MethodId} {args : Array Value} {below : List Frame} {meth : Method} {c : Code} {H : Heap} {locs : List Loc} {Q : State → Prop} {dC : Nat → ClassId} {dI : Nat → Nat → Nat} {ca : Nat → ClassId} {A : Nat → Prop} {ls : Array Slot} {b : Nat} {xs : Nat → Int32} {xo mo o d0 d1 qa : Nat} {qs qm r0 r1 : Nat → Nat} {x0 x1 x2 x3 x4 x5 x6 x7 : Value} (hl9 : l.stackTraces = false) (L : lC p s m args c dC dI ca A b xs) (hc : (¬ (xs (Int32.toNatClampNeg 1)) < 0 ∧ ¬ 1 < (xs (Int32.toNatClampNeg 1))) ∧ (¬ (xs (Int32.toNatClampNeg 2)) < 0 ∧ (xs (Int32.toNatClampNeg 2)) ≤ 8)) (hP : va_P (dC, dI) classes [(xo, .inr (7, sF qs 0)), (qs 0, .inl (ca 0, 256, .inl (fun _ => 0))), (qs 4, .inl (ca 6, 160, .inr (.inr (.inr (.inr (fun _ => none)))))), (qs 7, .inl (ca 5, 2, .inr (.inr (.inr (.inr (va_up (va_up (fun _ => none) 0 (some d0)) 1 (some d1))))))), (qs 8, .inr (8, [.null, .int 0, .int 0])), (d0, .inr (17, sD r0)), (d1, .inr (17, sD r1)), (mo, .inr (0, mF qm 0)), (qm 1, .inr (1, [x0, x1, x2, x3, x4, x5, x6, x7])), (qm 2, .inr (2, [.ref qa, .int 0])), (qa, .inl (ca 0, 16, .inl (fun _ => 0))), (qm 12, .inl (ca 4, 148, .inr (.inr (.inr (.inr (fun _ => none)))))), (qm 110, .inl (ca 1, 2, .inl (fun _ => 0))), (qm 111, .inl (ca 2, 2, .inr (.inl (fun _ => 0)))), (qm 112, .inl (ca 1, 2, .inl (fun _ => 0))), (qm 113, .inl (ca 2, 2, .inr (.inl (fun _ => 0)))), (qm 114, .inl (ca 2, 2, .inr (.inl (fun _ => 0)))), (qm 117, .inl (ca 1, 2, .inl (fun _ => 0))), (qm 118, .inl (ca 1, 2, .inl (fun _ => 0))), (qm 120, .inl (ca 1, 8000, .inl (fun _ => 0))), (qm 122, .inl (ca 1, 2, .inl (fun _ => 0))), (o, .inl (ca 2, 1, .inr (.inl (fun _ => 0))))] H) (hD : va_D A [(xo, .inr (7, sF qs 0)), (qs 0, .inl (ca 0, 256, .inl (fun _ => 0))), (qs 4, .inl (ca 6, 160, .inr (.inr (.inr (.inr (fun _ => none)))))), (qs 7, .inl (ca 5, 2, .inr (.inr (.inr (.inr (va_up (va_up (fun _ => none) 0 (some d0)) 1 (some d1))))))), (qs 8, .inr (8, [.null, .int 0, .int 0])), (d0, .inr (17, sD r0)), (d1, .inr (17, sD r1)), (mo, .inr (0, mF qm 0)), (qm 1, .inr (1, [x0, x1, x2, x3, x4, x5, x6, x7])), (qm 2, .inr (2, [.ref qa, .int 0])), (qa, .inl (ca 0, 16, .inl (fun _ => 0))), (qm 12, .inl (ca 4, 148, .inr (.inr (.inr (.inr (fun _ => none)))))), (qm 110, .inl (ca 1, 2, .inl (fun _ => 0))), (qm 111, .inl (ca 2, 2, .inr (.inl (fun _ => 0)))), (qm 112, .inl (ca 1, 2, .inl (fun _ => 0))), (qm 113, .inl (ca 2, 2, .inr (.inl (fun _ => 0)))), (qm 114, .inl (ca 2, 2, .inr (.inl (fun _ => 0)))), (qm 117, .inl (ca 1, 2, .inl (fun _ => 0))), (qm 118, .inl (ca 1, 2, .inl (fun _ => 0))), (qm 120, .inl (ca 1, 8000, .inl (fun _ => 0))), (qm 122, .inl (ca 1, 2, .inl (fun _ => 0))), (o, .inl (ca 2, 1, .inr (.inl (fun _ => 0))))]) (hS : va_S A s.heap H locs) (hl : lv_has ls 8 [(4, .int 0), (3, .ref o), (2, .ref mo), (1, .ref xo), (0, .ref b)])
    (kk : lkk p l e s m args below meth c A b Q) : W p l e room_1 s m args below meth c H locs 236 644961 Q (F0 m 1066 ls []) := by
  obtain ⟨hx, hb, hml, hown, hts, hKm, hE, hA, hAs, hX, hbl, hbA⟩ := L
  have hKs := hE.1.1
  refine lv_aload_n hx hb d_law_1066 rfl (lv_at hl 3 rfl) ?_
  refine lv_aload_n hx hb d_law_1067 rfl (lv_at hl 4 rfl) ?_
  refine lv_iload hx hb d_law_1068 (lv_at hl 0 rfl) ?_
  refine lv_iconst (v := 1) hx hb d_law_1070 (by decide) ?_
  refine lv_iadd hx hb d_law_1071 ?_
  refine lv_topi (fun z e9 => ?_)
  obtain rfl : z = 1 := by rw [e9]; decide
  refine va_sld hx hb hX hbl hbA hS (by unfold vp_in; decide) d_law_1072 ?_
  refine lv_aload_n hx hb d_law_1073 rfl (lv_at hl 4 rfl) ?_
  refine lv_iload hx hb d_law_1074 (lv_at hl 0 rfl) ?_
  refine lv_iconst (v := 2) hx hb d_law_1076 (by decide) ?_
  refine lv_iadd hx hb d_law_1077 ?_
  refine lv_topi (fun z e9 => ?_)
  obtain rfl : z = 2 := by rw [e9]; decide
  refine va_sld hx hb hX hbl hbA hS (by unfold vp_in; decide) d_law_1078 ?_
  refine lv_aload_n hx hb d_law_1079 rfl (lv_at hl 1 rfl) ?_
  refine ax_StW (Z := lk) (Zb := lk) (k := 4) (As := [.ref xo, .int (xs (Int32.toNatClampNeg 1)), .int (xs (Int32.toNatClampNeg 2)), .ref o]) (rest := []) (wr := [(mo, .inr (0, mF qm 0)), (qm 1, .inr (1, [x0, x1, x2, x3, x4, x5, x6, x7])), (qm 2, .inr (2, [.ref qa, .int 0])), (qa, .inl (ca 0, 16, .inl (fun _ => 0))), (qm 12, .inl (ca 4, 148, .inr (.inr (.inr (.inr (fun _ => none)))))), (qm 110, .inl (ca 1, 2, .inl (fun _ => 0))), (qm 111, .inl (ca 2, 2, .inr (.inl (fun _ => 0)))), (qm 112, .inl (ca 1, 2, .inl (fun _ => 0))), (qm 113, .inl (ca 2, 2, .inr (.inl (fun _ => 0)))), (qm 114, .inl (ca 2, 2, .inr (.inl (fun _ => 0)))), (qm 117, .inl (ca 1, 2, .inl (fun _ => 0))), (qm 118, .inl (ca 1, 2, .inl (fun _ => 0))), (qm 120, .inl (ca 1, 8000, .inl (fun _ => 0))), (qm 122, .inl (ca 1, 2, .inl (fun _ => 0)))]) rfl hx hb hml hown hts (ax_goodw g_lk xl_33) (lE_bl dC dI ca) (h_state l dC dI ca xo qs d0 d1 r0 r1 ((xs (Int32.toNatClampNeg 1))) ((xs (Int32.toNatClampNeg 2))) hc o) (hts _ xl_31) (hts _ xl_32) (hts _ xl_0) (by decide +kernel) rfl (Nat.le_of_ble_eq_true rfl) (Nat.le_of_ble_eq_true rfl) hl.1 (Nat.le_of_ble_eq_true rfl) (lE_up hE (l_st hS hAs)) hP hD hS hA [0, 3, 5, 6, 21] [7, 8, 9, 10, 11, 12, 13, 14, 15, 16, 17, 18, 19, 20] rfl (by decide) rfl rfl (by decide) (by decide) (Nat.le_of_ble_eq_true rfl) (Nat.le_of_ble_eq_true rfl) d_law_1080 (fun v u H locs hp hP hD hS => ?_)
  obtain rfl : v = some (.int 0) := hp
  have hP : va_P (dC, dI) classes [(mo, .inr (0, mF qm 0)), (qm 1, .inr (1, [x0, x1, x2, x3, x4, x5, x6, x7])), (qm 2, .inr (2, [.ref qa, .int 0])), (qa, .inl (ca 0, 16, .inl (fun _ => 0))), (qm 12, .inl (ca 4, 148, .inr (.inr (.inr (.inr (fun _ => none)))))), (qm 110, .inl (ca 1, 2, .inl (fun _ => 0))), (qm 111, .inl (ca 2, 2, .inr (.inl (fun _ => 0)))), (qm 112, .inl (ca 1, 2, .inl (fun _ => 0))), (qm 113, .inl (ca 2, 2, .inr (.inl (fun _ => 0)))), (qm 114, .inl (ca 2, 2, .inr (.inl (fun _ => 0)))), (qm 117, .inl (ca 1, 2, .inl (fun _ => 0))), (qm 118, .inl (ca 1, 2, .inl (fun _ => 0))), (qm 120, .inl (ca 1, 8000, .inl (fun _ => 0))), (qm 122, .inl (ca 1, 2, .inl (fun _ => 0))), (o, .inl (ca 2, 1, .inr (.inl (vp_updL (fun _ => 0) (Int32.toNatClampNeg 0) (tdV ((xs (Int32.toNatClampNeg 2))))))))] H := hP
  have hD : va_D A [(mo, .inr (0, mF qm 0)), (qm 1, .inr (1, [x0, x1, x2, x3, x4, x5, x6, x7])), (qm 2, .inr (2, [.ref qa, .int 0])), (qa, .inl (ca 0, 16, .inl (fun _ => 0))), (qm 12, .inl (ca 4, 148, .inr (.inr (.inr (.inr (fun _ => none)))))), (qm 110, .inl (ca 1, 2, .inl (fun _ => 0))), (qm 111, .inl (ca 2, 2, .inr (.inl (fun _ => 0)))), (qm 112, .inl (ca 1, 2, .inl (fun _ => 0))), (qm 113, .inl (ca 2, 2, .inr (.inl (fun _ => 0)))), (qm 114, .inl (ca 2, 2, .inr (.inl (fun _ => 0)))), (qm 117, .inl (ca 1, 2, .inl (fun _ => 0))), (qm 118, .inl (ca 1, 2, .inl (fun _ => 0))), (qm 120, .inl (ca 1, 8000, .inl (fun _ => 0))), (qm 122, .inl (ca 1, 2, .inl (fun _ => 0))), (o, .inl (ca 2, 1, .inr (.inl (vp_updL (fun _ => 0) (Int32.toNatClampNeg 0) (tdV ((xs (Int32.toNatClampNeg 2))))))))] := hD
  refine W.eq (g2 := F0 m 1083 ls [.int 0]) rfl ?_
  refine lv_istore (lv' := [(5, .int 0), (4, .int 0), (3, .ref o), (2, .ref mo), (1, .ref xo), (0, .ref b)]) hx hb d_law_1083 hl (by decide) rfl (fun ls hl => ?_)
  refine lv_aload_n hx hb d_law_1085 rfl (lv_at hl 3 rfl) ?_
  refine lv_aload_n hx hb d_law_1086 rfl (lv_at hl 5 rfl) ?_
  refine lv_iload hx hb d_law_1087 (lv_at hl 1 rfl) ?_
  refine lv_iconst (v := 1) hx hb d_law_1089 (by decide) ?_
  refine lv_iadd hx hb d_law_1090 ?_
  refine lv_topi (fun z e9 => ?_)
  obtain rfl : z = 1 := by rw [e9]; decide
  refine va_sld hx hb hX hbl hbA hS (by unfold vp_in; decide) d_law_1091 ?_
  refine lv_aload_n hx hb d_law_1092 rfl (lv_at hl 5 rfl) ?_
  refine lv_iload hx hb d_law_1093 (lv_at hl 1 rfl) ?_
  refine lv_iconst (v := 2) hx hb d_law_1095 (by decide) ?_
  refine lv_iadd hx hb d_law_1096 ?_
  refine lv_topi (fun z e9 => ?_)
  obtain rfl : z = 2 := by rw [e9]; decide
  refine va_sld hx hb hX hbl hbA hS (by unfold vp_in; decide) d_law_1097 ?_
  refine ax_Vb (Z := wm) (ci := 0) (q0 := 0) (k := 2) (As := [.int (xs (Int32.toNatClampNeg 1)), .int (xs (Int32.toNatClampNeg 2))]) (rest := []) (wr := [(qm 1, .inr (1, [x0, x1, x2, x3, x4, x5, x6, x7])), (qm 2, .inr (2, [.ref qa, .int 0])), (qa, .inl (ca 0, 16, .inl (fun _ => 0))), (qm 12, .inl (ca 4, 148, .inr (.inr (.inr (.inr (fun _ => none)))))), (qm 117, .inl (ca 1, 2, .inl (fun _ => 0))), (qm 118, .inl (ca 1, 2, .inl (fun _ => 0))), (qm 120, .inl (ca 1, 8000, .inl (fun _ => 0))), (o, .inl (ca 2, 1, .inr (.inl (vp_updL (fun _ => 0) (Int32.toNatClampNeg 0) (tdV ((xs (Int32.toNatClampNeg 2))))))))]) rfl hx hb hml hown hts g_wm wm_lk (mK_bl dC dI ca) (c_MM_state l dC dI ca mo qm 0 ((xs (Int32.toNatClampNeg 1))) ((xs (Int32.toNatClampNeg 2)))) xl_64 xm_320 xm_0 xm_322 xm_321 (by decide +kernel) rfl (Nat.le_of_ble_eq_true rfl) (Nat.le_of_ble_eq_true rfl) hl.1 (Nat.le_of_ble_eq_true rfl) (mK_up hKm) hKm.1 hP hD hS hA rfl rfl [0, 5, 6, 7, 8, 9, 13] [1, 2, 3, 4, 10, 11, 12, 14] rfl (by decide) rfl rfl (by decide) (by decide) (Nat.le_of_ble_eq_true rfl) (Nat.le_of_ble_eq_true rfl) d_law_1098 (fun v u H locs hp hP hD hS => ?_)
  obtain ⟨rfl, hv⟩ : u = 0 ∧ v = some (.long (stV ((xs (Int32.toNatClampNeg 2))))) := hp.elim (fun h => ⟨h.1, h.2.2⟩) (fun h => absurd (ct_to hc) h.2)
  obtain rfl : v = some (.long (tdV ((xs (Int32.toNatClampNeg 2))))) := by rw [hv, td_st hc]
  have hP : va_P (dC, dI) classes [(qm 1, .inr (1, [x0, x1, x2, x3, x4, x5, x6, x7])), (qm 2, .inr (2, [.ref qa, .int 0])), (qa, .inl (ca 0, 16, .inl (fun _ => 0))), (qm 12, .inl (ca 4, 148, .inr (.inr (.inr (.inr (fun _ => none)))))), (qm 117, .inl (ca 1, 2, .inl (fun _ => 0))), (qm 118, .inl (ca 1, 2, .inl (fun _ => 0))), (qm 120, .inl (ca 1, 8000, .inl (fun _ => 0))), (o, .inl (ca 2, 1, .inr (.inl (vp_updL (fun _ => 0) (Int32.toNatClampNeg 0) (tdV ((xs (Int32.toNatClampNeg 2)))))))), (mo, .inr (0, mF qm 0))] H := hP
  have hD : va_D A [(qm 1, .inr (1, [x0, x1, x2, x3, x4, x5, x6, x7])), (qm 2, .inr (2, [.ref qa, .int 0])), (qa, .inl (ca 0, 16, .inl (fun _ => 0))), (qm 12, .inl (ca 4, 148, .inr (.inr (.inr (.inr (fun _ => none)))))), (qm 117, .inl (ca 1, 2, .inl (fun _ => 0))), (qm 118, .inl (ca 1, 2, .inl (fun _ => 0))), (qm 120, .inl (ca 1, 8000, .inl (fun _ => 0))), (o, .inl (ca 2, 1, .inr (.inl (vp_updL (fun _ => 0) (Int32.toNatClampNeg 0) (tdV ((xs (Int32.toNatClampNeg 2)))))))), (mo, .inr (0, mF qm 0))] := hD
  refine W.eq (g2 := F0 m 1101 ls [.long (tdV ((xs (Int32.toNatClampNeg 2))))]) rfl ?_
  refine lv_lstore (lv' := [(6, .long (tdV ((xs (Int32.toNatClampNeg 2))))), (5, .int 0), (4, .int 0), (3, .ref o), (2, .ref mo), (1, .ref xo), (0, .ref b)]) hx hb d_law_1101 hl (by decide) rfl (fun ls hl => ?_)
  refine lv_aload_n hx hb d_law_1103 rfl (lv_at hl 4 rfl) ?_
  refine ax_Vb (Z := wm) (ci := 0) (q0 := 0) (k := 0) (As := []) (rest := []) (wr := [(qm 1, .inr (1, [x0, x1, x2, x3, x4, x5, x6, x7])), (qm 2, .inr (2, [.ref qa, .int 0])), (qa, .inl (ca 0, 16, .inl (fun _ => 0))), (qm 12, .inl (ca 4, 148, .inr (.inr (.inr (.inr (fun _ => none)))))), (qm 117, .inl (ca 1, 2, .inl (fun _ => 0))), (qm 118, .inl (ca 1, 2, .inl (fun _ => 0))), (qm 120, .inl (ca 1, 8000, .inl (fun _ => 0))), (o, .inl (ca 2, 1, .inr (.inl (vp_updL (fun _ => 0) (Int32.toNatClampNeg 0) (tdV ((xs (Int32.toNatClampNeg 2))))))))]) rfl hx hb hml hown hts g_wm wm_lk (mK_bl dC dI ca) (c_MM_thrown l dC dI ca mo qm 0) xl_45 xm_175 xm_0 xm_177 xm_176 (by decide +kernel) rfl (Nat.le_of_ble_eq_true rfl) (Nat.le_of_ble_eq_true rfl) hl.1 (Nat.le_of_ble_eq_true rfl) (mK_up hKm) hKm.1 hP hD hS hA rfl rfl [8] [0, 1, 2, 3, 4, 5, 6, 7] rfl (by decide) rfl rfl (by decide) (by decide) (Nat.le_of_ble_eq_true rfl) (Nat.le_of_ble_eq_true rfl) d_law_1104 (fun v u H locs hp hP hD hS => ?_)
  obtain rfl : v = some (.int 0) := hp
  have hP : va_P (dC, dI) classes [(qm 1, .inr (1, [x0, x1, x2, x3, x4, x5, x6, x7])), (qm 2, .inr (2, [.ref qa, .int 0])), (qa, .inl (ca 0, 16, .inl (fun _ => 0))), (qm 12, .inl (ca 4, 148, .inr (.inr (.inr (.inr (fun _ => none)))))), (qm 117, .inl (ca 1, 2, .inl (fun _ => 0))), (qm 118, .inl (ca 1, 2, .inl (fun _ => 0))), (qm 120, .inl (ca 1, 8000, .inl (fun _ => 0))), (o, .inl (ca 2, 1, .inr (.inl (vp_updL (fun _ => 0) (Int32.toNatClampNeg 0) (tdV ((xs (Int32.toNatClampNeg 2)))))))), (mo, .inr (0, mF qm 0))] H := hP
  have hD : va_D A [(qm 1, .inr (1, [x0, x1, x2, x3, x4, x5, x6, x7])), (qm 2, .inr (2, [.ref qa, .int 0])), (qa, .inl (ca 0, 16, .inl (fun _ => 0))), (qm 12, .inl (ca 4, 148, .inr (.inr (.inr (.inr (fun _ => none)))))), (qm 117, .inl (ca 1, 2, .inl (fun _ => 0))), (qm 118, .inl (ca 1, 2, .inl (fun _ => 0))), (qm 120, .inl (ca 1, 8000, .inl (fun _ => 0))), (o, .inl (ca 2, 1, .inr (.inl (vp_updL (fun _ => 0) (Int32.toNatClampNeg 0) (tdV ((xs (Int32.toNatClampNeg 2)))))))), (mo, .inr (0, mF qm 0))] := hD
  refine W.eq (g2 := F0 m 1107 ls [.int 0]) rfl ?_
  refine lv_iload hx hb d_law_1107 (lv_at hl 1 rfl) ?_
  refine lv_icmp_eq (tgt := 1114) hx hb d_law_1109 (by decide) (fun _ => ?_) (fun h => absurd rfl h)
  refine lv_iload hx hb d_law_1114 (lv_at hl 1 rfl) ?_
  refine lv_if_ne (tgt := 1130) hx hb d_law_1116 (by decide) (fun h => absurd rfl h) (fun _ => ?_)
  refine lv_aload_n hx hb d_law_1119 rfl (lv_at hl 3 rfl) ?_
  refine lv_iconst (v := 0) hx hb d_law_1120 (by decide) ?_
  refine va_lald hx hb hKm.1 hP 7 2 rfl rfl (by unfold vp_in; decide) d_law_1121 ?_
  refine W.eq (g2 := F0 m 1122 ls [.long (tdV ((xs (Int32.toNatClampNeg 2))))]) rfl ?_
  refine lv_lload hx hb d_law_1122 (lv_at hl 0 rfl) ?_
  refine W.lcmp hx hb d_law_1124 ?_
  refine lv_if_eq (tgt := 1130) hx hb d_law_1125 (by decide) (fun _ => ?_) (fun h => absurd (lg_cmp_self _) h)
  refine lv_goto (tgt := 1327) hx hb d_law_1130 (by decide) ?_
  refine W.widen (k := 300) (n := 650000) (Nat.le_of_ble_eq_true rfl) (Nat.le_of_ble_eq_true rfl) ?_
  exact kk H locs ls hS (lv_sub hl [2, 6] rfl)
set_option maxHeartbeats 4000000 in
set_option maxRecDepth 100000 in
theorem lc_18 {p : Program} {l : Launch} {e : Env} {s : State} {m : MethodId} {args : Array Value} {below : List Frame} {meth : Method} {c : Code} {H : Heap} {locs : List Loc} {Q : State → Prop} {dC : Nat → ClassId} {dI : Nat → Nat → Nat} {ca : Nat → ClassId} {A : Nat → Prop} {ls : Array Slot} {b : Nat} {xs : Nat → Int32} {xo mo o d0 d1 qa : Nat} {qs qm r0 r1 : Nat → Nat} {x0 x1 x2 x3 x4 x5 x6 x7 : Value} (hl9 : l.stackTraces = false) (L : lC p s m args c dC dI ca A b xs) (hP : va_P (dC, dI) classes [(xo, .inr (7, sF qs 0)), (qs 0, .inl (ca 0, 256, .inl (fun _ => 0))), (qs 4, .inl (ca 6, 160, .inr (.inr (.inr (.inr (fun _ => none)))))), (qs 7, .inl (ca 5, 2, .inr (.inr (.inr (.inr (va_up (va_up (fun _ => none) 0 (some d0)) 1 (some d1))))))), (qs 8, .inr (8, [.null, .int 0, .int 0])), (d0, .inr (17, sD r0)), (d1, .inr (17, sD r1)), (mo, .inr (0, mF qm 0)), (qm 1, .inr (1, [x0, x1, x2, x3, x4, x5, x6, x7])), (qm 2, .inr (2, [.ref qa, .int 0])), (qa, .inl (ca 0, 16, .inl (fun _ => 0))), (qm 12, .inl (ca 4, 148, .inr (.inr (.inr (.inr (fun _ => none)))))), (qm 110, .inl (ca 1, 2, .inl (fun _ => 0))), (qm 111, .inl (ca 2, 2, .inr (.inl (fun _ => 0)))), (qm 112, .inl (ca 1, 2, .inl (fun _ => 0))), (qm 113, .inl (ca 2, 2, .inr (.inl (fun _ => 0)))), (qm 114, .inl (ca 2, 2, .inr (.inl (fun _ => 0)))), (qm 117, .inl (ca 1, 2, .inl (fun _ => 0))), (qm 118, .inl (ca 1, 2, .inl (fun _ => 0))), (qm 120, .inl (ca 1, 8000, .inl (fun _ => 0))), (qm 122, .inl (ca 1, 2, .inl (fun _ => 0))), (o, .inl (ca 2, 1, .inr (.inl (fun _ => 0))))] H) (hD : va_D A [(xo, .inr (7, sF qs 0)), (qs 0, .inl (ca 0, 256, .inl (fun _ => 0))), (qs 4, .inl (ca 6, 160, .inr (.inr (.inr (.inr (fun _ => none)))))), (qs 7, .inl (ca 5, 2, .inr (.inr (.inr (.inr (va_up (va_up (fun _ => none) 0 (some d0)) 1 (some d1))))))), (qs 8, .inr (8, [.null, .int 0, .int 0])), (d0, .inr (17, sD r0)), (d1, .inr (17, sD r1)), (mo, .inr (0, mF qm 0)), (qm 1, .inr (1, [x0, x1, x2, x3, x4, x5, x6, x7])), (qm 2, .inr (2, [.ref qa, .int 0])), (qa, .inl (ca 0, 16, .inl (fun _ => 0))), (qm 12, .inl (ca 4, 148, .inr (.inr (.inr (.inr (fun _ => none)))))), (qm 110, .inl (ca 1, 2, .inl (fun _ => 0))), (qm 111, .inl (ca 2, 2, .inr (.inl (fun _ => 0)))), (qm 112, .inl (ca 1, 2, .inl (fun _ => 0))), (qm 113, .inl (ca 2, 2, .inr (.inl (fun _ => 0)))), (qm 114, .inl (ca 2, 2, .inr (.inl (fun _ => 0)))), (qm 117, .inl (ca 1, 2, .inl (fun _ => 0))), (qm 118, .inl (ca 1, 2, .inl (fun _ => 0))), (qm 120, .inl (ca 1, 8000, .inl (fun _ => 0))), (qm 122, .inl (ca 1, 2, .inl (fun _ => 0))), (o, .inl (ca 2, 1, .inr (.inl (fun _ => 0))))]) (hS : va_S A s.heap H locs) (hl : lv_has ls 8 [(4, .int 0), (3, .ref o), (2, .ref mo), (1, .ref xo), (0, .ref b)])
    (kk : lkk p l e s m args below meth c A b Q) : W p l e room_1 s m args below meth c H locs 236 644961 Q (F0 m 1133 ls []) := by
  obtain ⟨hx, hb, hml, hown, hts, hKm, hE, hA, hAs, hX, hbl, hbA⟩ := L
  have hKs := hE.1.1
  refine lv_aload_n hx hb d_law_1133 rfl (lv_at hl 3 rfl) ?_
  refine lv_aload_n hx hb d_law_1134 rfl (lv_at hl 4 rfl) ?_
  refine lv_iload hx hb d_law_1135 (lv_at hl 0 rfl) ?_
  refine lv_iconst (v := 1) hx hb d_law_1137 (by decide) ?_
  refine lv_iadd hx hb d_law_1138 ?_
  refine lv_topi (fun z e9 => ?_)
  obtain rfl : z = 1 := by rw [e9]; decide
  refine va_sld hx hb hX hbl hbA hS (by unfold vp_in; decide) d_law_1139 ?_
  refine lv_aload_n hx hb d_law_1140 rfl (lv_at hl 4 rfl) ?_
  refine lv_iload hx hb d_law_1141 (lv_at hl 0 rfl) ?_
  refine lv_iconst (v := 2) hx hb d_law_1143 (by decide) ?_
  refine lv_iadd hx hb d_law_1144 ?_
  refine lv_topi (fun z e9 => ?_)
  obtain rfl : z = 2 := by rw [e9]; decide
  refine va_sld hx hb hX hbl hbA hS (by unfold vp_in; decide) d_law_1145 ?_
  refine lv_aload_n hx hb d_law_1146 rfl (lv_at hl 4 rfl) ?_
  refine lv_iload hx hb d_law_1147 (lv_at hl 0 rfl) ?_
  refine lv_iconst (v := 3) hx hb d_law_1149 (by decide) ?_
  refine lv_iadd hx hb d_law_1150 ?_
  refine lv_topi (fun z e9 => ?_)
  obtain rfl : z = 3 := by rw [e9]; decide
  refine va_sld hx hb hX hbl hbA hS (by unfold vp_in; decide) d_law_1151 ?_
  refine lv_aload_n hx hb d_law_1152 rfl (lv_at hl 1 rfl) ?_
  refine ax_StW (Z := lk) (Zb := lk) (k := 5) (As := [.ref xo, .int (xs (Int32.toNatClampNeg 1)), .int (xs (Int32.toNatClampNeg 2)), .int (xs (Int32.toNatClampNeg 3)), .ref o]) (rest := []) (wr := [(mo, .inr (0, mF qm 0)), (qm 1, .inr (1, [x0, x1, x2, x3, x4, x5, x6, x7])), (qm 2, .inr (2, [.ref qa, .int 0])), (qa, .inl (ca 0, 16, .inl (fun _ => 0))), (qm 12, .inl (ca 4, 148, .inr (.inr (.inr (.inr (fun _ => none)))))), (qm 110, .inl (ca 1, 2, .inl (fun _ => 0))), (qm 111, .inl (ca 2, 2, .inr (.inl (fun _ => 0)))), (qm 112, .inl (ca 1, 2, .inl (fun _ => 0))), (qm 113, .inl (ca 2, 2, .inr (.inl (fun _ => 0)))), (qm 114, .inl (ca 2, 2, .inr (.inl (fun _ => 0)))), (qm 117, .inl (ca 1, 2, .inl (fun _ => 0))), (qm 118, .inl (ca 1, 2, .inl (fun _ => 0))), (qm 120, .inl (ca 1, 8000, .inl (fun _ => 0))), (qm 122, .inl (ca 1, 2, .inl (fun _ => 0)))]) rfl hx hb hml hown hts (ax_goodw g_lk xl_37) (lE_bl dC dI ca) (h_field l hl9 dC dI ca xo qs ((xs (Int32.toNatClampNeg 1))) ((xs (Int32.toNatClampNeg 2))) ((xs (Int32.toNatClampNeg 3))) o) (hts _ xl_35) (hts _ xl_36) (hts _ xl_0) (by decide +kernel) rfl (Nat.le_of_ble_eq_true rfl) (Nat.le_of_ble_eq_true rfl) hl.1 (Nat.le_of_ble_eq_true rfl) (lE_up hE (l_st hS hAs)) hP hD hS hA [0] [7, 8, 9, 10, 11, 12, 13, 14, 15, 16, 17, 18, 19, 20] rfl (by decide) rfl rfl (by decide) (by decide) (Nat.le_of_ble_eq_true rfl) (Nat.le_of_ble_eq_true rfl) d_law_1153 (fun v u H locs hp hP hD hS => ?_)
  obtain rfl : v = some (.int 1) := hp
  have hP : va_P (dC, dI) classes [(mo, .inr (0, mF qm 0)), (qm 1, .inr (1, [x0, x1, x2, x3, x4, x5, x6, x7])), (qm 2, .inr (2, [.ref qa, .int 0])), (qa, .inl (ca 0, 16, .inl (fun _ => 0))), (qm 12, .inl (ca 4, 148, .inr (.inr (.inr (.inr (fun _ => none)))))), (qm 110, .inl (ca 1, 2, .inl (fun _ => 0))), (qm 111, .inl (ca 2, 2, .inr (.inl (fun _ => 0)))), (qm 112, .inl (ca 1, 2, .inl (fun _ => 0))), (qm 113, .inl (ca 2, 2, .inr (.inl (fun _ => 0)))), (qm 114, .inl (ca 2, 2, .inr (.inl (fun _ => 0)))), (qm 117, .inl (ca 1, 2, .inl (fun _ => 0))), (qm 118, .inl (ca 1, 2, .inl (fun _ => 0))), (qm 120, .inl (ca 1, 8000, .inl (fun _ => 0))), (qm 122, .inl (ca 1, 2, .inl (fun _ => 0)))] H := hP
  have hD : va_D A [(mo, .inr (0, mF qm 0)), (qm 1, .inr (1, [x0, x1, x2, x3, x4, x5, x6, x7])), (qm 2, .inr (2, [.ref qa, .int 0])), (qa, .inl (ca 0, 16, .inl (fun _ => 0))), (qm 12, .inl (ca 4, 148, .inr (.inr (.inr (.inr (fun _ => none)))))), (qm 110, .inl (ca 1, 2, .inl (fun _ => 0))), (qm 111, .inl (ca 2, 2, .inr (.inl (fun _ => 0)))), (qm 112, .inl (ca 1, 2, .inl (fun _ => 0))), (qm 113, .inl (ca 2, 2, .inr (.inl (fun _ => 0)))), (qm 114, .inl (ca 2, 2, .inr (.inl (fun _ => 0)))), (qm 117, .inl (ca 1, 2, .inl (fun _ => 0))), (qm 118, .inl (ca 1, 2, .inl (fun _ => 0))), (qm 120, .inl (ca 1, 8000, .inl (fun _ => 0))), (qm 122, .inl (ca 1, 2, .inl (fun _ => 0)))] := hD
  refine W.eq (g2 := F0 m 1156 ls [.int 1]) rfl ?_
  refine lv_istore (lv' := [(5, .int 1), (4, .int 0), (3, .ref o), (2, .ref mo), (1, .ref xo), (0, .ref b)]) hx hb d_law_1156 hl (by decide) rfl (fun ls hl => ?_)
  refine lv_aload_n hx hb d_law_1158 rfl (lv_at hl 3 rfl) ?_
  refine lv_aload_n hx hb d_law_1159 rfl (lv_at hl 5 rfl) ?_
  refine lv_iload hx hb d_law_1160 (lv_at hl 1 rfl) ?_
  refine lv_iconst (v := 1) hx hb d_law_1162 (by decide) ?_
  refine lv_iadd hx hb d_law_1163 ?_
  refine lv_topi (fun z e9 => ?_)
  obtain rfl : z = 1 := by rw [e9]; decide
  refine va_sld hx hb hX hbl hbA hS (by unfold vp_in; decide) d_law_1164 ?_
  refine lv_aload_n hx hb d_law_1165 rfl (lv_at hl 5 rfl) ?_
  refine lv_iload hx hb d_law_1166 (lv_at hl 1 rfl) ?_
  refine lv_iconst (v := 2) hx hb d_law_1168 (by decide) ?_
  refine lv_iadd hx hb d_law_1169 ?_
  refine lv_topi (fun z e9 => ?_)
  obtain rfl : z = 2 := by rw [e9]; decide
  refine va_sld hx hb hX hbl hbA hS (by unfold vp_in; decide) d_law_1170 ?_
  refine lv_aload_n hx hb d_law_1171 rfl (lv_at hl 5 rfl) ?_
  refine lv_iload hx hb d_law_1172 (lv_at hl 1 rfl) ?_
  refine lv_iconst (v := 3) hx hb d_law_1174 (by decide) ?_
  refine lv_iadd hx hb d_law_1175 ?_
  refine lv_topi (fun z e9 => ?_)
  obtain rfl : z = 3 := by rw [e9]; decide
  refine va_sld hx hb hX hbl hbA hS (by unfold vp_in; decide) d_law_1176 ?_
  refine ax_Vb (Z := wm) (ci := 0) (q0 := 0) (k := 3) (As := [.int (xs (Int32.toNatClampNeg 1)), .int (xs (Int32.toNatClampNeg 2)), .int (xs (Int32.toNatClampNeg 3))]) (rest := []) (wr := [(qm 1, .inr (1, [x0, x1, x2, x3, x4, x5, x6, x7])), (qm 2, .inr (2, [.ref qa, .int 0])), (qa, .inl (ca 0, 16, .inl (fun _ => 0))), (qm 12, .inl (ca 4, 148, .inr (.inr (.inr (.inr (fun _ => none)))))), (qm 110, .inl (ca 1, 2, .inl (fun _ => 0))), (qm 111, .inl (ca 2, 2, .inr (.inl (fun _ => 0)))), (qm 112, .inl (ca 1, 2, .inl (fun _ => 0))), (qm 113, .inl (ca 2, 2, .inr (.inl (fun _ => 0)))), (qm 114, .inl (ca 2, 2, .inr (.inl (fun _ => 0)))), (qm 117, .inl (ca 1, 2, .inl (fun _ => 0))), (qm 118, .inl (ca 1, 2, .inl (fun _ => 0))), (qm 120, .inl (ca 1, 8000, .inl (fun _ => 0))), (qm 122, .inl (ca 1, 2, .inl (fun _ => 0)))]) rfl hx hb hml hown hts g_wm wm_lk (mK_bl dC dI ca) (c_MM_field l dC dI ca mo qm 0 ((xs (Int32.toNatClampNeg 1))) ((xs (Int32.toNatClampNeg 2))) ((xs (Int32.toNatClampNeg 3)))) xl_65 xm_323 xm_0 xm_325 xm_324 (by decide +kernel) rfl (Nat.le_of_ble_eq_true rfl) (Nat.le_of_ble_eq_true rfl) hl.1 (Nat.le_of_ble_eq_true rfl) (mK_up hKm) hKm.1 hP hD hS hA rfl rfl [0] [1, 2, 3, 4, 5, 6, 7, 8, 9, 10, 11, 12, 13] rfl (by decide) rfl rfl (by decide) (by decide) (Nat.le_of_ble_eq_true rfl) (Nat.le_of_ble_eq_true rfl) d_law_1177 (fun v u H locs hp hP hD hS => ?_)
  obtain rfl : v = some (.long 0) := hp
  have hP : va_P (dC, dI) classes [(qm 1, .inr (1, [x0, x1, x2, x3, x4, x5, x6, x7])), (qm 2, .inr (2, [.ref qa, .int 0])), (qa, .inl (ca 0, 16, .inl (fun _ => 0))), (qm 12, .inl (ca 4, 148, .inr (.inr (.inr (.inr (fun _ => none)))))), (qm 110, .inl (ca 1, 2, .inl (fun _ => 0))), (qm 111, .inl (ca 2, 2, .inr (.inl (fun _ => 0)))), (qm 112, .inl (ca 1, 2, .inl (fun _ => 0))), (qm 113, .inl (ca 2, 2, .inr (.inl (fun _ => 0)))), (qm 114, .inl (ca 2, 2, .inr (.inl (fun _ => 0)))), (qm 117, .inl (ca 1, 2, .inl (fun _ => 0))), (qm 118, .inl (ca 1, 2, .inl (fun _ => 0))), (qm 120, .inl (ca 1, 8000, .inl (fun _ => 0))), (qm 122, .inl (ca 1, 2, .inl (fun _ => 0))), (mo, .inr (0, mF qm 1))] H := hP
  have hD : va_D A [(qm 1, .inr (1, [x0, x1, x2, x3, x4, x5, x6, x7])), (qm 2, .inr (2, [.ref qa, .int 0])), (qa, .inl (ca 0, 16, .inl (fun _ => 0))), (qm 12, .inl (ca 4, 148, .inr (.inr (.inr (.inr (fun _ => none)))))), (qm 110, .inl (ca 1, 2, .inl (fun _ => 0))), (qm 111, .inl (ca 2, 2, .inr (.inl (fun _ => 0)))), (qm 112, .inl (ca 1, 2, .inl (fun _ => 0))), (qm 113, .inl (ca 2, 2, .inr (.inl (fun _ => 0)))), (qm 114, .inl (ca 2, 2, .inr (.inl (fun _ => 0)))), (qm 117, .inl (ca 1, 2, .inl (fun _ => 0))), (qm 118, .inl (ca 1, 2, .inl (fun _ => 0))), (qm 120, .inl (ca 1, 8000, .inl (fun _ => 0))), (qm 122, .inl (ca 1, 2, .inl (fun _ => 0))), (mo, .inr (0, mF qm 1))] := hD
  refine W.eq (g2 := F0 m 1180 ls [.long 0]) rfl ?_
  refine lv_lstore (lv' := [(6, .long 0), (5, .int 1), (4, .int 0), (3, .ref o), (2, .ref mo), (1, .ref xo), (0, .ref b)]) hx hb d_law_1180 hl (by decide) rfl (fun ls hl => ?_)
  refine lv_aload_n hx hb d_law_1182 rfl (lv_at hl 4 rfl) ?_
  refine ax_Vb (Z := wm) (ci := 0) (q0 := 0) (k := 0) (As := []) (rest := []) (wr := [(qm 1, .inr (1, [x0, x1, x2, x3, x4, x5, x6, x7])), (qm 2, .inr (2, [.ref qa, .int 0])), (qa, .inl (ca 0, 16, .inl (fun _ => 0))), (qm 12, .inl (ca 4, 148, .inr (.inr (.inr (.inr (fun _ => none)))))), (qm 110, .inl (ca 1, 2, .inl (fun _ => 0))), (qm 111, .inl (ca 2, 2, .inr (.inl (fun _ => 0)))), (qm 112, .inl (ca 1, 2, .inl (fun _ => 0))), (qm 113, .inl (ca 2, 2, .inr (.inl (fun _ => 0)))), (qm 114, .inl (ca 2, 2, .inr (.inl (fun _ => 0)))), (qm 117, .inl (ca 1, 2, .inl (fun _ => 0))), (qm 118, .inl (ca 1, 2, .inl (fun _ => 0))), (qm 120, .inl (ca 1, 8000, .inl (fun _ => 0))), (qm 122, .inl (ca 1, 2, .inl (fun _ => 0)))]) rfl hx hb hml hown hts g_wm wm_lk (mK_bl dC dI ca) (c_MM_thrown l dC dI ca mo qm 1) xl_45 xm_175 xm_0 xm_177 xm_176 (by decide +kernel) rfl (Nat.le_of_ble_eq_true rfl) (Nat.le_of_ble_eq_true rfl) hl.1 (Nat.le_of_ble_eq_true rfl) (mK_up hKm) hKm.1 hP hD hS hA rfl rfl [13] [0, 1, 2, 3, 4, 5, 6, 7, 8, 9, 10, 11, 12] rfl (by decide) rfl rfl (by decide) (by decide) (Nat.le_of_ble_eq_true rfl) (Nat.le_of_ble_eq_true rfl) d_law_1183 (fun v u H locs hp hP hD hS => ?_)
  obtain rfl : v = some (.int 1) := hp
  have hP : va_P (dC, dI) classes [(qm 1, .inr (1, [x0, x1, x2, x3, x4, x5, x6, x7])), (qm 2, .inr (2, [.ref qa, .int 0])), (qa, .inl (ca 0, 16, .inl (fun _ => 0))), (qm 12, .inl (ca 4, 148, .inr (.inr (.inr (.inr (fun _ => none)))))), (qm 110, .inl (ca 1, 2, .inl (fun _ => 0))), (qm 111, .inl (ca 2, 2, .inr (.inl (fun _ => 0)))), (qm 112, .inl (ca 1, 2, .inl (fun _ => 0))), (qm 113, .inl (ca 2, 2, .inr (.inl (fun _ => 0)))), (qm 114, .inl (ca 2, 2, .inr (.inl (fun _ => 0)))), (qm 117, .inl (ca 1, 2, .inl (fun _ => 0))), (qm 118, .inl (ca 1, 2, .inl (fun _ => 0))), (qm 120, .inl (ca 1, 8000, .inl (fun _ => 0))), (qm 122, .inl (ca 1, 2, .inl (fun _ => 0))), (mo, .inr (0, mF qm 1))] H := hP
  have hD : va_D A [(qm 1, .inr (1, [x0, x1, x2, x3, x4, x5, x6, x7])), (qm 2, .inr (2, [.ref qa, .int 0])), (qa, .inl (ca 0, 16, .inl (fun _ => 0))), (qm 12, .inl (ca 4, 148, .inr (.inr (.inr (.inr (fun _ => none)))))), (qm 110, .inl (ca 1, 2, .inl (fun _ => 0))), (qm 111, .inl (ca 2, 2, .inr (.inl (fun _ => 0)))), (qm 112, .inl (ca 1, 2, .inl (fun _ => 0))), (qm 113, .inl (ca 2, 2, .inr (.inl (fun _ => 0)))), (qm 114, .inl (ca 2, 2, .inr (.inl (fun _ => 0)))), (qm 117, .inl (ca 1, 2, .inl (fun _ => 0))), (qm 118, .inl (ca 1, 2, .inl (fun _ => 0))), (qm 120, .inl (ca 1, 8000, .inl (fun _ => 0))), (qm 122, .inl (ca 1, 2, .inl (fun _ => 0))), (mo, .inr (0, mF qm 1))] := hD
  refine W.eq (g2 := F0 m 1186 ls [.int 1]) rfl ?_
  refine lv_iload hx hb d_law_1186 (lv_at hl 1 rfl) ?_
  refine lv_icmp_eq (tgt := 1193) hx hb d_law_1188 (by decide) (fun _ => ?_) (fun h => absurd rfl h)
  refine lv_iload hx hb d_law_1193 (lv_at hl 1 rfl) ?_
  refine lv_if_ne (tgt := 1209) hx hb d_law_1195 (by decide) (fun _ => ?_) (fun h => absurd h (by decide))
  refine lv_goto (tgt := 1327) hx hb d_law_1209 (by decide) ?_
  refine W.widen (k := 300) (n := 650000) (Nat.le_of_ble_eq_true rfl) (Nat.le_of_ble_eq_true rfl) ?_
  exact kk H locs ls hS (lv_sub hl [2, 6] rfl)
set_option maxHeartbeats 4000000 in
set_option maxRecDepth 100000 in
theorem lc_19 {p : Program} {l : Launch} {e : Env} {s : State} {m : MethodId} {args : Array Value} {below : List Frame} {meth : Method} {c : Code} {H : Heap} {locs : List Loc} {Q : State → Prop} {dC : Nat → ClassId} {dI : Nat → Nat → Nat} {ca : Nat → ClassId} {A : Nat → Prop} {ls : Array Slot} {b : Nat} {xs : Nat → Int32} {xo mo o d0 d1 qa : Nat} {qs qm r0 r1 : Nat → Nat} {x0 x1 x2 x3 x4 x5 x6 x7 : Value} (hl9 : l.stackTraces = false) (L : lC p s m args c dC dI ca A b xs) (hP : va_P (dC, dI) classes [(xo, .inr (7, sF qs 0)), (qs 0, .inl (ca 0, 256, .inl (fun _ => 0))), (qs 4, .inl (ca 6, 160, .inr (.inr (.inr (.inr (fun _ => none)))))), (qs 7, .inl (ca 5, 2, .inr (.inr (.inr (.inr (va_up (va_up (fun _ => none) 0 (some d0)) 1 (some d1))))))), (qs 8, .inr (8, [.null, .int 0, .int 0])), (d0, .inr (17, sD r0)), (d1, .inr (17, sD r1)), (mo, .inr (0, mF qm 0)), (qm 1, .inr (1, [x0, x1, x2, x3, x4, x5, x6, x7])), (qm 2, .inr (2, [.ref qa, .int 0])), (qa, .inl (ca 0, 16, .inl (fun _ => 0))), (qm 12, .inl (ca 4, 148, .inr (.inr (.inr (.inr (fun _ => none)))))), (qm 110, .inl (ca 1, 2, .inl (fun _ => 0))), (qm 111, .inl (ca 2, 2, .inr (.inl (fun _ => 0)))), (qm 112, .inl (ca 1, 2, .inl (fun _ => 0))), (qm 113, .inl (ca 2, 2, .inr (.inl (fun _ => 0)))), (qm 114, .inl (ca 2, 2, .inr (.inl (fun _ => 0)))), (qm 117, .inl (ca 1, 2, .inl (fun _ => 0))), (qm 118, .inl (ca 1, 2, .inl (fun _ => 0))), (qm 120, .inl (ca 1, 8000, .inl (fun _ => 0))), (qm 122, .inl (ca 1, 2, .inl (fun _ => 0))), (o, .inl (ca 2, 1, .inr (.inl (fun _ => 0))))] H) (hD : va_D A [(xo, .inr (7, sF qs 0)), (qs 0, .inl (ca 0, 256, .inl (fun _ => 0))), (qs 4, .inl (ca 6, 160, .inr (.inr (.inr (.inr (fun _ => none)))))), (qs 7, .inl (ca 5, 2, .inr (.inr (.inr (.inr (va_up (va_up (fun _ => none) 0 (some d0)) 1 (some d1))))))), (qs 8, .inr (8, [.null, .int 0, .int 0])), (d0, .inr (17, sD r0)), (d1, .inr (17, sD r1)), (mo, .inr (0, mF qm 0)), (qm 1, .inr (1, [x0, x1, x2, x3, x4, x5, x6, x7])), (qm 2, .inr (2, [.ref qa, .int 0])), (qa, .inl (ca 0, 16, .inl (fun _ => 0))), (qm 12, .inl (ca 4, 148, .inr (.inr (.inr (.inr (fun _ => none)))))), (qm 110, .inl (ca 1, 2, .inl (fun _ => 0))), (qm 111, .inl (ca 2, 2, .inr (.inl (fun _ => 0)))), (qm 112, .inl (ca 1, 2, .inl (fun _ => 0))), (qm 113, .inl (ca 2, 2, .inr (.inl (fun _ => 0)))), (qm 114, .inl (ca 2, 2, .inr (.inl (fun _ => 0)))), (qm 117, .inl (ca 1, 2, .inl (fun _ => 0))), (qm 118, .inl (ca 1, 2, .inl (fun _ => 0))), (qm 120, .inl (ca 1, 8000, .inl (fun _ => 0))), (qm 122, .inl (ca 1, 2, .inl (fun _ => 0))), (o, .inl (ca 2, 1, .inr (.inl (fun _ => 0))))]) (hS : va_S A s.heap H locs) (hl : lv_has ls 8 [(4, .int 0), (3, .ref o), (2, .ref mo), (1, .ref xo), (0, .ref b)])
    (kk : lkk p l e s m args below meth c A b Q) : W p l e room_1 s m args below meth c H locs 236 644961 Q (F0 m 1212 ls []) := by
  obtain ⟨hx, hb, hml, hown, hts, hKm, hE, hA, hAs, hX, hbl, hbA⟩ := L
  have hKs := hE.1.1
  refine lv_aload_n hx hb d_law_1212 rfl (lv_at hl 3 rfl) ?_
  refine lv_aload_n hx hb d_law_1213 rfl (lv_at hl 4 rfl) ?_
  refine lv_iload hx hb d_law_1214 (lv_at hl 0 rfl) ?_
  refine lv_iconst (v := 1) hx hb d_law_1216 (by decide) ?_
  refine lv_iadd hx hb d_law_1217 ?_
  refine lv_topi (fun z e9 => ?_)
  obtain rfl : z = 1 := by rw [e9]; decide
  refine va_sld hx hb hX hbl hbA hS (by unfold vp_in; decide) d_law_1218 ?_
  refine lv_aload_n hx hb d_law_1219 rfl (lv_at hl 4 rfl) ?_
  refine lv_iload hx hb d_law_1220 (lv_at hl 0 rfl) ?_
  refine lv_iconst (v := 2) hx hb d_law_1222 (by decide) ?_
  refine lv_iadd hx hb d_law_1223 ?_
  refine lv_topi (fun z e9 => ?_)
  obtain rfl : z = 2 := by rw [e9]; decide
  refine va_sld hx hb hX hbl hbA hS (by unfold vp_in; decide) d_law_1224 ?_
  refine lv_aload_n hx hb d_law_1225 rfl (lv_at hl 4 rfl) ?_
  refine lv_iload hx hb d_law_1226 (lv_at hl 0 rfl) ?_
  refine lv_iconst (v := 3) hx hb d_law_1228 (by decide) ?_
  refine lv_iadd hx hb d_law_1229 ?_
  refine lv_topi (fun z e9 => ?_)
  obtain rfl : z = 3 := by rw [e9]; decide
  refine va_sld hx hb hX hbl hbA hS (by unfold vp_in; decide) d_law_1230 ?_
  refine lv_aload_n hx hb d_law_1231 rfl (lv_at hl 1 rfl) ?_
  refine ax_StW (Z := lk) (Zb := lk) (k := 5) (As := [.ref xo, .int (xs (Int32.toNatClampNeg 1)), .int (xs (Int32.toNatClampNeg 2)), .int (xs (Int32.toNatClampNeg 3)), .ref o]) (rest := []) (wr := [(mo, .inr (0, mF qm 0)), (qm 1, .inr (1, [x0, x1, x2, x3, x4, x5, x6, x7])), (qm 2, .inr (2, [.ref qa, .int 0])), (qa, .inl (ca 0, 16, .inl (fun _ => 0))), (qm 12, .inl (ca 4, 148, .inr (.inr (.inr (.inr (fun _ => none)))))), (qm 110, .inl (ca 1, 2, .inl (fun _ => 0))), (qm 111, .inl (ca 2, 2, .inr (.inl (fun _ => 0)))), (qm 112, .inl (ca 1, 2, .inl (fun _ => 0))), (qm 113, .inl (ca 2, 2, .inr (.inl (fun _ => 0)))), (qm 114, .inl (ca 2, 2, .inr (.inl (fun _ => 0)))), (qm 117, .inl (ca 1, 2, .inl (fun _ => 0))), (qm 118, .inl (ca 1, 2, .inl (fun _ => 0))), (qm 120, .inl (ca 1, 8000, .inl (fun _ => 0))), (qm 122, .inl (ca 1, 2, .inl (fun _ => 0)))]) rfl hx hb hml hown hts (ax_goodw g_lk xl_41) (lE_bl dC dI ca) (h_element l hl9 dC dI ca xo qs d0 d1 r0 r1 ((xs (Int32.toNatClampNeg 1))) ((xs (Int32.toNatClampNeg 2))) ((xs (Int32.toNatClampNeg 3))) o) (hts _ xl_39) (hts _ xl_40) (hts _ xl_0) (by decide +kernel) rfl (Nat.le_of_ble_eq_true rfl) (Nat.le_of_ble_eq_true rfl) hl.1 (Nat.le_of_ble_eq_true rfl) (lE_up hE (l_st hS hAs)) hP hD hS hA [0, 3, 5, 6] [7, 8, 9, 10, 11, 12, 13, 14, 15, 16, 17, 18, 19, 20] rfl (by decide) rfl rfl (by decide) (by decide) (Nat.le_of_ble_eq_true rfl) (Nat.le_of_ble_eq_true rfl) d_law_1232 (fun v u H locs hp hP hD hS => ?_)
  obtain rfl : v = some (.int 1) := hp
  have hP : va_P (dC, dI) classes [(mo, .inr (0, mF qm 0)), (qm 1, .inr (1, [x0, x1, x2, x3, x4, x5, x6, x7])), (qm 2, .inr (2, [.ref qa, .int 0])), (qa, .inl (ca 0, 16, .inl (fun _ => 0))), (qm 12, .inl (ca 4, 148, .inr (.inr (.inr (.inr (fun _ => none)))))), (qm 110, .inl (ca 1, 2, .inl (fun _ => 0))), (qm 111, .inl (ca 2, 2, .inr (.inl (fun _ => 0)))), (qm 112, .inl (ca 1, 2, .inl (fun _ => 0))), (qm 113, .inl (ca 2, 2, .inr (.inl (fun _ => 0)))), (qm 114, .inl (ca 2, 2, .inr (.inl (fun _ => 0)))), (qm 117, .inl (ca 1, 2, .inl (fun _ => 0))), (qm 118, .inl (ca 1, 2, .inl (fun _ => 0))), (qm 120, .inl (ca 1, 8000, .inl (fun _ => 0))), (qm 122, .inl (ca 1, 2, .inl (fun _ => 0)))] H := hP
  have hD : va_D A [(mo, .inr (0, mF qm 0)), (qm 1, .inr (1, [x0, x1, x2, x3, x4, x5, x6, x7])), (qm 2, .inr (2, [.ref qa, .int 0])), (qa, .inl (ca 0, 16, .inl (fun _ => 0))), (qm 12, .inl (ca 4, 148, .inr (.inr (.inr (.inr (fun _ => none)))))), (qm 110, .inl (ca 1, 2, .inl (fun _ => 0))), (qm 111, .inl (ca 2, 2, .inr (.inl (fun _ => 0)))), (qm 112, .inl (ca 1, 2, .inl (fun _ => 0))), (qm 113, .inl (ca 2, 2, .inr (.inl (fun _ => 0)))), (qm 114, .inl (ca 2, 2, .inr (.inl (fun _ => 0)))), (qm 117, .inl (ca 1, 2, .inl (fun _ => 0))), (qm 118, .inl (ca 1, 2, .inl (fun _ => 0))), (qm 120, .inl (ca 1, 8000, .inl (fun _ => 0))), (qm 122, .inl (ca 1, 2, .inl (fun _ => 0)))] := hD
  refine W.eq (g2 := F0 m 1235 ls [.int 1]) rfl ?_
  refine lv_istore (lv' := [(5, .int 1), (4, .int 0), (3, .ref o), (2, .ref mo), (1, .ref xo), (0, .ref b)]) hx hb d_law_1235 hl (by decide) rfl (fun ls hl => ?_)
  refine lv_aload_n hx hb d_law_1237 rfl (lv_at hl 3 rfl) ?_
  refine lv_aload_n hx hb d_law_1238 rfl (lv_at hl 5 rfl) ?_
  refine lv_iload hx hb d_law_1239 (lv_at hl 1 rfl) ?_
  refine lv_iconst (v := 1) hx hb d_law_1241 (by decide) ?_
  refine lv_iadd hx hb d_law_1242 ?_
  refine lv_topi (fun z e9 => ?_)
  obtain rfl : z = 1 := by rw [e9]; decide
  refine va_sld hx hb hX hbl hbA hS (by unfold vp_in; decide) d_law_1243 ?_
  refine lv_aload_n hx hb d_law_1244 rfl (lv_at hl 5 rfl) ?_
  refine lv_iload hx hb d_law_1245 (lv_at hl 1 rfl) ?_
  refine lv_iconst (v := 2) hx hb d_law_1247 (by decide) ?_
  refine lv_iadd hx hb d_law_1248 ?_
  refine lv_topi (fun z e9 => ?_)
  obtain rfl : z = 2 := by rw [e9]; decide
  refine va_sld hx hb hX hbl hbA hS (by unfold vp_in; decide) d_law_1249 ?_
  refine lv_aload_n hx hb d_law_1250 rfl (lv_at hl 5 rfl) ?_
  refine lv_iload hx hb d_law_1251 (lv_at hl 1 rfl) ?_
  refine lv_iconst (v := 3) hx hb d_law_1253 (by decide) ?_
  refine lv_iadd hx hb d_law_1254 ?_
  refine lv_topi (fun z e9 => ?_)
  obtain rfl : z = 3 := by rw [e9]; decide
  refine va_sld hx hb hX hbl hbA hS (by unfold vp_in; decide) d_law_1255 ?_
  refine ax_Vb (Z := wm) (ci := 0) (q0 := 0) (k := 3) (As := [.int (xs (Int32.toNatClampNeg 1)), .int (xs (Int32.toNatClampNeg 2)), .int (xs (Int32.toNatClampNeg 3))]) (rest := []) (wr := [(qm 1, .inr (1, [x0, x1, x2, x3, x4, x5, x6, x7])), (qm 2, .inr (2, [.ref qa, .int 0])), (qa, .inl (ca 0, 16, .inl (fun _ => 0))), (qm 12, .inl (ca 4, 148, .inr (.inr (.inr (.inr (fun _ => none)))))), (qm 110, .inl (ca 1, 2, .inl (fun _ => 0))), (qm 111, .inl (ca 2, 2, .inr (.inl (fun _ => 0)))), (qm 112, .inl (ca 1, 2, .inl (fun _ => 0))), (qm 113, .inl (ca 2, 2, .inr (.inl (fun _ => 0)))), (qm 114, .inl (ca 2, 2, .inr (.inl (fun _ => 0)))), (qm 118, .inl (ca 1, 2, .inl (fun _ => 0))), (qm 122, .inl (ca 1, 2, .inl (fun _ => 0)))]) rfl hx hb hml hown hts g_wm wm_lk (mK_bl dC dI ca) (c_MM_element l dC dI ca mo qm 0 ((xs (Int32.toNatClampNeg 1))) ((xs (Int32.toNatClampNeg 2))) ((xs (Int32.toNatClampNeg 3)))) xl_66 xm_326 xm_0 xm_328 xm_327 (by decide +kernel) rfl (Nat.le_of_ble_eq_true rfl) (Nat.le_of_ble_eq_true rfl) hl.1 (Nat.le_of_ble_eq_true rfl) (mK_up hKm) hKm.1 hP hD hS hA rfl rfl [0, 10, 12] [1, 2, 3, 4, 5, 6, 7, 8, 9, 11, 13] rfl (by decide) rfl rfl (by decide) (by decide) (Nat.le_of_ble_eq_true rfl) (Nat.le_of_ble_eq_true rfl) d_law_1256 (fun v u H locs hp hP hD hS => ?_)
  obtain rfl : v = some (.long 0) := hp
  have hP : va_P (dC, dI) classes [(qm 1, .inr (1, [x0, x1, x2, x3, x4, x5, x6, x7])), (qm 2, .inr (2, [.ref qa, .int 0])), (qa, .inl (ca 0, 16, .inl (fun _ => 0))), (qm 12, .inl (ca 4, 148, .inr (.inr (.inr (.inr (fun _ => none)))))), (qm 110, .inl (ca 1, 2, .inl (fun _ => 0))), (qm 111, .inl (ca 2, 2, .inr (.inl (fun _ => 0)))), (qm 112, .inl (ca 1, 2, .inl (fun _ => 0))), (qm 113, .inl (ca 2, 2, .inr (.inl (fun _ => 0)))), (qm 114, .inl (ca 2, 2, .inr (.inl (fun _ => 0)))), (qm 118, .inl (ca 1, 2, .inl (fun _ => 0))), (qm 122, .inl (ca 1, 2, .inl (fun _ => 0))), (mo, .inr (0, mF qm 1))] H := hP
  have hD : va_D A [(qm 1, .inr (1, [x0, x1, x2, x3, x4, x5, x6, x7])), (qm 2, .inr (2, [.ref qa, .int 0])), (qa, .inl (ca 0, 16, .inl (fun _ => 0))), (qm 12, .inl (ca 4, 148, .inr (.inr (.inr (.inr (fun _ => none)))))), (qm 110, .inl (ca 1, 2, .inl (fun _ => 0))), (qm 111, .inl (ca 2, 2, .inr (.inl (fun _ => 0)))), (qm 112, .inl (ca 1, 2, .inl (fun _ => 0))), (qm 113, .inl (ca 2, 2, .inr (.inl (fun _ => 0)))), (qm 114, .inl (ca 2, 2, .inr (.inl (fun _ => 0)))), (qm 118, .inl (ca 1, 2, .inl (fun _ => 0))), (qm 122, .inl (ca 1, 2, .inl (fun _ => 0))), (mo, .inr (0, mF qm 1))] := hD
  refine W.eq (g2 := F0 m 1259 ls [.long 0]) rfl ?_
  refine lv_lstore (lv' := [(6, .long 0), (5, .int 1), (4, .int 0), (3, .ref o), (2, .ref mo), (1, .ref xo), (0, .ref b)]) hx hb d_law_1259 hl (by decide) rfl (fun ls hl => ?_)
  refine lv_aload_n hx hb d_law_1261 rfl (lv_at hl 4 rfl) ?_
  refine ax_Vb (Z := wm) (ci := 0) (q0 := 0) (k := 0) (As := []) (rest := []) (wr := [(qm 1, .inr (1, [x0, x1, x2, x3, x4, x5, x6, x7])), (qm 2, .inr (2, [.ref qa, .int 0])), (qa, .inl (ca 0, 16, .inl (fun _ => 0))), (qm 12, .inl (ca 4, 148, .inr (.inr (.inr (.inr (fun _ => none)))))), (qm 110, .inl (ca 1, 2, .inl (fun _ => 0))), (qm 111, .inl (ca 2, 2, .inr (.inl (fun _ => 0)))), (qm 112, .inl (ca 1, 2, .inl (fun _ => 0))), (qm 113, .inl (ca 2, 2, .inr (.inl (fun _ => 0)))), (qm 114, .inl (ca 2, 2, .inr (.inl (fun _ => 0)))), (qm 118, .inl (ca 1, 2, .inl (fun _ => 0))), (qm 122, .inl (ca 1, 2, .inl (fun _ => 0)))]) rfl hx hb hml hown hts g_wm wm_lk (mK_bl dC dI ca) (c_MM_thrown l dC dI ca mo qm 1) xl_45 xm_175 xm_0 xm_177 xm_176 (by decide +kernel) rfl (Nat.le_of_ble_eq_true rfl) (Nat.le_of_ble_eq_true rfl) hl.1 (Nat.le_of_ble_eq_true rfl) (mK_up hKm) hKm.1 hP hD hS hA rfl rfl [11] [0, 1, 2, 3, 4, 5, 6, 7, 8, 9, 10] rfl (by decide) rfl rfl (by decide) (by decide) (Nat.le_of_ble_eq_true rfl) (Nat.le_of_ble_eq_true rfl) d_law_1262 (fun v u H locs hp hP hD hS => ?_)
  obtain rfl : v = some (.int 1) := hp
  have hP : va_P (dC, dI) classes [(qm 1, .inr (1, [x0, x1, x2, x3, x4, x5, x6, x7])), (qm 2, .inr (2, [.ref qa, .int 0])), (qa, .inl (ca 0, 16, .inl (fun _ => 0))), (qm 12, .inl (ca 4, 148, .inr (.inr (.inr (.inr (fun _ => none)))))), (qm 110, .inl (ca 1, 2, .inl (fun _ => 0))), (qm 111, .inl (ca 2, 2, .inr (.inl (fun _ => 0)))), (qm 112, .inl (ca 1, 2, .inl (fun _ => 0))), (qm 113, .inl (ca 2, 2, .inr (.inl (fun _ => 0)))), (qm 114, .inl (ca 2, 2, .inr (.inl (fun _ => 0)))), (qm 118, .inl (ca 1, 2, .inl (fun _ => 0))), (qm 122, .inl (ca 1, 2, .inl (fun _ => 0))), (mo, .inr (0, mF qm 1))] H := hP
  have hD : va_D A [(qm 1, .inr (1, [x0, x1, x2, x3, x4, x5, x6, x7])), (qm 2, .inr (2, [.ref qa, .int 0])), (qa, .inl (ca 0, 16, .inl (fun _ => 0))), (qm 12, .inl (ca 4, 148, .inr (.inr (.inr (.inr (fun _ => none)))))), (qm 110, .inl (ca 1, 2, .inl (fun _ => 0))), (qm 111, .inl (ca 2, 2, .inr (.inl (fun _ => 0)))), (qm 112, .inl (ca 1, 2, .inl (fun _ => 0))), (qm 113, .inl (ca 2, 2, .inr (.inl (fun _ => 0)))), (qm 114, .inl (ca 2, 2, .inr (.inl (fun _ => 0)))), (qm 118, .inl (ca 1, 2, .inl (fun _ => 0))), (qm 122, .inl (ca 1, 2, .inl (fun _ => 0))), (mo, .inr (0, mF qm 1))] := hD
  refine W.eq (g2 := F0 m 1265 ls [.int 1]) rfl ?_
  refine lv_iload hx hb d_law_1265 (lv_at hl 1 rfl) ?_
  refine lv_icmp_eq (tgt := 1272) hx hb d_law_1267 (by decide) (fun _ => ?_) (fun h => absurd rfl h)
  refine lv_iload hx hb d_law_1272 (lv_at hl 1 rfl) ?_
  refine lv_if_ne (tgt := 1288) hx hb d_law_1274 (by decide) (fun _ => ?_) (fun h => absurd h (by decide))
  refine lv_goto (tgt := 1327) hx hb d_law_1288 (by decide) ?_
  refine W.widen (k := 300) (n := 650000) (Nat.le_of_ble_eq_true rfl) (Nat.le_of_ble_eq_true rfl) ?_
  exact kk H locs ls hS (lv_sub hl [2, 6] rfl)
set_option maxHeartbeats 4000000 in
set_option maxRecDepth 100000 in
theorem lc_20 {p : Program} {l : Launch} {e : Env} {s : State} {m : MethodId} {args : Array Value} {below : List Frame} {meth : Method} {c : Code} {H : Heap} {locs : List Loc} {Q : State → Prop} {dC : Nat → ClassId} {dI : Nat → Nat → Nat} {ca : Nat → ClassId} {A : Nat → Prop} {ls : Array Slot} {b : Nat} {xs : Nat → Int32} {xo mo o d0 d1 qa : Nat} {qs qm r0 r1 : Nat → Nat} {x0 x1 x2 x3 x4 x5 x6 x7 : Value} (hl9 : l.stackTraces = false) (L : lC p s m args c dC dI ca A b xs) (hP : va_P (dC, dI) classes [(xo, .inr (7, sF qs 0)), (qs 0, .inl (ca 0, 256, .inl (fun _ => 0))), (qs 4, .inl (ca 6, 160, .inr (.inr (.inr (.inr (fun _ => none)))))), (qs 7, .inl (ca 5, 2, .inr (.inr (.inr (.inr (va_up (va_up (fun _ => none) 0 (some d0)) 1 (some d1))))))), (qs 8, .inr (8, [.null, .int 0, .int 0])), (d0, .inr (17, sD r0)), (d1, .inr (17, sD r1)), (mo, .inr (0, mF qm 0)), (qm 1, .inr (1, [x0, x1, x2, x3, x4, x5, x6, x7])), (qm 2, .inr (2, [.ref qa, .int 0])), (qa, .inl (ca 0, 16, .inl (fun _ => 0))), (qm 12, .inl (ca 4, 148, .inr (.inr (.inr (.inr (fun _ => none)))))), (qm 110, .inl (ca 1, 2, .inl (fun _ => 0))), (qm 111, .inl (ca 2, 2, .inr (.inl (fun _ => 0)))), (qm 112, .inl (ca 1, 2, .inl (fun _ => 0))), (qm 113, .inl (ca 2, 2, .inr (.inl (fun _ => 0)))), (qm 114, .inl (ca 2, 2, .inr (.inl (fun _ => 0)))), (qm 117, .inl (ca 1, 2, .inl (fun _ => 0))), (qm 118, .inl (ca 1, 2, .inl (fun _ => 0))), (qm 120, .inl (ca 1, 8000, .inl (fun _ => 0))), (qm 122, .inl (ca 1, 2, .inl (fun _ => 0))), (o, .inl (ca 2, 1, .inr (.inl (fun _ => 0))))] H) (hD : va_D A [(xo, .inr (7, sF qs 0)), (qs 0, .inl (ca 0, 256, .inl (fun _ => 0))), (qs 4, .inl (ca 6, 160, .inr (.inr (.inr (.inr (fun _ => none)))))), (qs 7, .inl (ca 5, 2, .inr (.inr (.inr (.inr (va_up (va_up (fun _ => none) 0 (some d0)) 1 (some d1))))))), (qs 8, .inr (8, [.null, .int 0, .int 0])), (d0, .inr (17, sD r0)), (d1, .inr (17, sD r1)), (mo, .inr (0, mF qm 0)), (qm 1, .inr (1, [x0, x1, x2, x3, x4, x5, x6, x7])), (qm 2, .inr (2, [.ref qa, .int 0])), (qa, .inl (ca 0, 16, .inl (fun _ => 0))), (qm 12, .inl (ca 4, 148, .inr (.inr (.inr (.inr (fun _ => none)))))), (qm 110, .inl (ca 1, 2, .inl (fun _ => 0))), (qm 111, .inl (ca 2, 2, .inr (.inl (fun _ => 0)))), (qm 112, .inl (ca 1, 2, .inl (fun _ => 0))), (qm 113, .inl (ca 2, 2, .inr (.inl (fun _ => 0)))), (qm 114, .inl (ca 2, 2, .inr (.inl (fun _ => 0)))), (qm 117, .inl (ca 1, 2, .inl (fun _ => 0))), (qm 118, .inl (ca 1, 2, .inl (fun _ => 0))), (qm 120, .inl (ca 1, 8000, .inl (fun _ => 0))), (qm 122, .inl (ca 1, 2, .inl (fun _ => 0))), (o, .inl (ca 2, 1, .inr (.inl (fun _ => 0))))]) (hS : va_S A s.heap H locs) (hl : lv_has ls 8 [(4, .int 0), (3, .ref o), (2, .ref mo), (1, .ref xo), (0, .ref b)])
    (kk : lkk p l e s m args below meth c A b Q) : W p l e room_1 s m args below meth c H locs 236 644961 Q (F0 m 1291 ls []) := by
  obtain ⟨hx, hb, hml, hown, hts, hKm, hE, hA, hAs, hX, hbl, hbA⟩ := L
  have hKs := hE.1.1
  refine lv_aload_n hx hb d_law_1291 rfl (lv_at hl 3 rfl) ?_
  refine ax_Vb (Z := sk) (ci := 7) (q0 := 0) (k := 0) (As := []) (rest := []) (wr := [(mo, .inr (0, mF qm 0)), (qm 1, .inr (1, [x0, x1, x2, x3, x4, x5, x6, x7])), (qm 2, .inr (2, [.ref qa, .int 0])), (qa, .inl (ca 0, 16, .inl (fun _ => 0))), (qm 12, .inl (ca 4, 148, .inr (.inr (.inr (.inr (fun _ => none)))))), (qm 110, .inl (ca 1, 2, .inl (fun _ => 0))), (qm 111, .inl (ca 2, 2, .inr (.inl (fun _ => 0)))), (qm 112, .inl (ca 1, 2, .inl (fun _ => 0))), (qm 113, .inl (ca 2, 2, .inr (.inl (fun _ => 0)))), (qm 114, .inl (ca 2, 2, .inr (.inl (fun _ => 0)))), (qm 117, .inl (ca 1, 2, .inl (fun _ => 0))), (qm 118, .inl (ca 1, 2, .inl (fun _ => 0))), (qm 120, .inl (ca 1, 8000, .inl (fun _ => 0))), (qm 122, .inl (ca 1, 2, .inl (fun _ => 0))), (o, .inl (ca 2, 1, .inr (.inl (fun _ => 0))))]) rfl hx hb hml hown hts g_sk sk_lk (sK_bl dC dI ca) (c_SS_settle l dC dI ca xo qs d0 d1 r0 r1) xl_18 xs_292 xs_0 xs_294 xs_293 (by decide +kernel) rfl (Nat.le_of_ble_eq_true rfl) (Nat.le_of_ble_eq_true rfl) hl.1 (Nat.le_of_ble_eq_true rfl) (sK_up hKs) hKs.1 hP hD hS hA rfl rfl [0, 3, 5, 6] [7, 8, 9, 10, 11, 12, 13, 14, 15, 16, 17, 18, 19, 20, 21] rfl (by decide) rfl rfl (by decide) (by decide) (Nat.le_of_ble_eq_true rfl) (Nat.le_of_ble_eq_true rfl) d_law_1292 (fun v u H locs hp hP hD hS => ?_)
  obtain rfl : v = none := hp
  have hP : va_P (dC, dI) classes [(mo, .inr (0, mF qm 0)), (qm 1, .inr (1, [x0, x1, x2, x3, x4, x5, x6, x7])), (qm 2, .inr (2, [.ref qa, .int 0])), (qa, .inl (ca 0, 16, .inl (fun _ => 0))), (qm 12, .inl (ca 4, 148, .inr (.inr (.inr (.inr (fun _ => none)))))), (qm 110, .inl (ca 1, 2, .inl (fun _ => 0))), (qm 111, .inl (ca 2, 2, .inr (.inl (fun _ => 0)))), (qm 112, .inl (ca 1, 2, .inl (fun _ => 0))), (qm 113, .inl (ca 2, 2, .inr (.inl (fun _ => 0)))), (qm 114, .inl (ca 2, 2, .inr (.inl (fun _ => 0)))), (qm 117, .inl (ca 1, 2, .inl (fun _ => 0))), (qm 118, .inl (ca 1, 2, .inl (fun _ => 0))), (qm 120, .inl (ca 1, 8000, .inl (fun _ => 0))), (qm 122, .inl (ca 1, 2, .inl (fun _ => 0))), (o, .inl (ca 2, 1, .inr (.inl (fun _ => 0)))), (xo, .inr (7, sF qs 0))] H := hP
  have hD : va_D A [(mo, .inr (0, mF qm 0)), (qm 1, .inr (1, [x0, x1, x2, x3, x4, x5, x6, x7])), (qm 2, .inr (2, [.ref qa, .int 0])), (qa, .inl (ca 0, 16, .inl (fun _ => 0))), (qm 12, .inl (ca 4, 148, .inr (.inr (.inr (.inr (fun _ => none)))))), (qm 110, .inl (ca 1, 2, .inl (fun _ => 0))), (qm 111, .inl (ca 2, 2, .inr (.inl (fun _ => 0)))), (qm 112, .inl (ca 1, 2, .inl (fun _ => 0))), (qm 113, .inl (ca 2, 2, .inr (.inl (fun _ => 0)))), (qm 114, .inl (ca 2, 2, .inr (.inl (fun _ => 0)))), (qm 117, .inl (ca 1, 2, .inl (fun _ => 0))), (qm 118, .inl (ca 1, 2, .inl (fun _ => 0))), (qm 120, .inl (ca 1, 8000, .inl (fun _ => 0))), (qm 122, .inl (ca 1, 2, .inl (fun _ => 0))), (o, .inl (ca 2, 1, .inr (.inl (fun _ => 0)))), (xo, .inr (7, sF qs 0))] := hD
  refine W.eq (g2 := F0 m 1295 ls []) rfl ?_
  refine lv_aload_n hx hb d_law_1295 rfl (lv_at hl 2 rfl) ?_
  refine ax_Vb (Z := wm) (ci := 0) (q0 := 0) (k := 0) (As := []) (rest := []) (wr := [(qm 1, .inr (1, [x0, x1, x2, x3, x4, x5, x6, x7])), (qm 2, .inr (2, [.ref qa, .int 0])), (qa, .inl (ca 0, 16, .inl (fun _ => 0))), (qm 12, .inl (ca 4, 148, .inr (.inr (.inr (.inr (fun _ => none)))))), (qm 120, .inl (ca 1, 8000, .inl (fun _ => 0))), (o, .inl (ca 2, 1, .inr (.inl (fun _ => 0)))), (xo, .inr (7, sF qs 0))]) rfl hx hb hml hown hts g_wm wm_lk (mK_bl dC dI ca) (c_MM_settle l dC dI ca mo qm 0) xl_53 xm_286 xm_0 xm_288 xm_287 (by decide +kernel) rfl (Nat.le_of_ble_eq_true rfl) (Nat.le_of_ble_eq_true rfl) hl.1 (Nat.le_of_ble_eq_true rfl) (mK_up hKm) hKm.1 hP hD hS hA rfl rfl [0, 5, 6, 7, 8, 9, 10, 11, 13] [1, 2, 3, 4, 12, 14, 15] rfl (by decide) rfl rfl (by decide) (by decide) (Nat.le_of_ble_eq_true rfl) (Nat.le_of_ble_eq_true rfl) d_law_1296 (fun v u H locs hp hP hD hS => ?_)
  obtain rfl : v = none := hp
  have hP : va_P (dC, dI) classes [(qm 1, .inr (1, [x0, x1, x2, x3, x4, x5, x6, x7])), (qm 2, .inr (2, [.ref qa, .int 0])), (qa, .inl (ca 0, 16, .inl (fun _ => 0))), (qm 12, .inl (ca 4, 148, .inr (.inr (.inr (.inr (fun _ => none)))))), (qm 120, .inl (ca 1, 8000, .inl (fun _ => 0))), (o, .inl (ca 2, 1, .inr (.inl (fun _ => 0)))), (xo, .inr (7, sF qs 0)), (mo, .inr (0, mF qm 0))] H := hP
  have hD : va_D A [(qm 1, .inr (1, [x0, x1, x2, x3, x4, x5, x6, x7])), (qm 2, .inr (2, [.ref qa, .int 0])), (qa, .inl (ca 0, 16, .inl (fun _ => 0))), (qm 12, .inl (ca 4, 148, .inr (.inr (.inr (.inr (fun _ => none)))))), (qm 120, .inl (ca 1, 8000, .inl (fun _ => 0))), (o, .inl (ca 2, 1, .inr (.inl (fun _ => 0)))), (xo, .inr (7, sF qs 0)), (mo, .inr (0, mF qm 0))] := hD
  refine W.eq (g2 := F0 m 1299 ls []) rfl ?_
  refine lv_goto (tgt := 1327) hx hb d_law_1299 (by decide) ?_
  refine W.widen (k := 300) (n := 650000) (Nat.le_of_ble_eq_true rfl) (Nat.le_of_ble_eq_true rfl) ?_
  exact kk H locs ls hS (lv_sub hl [0, 4] rfl)
set_option maxHeartbeats 4000000 in
set_option maxRecDepth 100000 in
theorem lc_21 {p : Program} {l : Launch} {e : Env} {s : State} {m : MethodId} {args : Array Value} {below : List Frame} {meth : Method} {c : Code} {H : Heap} {locs : List Loc} {Q : State → Prop} {dC : Nat → ClassId} {dI : Nat → Nat → Nat} {ca : Nat → ClassId} {A : Nat → Prop} {ls : Array Slot} {b : Nat} {xs : Nat → Int32} {xo mo o d0 d1 qa : Nat} {qs qm r0 r1 : Nat → Nat} {x0 x1 x2 x3 x4 x5 x6 x7 : Value} (hl9 : l.stackTraces = false) (L : lC p s m args c dC dI ca A b xs) (hP : va_P (dC, dI) classes [(xo, .inr (7, sF qs 0)), (qs 0, .inl (ca 0, 256, .inl (fun _ => 0))), (qs 4, .inl (ca 6, 160, .inr (.inr (.inr (.inr (fun _ => none)))))), (qs 7, .inl (ca 5, 2, .inr (.inr (.inr (.inr (va_up (va_up (fun _ => none) 0 (some d0)) 1 (some d1))))))), (qs 8, .inr (8, [.null, .int 0, .int 0])), (d0, .inr (17, sD r0)), (d1, .inr (17, sD r1)), (mo, .inr (0, mF qm 0)), (qm 1, .inr (1, [x0, x1, x2, x3, x4, x5, x6, x7])), (qm 2, .inr (2, [.ref qa, .int 0])), (qa, .inl (ca 0, 16, .inl (fun _ => 0))), (qm 12, .inl (ca 4, 148, .inr (.inr (.inr (.inr (fun _ => none)))))), (qm 110, .inl (ca 1, 2, .inl (fun _ => 0))), (qm 111, .inl (ca 2, 2, .inr (.inl (fun _ => 0)))), (qm 112, .inl (ca 1, 2, .inl (fun _ => 0))), (qm 113, .inl (ca 2, 2, .inr (.inl (fun _ => 0)))), (qm 114, .inl (ca 2, 2, .inr (.inl (fun _ => 0)))), (qm 117, .inl (ca 1, 2, .inl (fun _ => 0))), (qm 118, .inl (ca 1, 2, .inl (fun _ => 0))), (qm 120, .inl (ca 1, 8000, .inl (fun _ => 0))), (qm 122, .inl (ca 1, 2, .inl (fun _ => 0))), (o, .inl (ca 2, 1, .inr (.inl (fun _ => 0))))] H) (hD : va_D A [(xo, .inr (7, sF qs 0)), (qs 0, .inl (ca 0, 256, .inl (fun _ => 0))), (qs 4, .inl (ca 6, 160, .inr (.inr (.inr (.inr (fun _ => none)))))), (qs 7, .inl (ca 5, 2, .inr (.inr (.inr (.inr (va_up (va_up (fun _ => none) 0 (some d0)) 1 (some d1))))))), (qs 8, .inr (8, [.null, .int 0, .int 0])), (d0, .inr (17, sD r0)), (d1, .inr (17, sD r1)), (mo, .inr (0, mF qm 0)), (qm 1, .inr (1, [x0, x1, x2, x3, x4, x5, x6, x7])), (qm 2, .inr (2, [.ref qa, .int 0])), (qa, .inl (ca 0, 16, .inl (fun _ => 0))), (qm 12, .inl (ca 4, 148, .inr (.inr (.inr (.inr (fun _ => none)))))), (qm 110, .inl (ca 1, 2, .inl (fun _ => 0))), (qm 111, .inl (ca 2, 2, .inr (.inl (fun _ => 0)))), (qm 112, .inl (ca 1, 2, .inl (fun _ => 0))), (qm 113, .inl (ca 2, 2, .inr (.inl (fun _ => 0)))), (qm 114, .inl (ca 2, 2, .inr (.inl (fun _ => 0)))), (qm 117, .inl (ca 1, 2, .inl (fun _ => 0))), (qm 118, .inl (ca 1, 2, .inl (fun _ => 0))), (qm 120, .inl (ca 1, 8000, .inl (fun _ => 0))), (qm 122, .inl (ca 1, 2, .inl (fun _ => 0))), (o, .inl (ca 2, 1, .inr (.inl (fun _ => 0))))]) (hS : va_S A s.heap H locs) (hl : lv_has ls 8 [(4, .int 0), (3, .ref o), (2, .ref mo), (1, .ref xo), (0, .ref b)])
    (kk : lkk p l e s m args below meth c A b Q) : W p l e room_1 s m args below meth c H locs 236 644961 Q (F0 m 1302 ls []) := by
  obtain ⟨hx, hb, hml, hown, hts, hKm, hE, hA, hAs, hX, hbl, hbA⟩ := L
  have hKs := hE.1.1
  refine lv_aload_n hx hb d_law_1302 rfl (lv_at hl 3 rfl) ?_
  refine lv_aload_n hx hb d_law_1303 rfl (lv_at hl 4 rfl) ?_
  refine lv_iload hx hb d_law_1304 (lv_at hl 0 rfl) ?_
  refine lv_iconst (v := 1) hx hb d_law_1306 (by decide) ?_
  refine lv_iadd hx hb d_law_1307 ?_
  refine lv_topi (fun z e9 => ?_)
  obtain rfl : z = 1 := by rw [e9]; decide
  refine va_sld hx hb hX hbl hbA hS (by unfold vp_in; decide) d_law_1308 ?_
  refine ax_Vb (Z := sk) (ci := 7) (q0 := 0) (k := 1) (As := [.int (xs (Int32.toNatClampNeg 1))]) (rest := []) (wr := [(mo, .inr (0, mF qm 0)), (qm 1, .inr (1, [x0, x1, x2, x3, x4, x5, x6, x7])), (qm 2, .inr (2, [.ref qa, .int 0])), (qa, .inl (ca 0, 16, .inl (fun _ => 0))), (qm 12, .inl (ca 4, 148, .inr (.inr (.inr (.inr (fun _ => none)))))), (qm 110, .inl (ca 1, 2, .inl (fun _ => 0))), (qm 111, .inl (ca 2, 2, .inr (.inl (fun _ => 0)))), (qm 112, .inl (ca 1, 2, .inl (fun _ => 0))), (qm 113, .inl (ca 2, 2, .inr (.inl (fun _ => 0)))), (qm 114, .inl (ca 2, 2, .inr (.inl (fun _ => 0)))), (qm 117, .inl (ca 1, 2, .inl (fun _ => 0))), (qm 118, .inl (ca 1, 2, .inl (fun _ => 0))), (qm 120, .inl (ca 1, 8000, .inl (fun _ => 0))), (qm 122, .inl (ca 1, 2, .inl (fun _ => 0))), (o, .inl (ca 2, 1, .inr (.inl (fun _ => 0))))]) rfl hx hb hml hown hts g_sk sk_lk (sK_bl dC dI ca) (c_SS_count l dC dI ca xo qs d0 d1 r0 r1 ((xs (Int32.toNatClampNeg 1)))) xl_19 xs_295 xs_0 xs_297 xs_296 (by decide +kernel) rfl (Nat.le_of_ble_eq_true rfl) (Nat.le_of_ble_eq_true rfl) hl.1 (Nat.le_of_ble_eq_true rfl) (sK_up hKs) hKs.1 hP hD hS hA rfl rfl [0, 3, 5, 6] [7, 8, 9, 10, 11, 12, 13, 14, 15, 16, 17, 18, 19, 20, 21] rfl (by decide) rfl rfl (by decide) (by decide) (Nat.le_of_ble_eq_true rfl) (Nat.le_of_ble_eq_true rfl) d_law_1309 (fun v u H locs hp hP hD hS => ?_)
  obtain rfl : v = some (.int (cnV ((xs (Int32.toNatClampNeg 1))))) := hp
  have hP : va_P (dC, dI) classes [(mo, .inr (0, mF qm 0)), (qm 1, .inr (1, [x0, x1, x2, x3, x4, x5, x6, x7])), (qm 2, .inr (2, [.ref qa, .int 0])), (qa, .inl (ca 0, 16, .inl (fun _ => 0))), (qm 12, .inl (ca 4, 148, .inr (.inr (.inr (.inr (fun _ => none)))))), (qm 110, .inl (ca 1, 2, .inl (fun _ => 0))), (qm 111, .inl (ca 2, 2, .inr (.inl (fun _ => 0)))), (qm 112, .inl (ca 1, 2, .inl (fun _ => 0))), (qm 113, .inl (ca 2, 2, .inr (.inl (fun _ => 0)))), (qm 114, .inl (ca 2, 2, .inr (.inl (fun _ => 0)))), (qm 117, .inl (ca 1, 2, .inl (fun _ => 0))), (qm 118, .inl (ca 1, 2, .inl (fun _ => 0))), (qm 120, .inl (ca 1, 8000, .inl (fun _ => 0))), (qm 122, .inl (ca 1, 2, .inl (fun _ => 0))), (o, .inl (ca 2, 1, .inr (.inl (fun _ => 0)))), (xo, .inr (7, sF qs 0))] H := hP
  have hD : va_D A [(mo, .inr (0, mF qm 0)), (qm 1, .inr (1, [x0, x1, x2, x3, x4, x5, x6, x7])), (qm 2, .inr (2, [.ref qa, .int 0])), (qa, .inl (ca 0, 16, .inl (fun _ => 0))), (qm 12, .inl (ca 4, 148, .inr (.inr (.inr (.inr (fun _ => none)))))), (qm 110, .inl (ca 1, 2, .inl (fun _ => 0))), (qm 111, .inl (ca 2, 2, .inr (.inl (fun _ => 0)))), (qm 112, .inl (ca 1, 2, .inl (fun _ => 0))), (qm 113, .inl (ca 2, 2, .inr (.inl (fun _ => 0)))), (qm 114, .inl (ca 2, 2, .inr (.inl (fun _ => 0)))), (qm 117, .inl (ca 1, 2, .inl (fun _ => 0))), (qm 118, .inl (ca 1, 2, .inl (fun _ => 0))), (qm 120, .inl (ca 1, 8000, .inl (fun _ => 0))), (qm 122, .inl (ca 1, 2, .inl (fun _ => 0))), (o, .inl (ca 2, 1, .inr (.inl (fun _ => 0)))), (xo, .inr (7, sF qs 0))] := hD
  refine W.eq (g2 := F0 m 1312 ls [.int (cnV ((xs (Int32.toNatClampNeg 1))))]) rfl ?_
  refine lv_aload_n hx hb d_law_1312 rfl (lv_at hl 2 rfl) ?_
  refine lv_aload_n hx hb d_law_1313 rfl (lv_at hl 4 rfl) ?_
  refine lv_iload hx hb d_law_1314 (lv_at hl 0 rfl) ?_
  refine lv_iconst (v := 1) hx hb d_law_1316 (by decide) ?_
  refine lv_iadd hx hb d_law_1317 ?_
  refine lv_topi (fun z e9 => ?_)
  obtain rfl : z = 1 := by rw [e9]; decide
  refine va_sld hx hb hX hbl hbA hS (by unfold vp_in; decide) d_law_1318 ?_
  refine ax_Vb (Z := wm) (ci := 0) (q0 := 0) (k := 1) (As := [.int (xs (Int32.toNatClampNeg 1))]) (rest := [.int (cnV ((xs (Int32.toNatClampNeg 1))))]) (wr := [(qm 1, .inr (1, [x0, x1, x2, x3, x4, x5, x6, x7])), (qa, .inl (ca 0, 16, .inl (fun _ => 0))), (qm 12, .inl (ca 4, 148, .inr (.inr (.inr (.inr (fun _ => none)))))), (qm 110, .inl (ca 1, 2, .inl (fun _ => 0))), (qm 111, .inl (ca 2, 2, .inr (.inl (fun _ => 0)))), (qm 112, .inl (ca 1, 2, .inl (fun _ => 0))), (qm 113, .inl (ca 2, 2, .inr (.inl (fun _ => 0)))), (qm 114, .inl (ca 2, 2, .inr (.inl (fun _ => 0)))), (qm 118, .inl (ca 1, 2, .inl (fun _ => 0))), (qm 120, .inl (ca 1, 8000, .inl (fun _ => 0))), (qm 122, .inl (ca 1, 2, .inl (fun _ => 0))), (o, .inl (ca 2, 1, .inr (.inl (fun _ => 0)))), (xo, .inr (7, sF qs 0))]) rfl hx hb hml hown hts g_wm wm_lk (mK_bl dC dI ca) (c_MM_count l dC dI ca mo qm 0 qa ((xs (Int32.toNatClampNeg 1)))) xl_67 xm_329 xm_0 xm_331 xm_330 (by decide +kernel) rfl (Nat.le_of_ble_eq_true rfl) (Nat.le_of_ble_eq_true rfl) hl.1 (Nat.le_of_ble_eq_true rfl) (mK_up hKm) hKm.1 hP hD hS hA rfl rfl [0, 2, 10] [1, 3, 4, 5, 6, 7, 8, 9, 11, 12, 13, 14, 15] rfl (by decide) rfl rfl (by decide) (by decide) (Nat.le_of_ble_eq_true rfl) (Nat.le_of_ble_eq_true rfl) d_law_1319 (fun v u H locs hp hP hD hS => ?_)
  obtain rfl : v = some (.int (cnV ((xs (Int32.toNatClampNeg 1))))) := hp
  have hP : va_P (dC, dI) classes [(qm 1, .inr (1, [x0, x1, x2, x3, x4, x5, x6, x7])), (qa, .inl (ca 0, 16, .inl (fun _ => 0))), (qm 12, .inl (ca 4, 148, .inr (.inr (.inr (.inr (fun _ => none)))))), (qm 110, .inl (ca 1, 2, .inl (fun _ => 0))), (qm 111, .inl (ca 2, 2, .inr (.inl (fun _ => 0)))), (qm 112, .inl (ca 1, 2, .inl (fun _ => 0))), (qm 113, .inl (ca 2, 2, .inr (.inl (fun _ => 0)))), (qm 114, .inl (ca 2, 2, .inr (.inl (fun _ => 0)))), (qm 118, .inl (ca 1, 2, .inl (fun _ => 0))), (qm 120, .inl (ca 1, 8000, .inl (fun _ => 0))), (qm 122, .inl (ca 1, 2, .inl (fun _ => 0))), (o, .inl (ca 2, 1, .inr (.inl (fun _ => 0)))), (xo, .inr (7, sF qs 0)), (mo, .inr (0, mF qm 0))] H := hP
  have hD : va_D A [(qm 1, .inr (1, [x0, x1, x2, x3, x4, x5, x6, x7])), (qa, .inl (ca 0, 16, .inl (fun _ => 0))), (qm 12, .inl (ca 4, 148, .inr (.inr (.inr (.inr (fun _ => none)))))), (qm 110, .inl (ca 1, 2, .inl (fun _ => 0))), (qm 111, .inl (ca 2, 2, .inr (.inl (fun _ => 0)))), (qm 112, .inl (ca 1, 2, .inl (fun _ => 0))), (qm 113, .inl (ca 2, 2, .inr (.inl (fun _ => 0)))), (qm 114, .inl (ca 2, 2, .inr (.inl (fun _ => 0)))), (qm 118, .inl (ca 1, 2, .inl (fun _ => 0))), (qm 120, .inl (ca 1, 8000, .inl (fun _ => 0))), (qm 122, .inl (ca 1, 2, .inl (fun _ => 0))), (o, .inl (ca 2, 1, .inr (.inl (fun _ => 0)))), (xo, .inr (7, sF qs 0)), (mo, .inr (0, mF qm 0))] := hD
  refine W.eq (g2 := F0 m 1322 ls [.int (cnV ((xs (Int32.toNatClampNeg 1)))), .int (cnV ((xs (Int32.toNatClampNeg 1))))]) rfl ?_
  refine lv_icmp_eq (tgt := 1327) hx hb d_law_1322 (by decide) (fun _ => ?_) (fun h => absurd rfl h)
  refine W.widen (k := 300) (n := 650000) (Nat.le_of_ble_eq_true rfl) (Nat.le_of_ble_eq_true rfl) ?_
  exact kk H locs ls hS (lv_sub hl [0, 4] rfl)
