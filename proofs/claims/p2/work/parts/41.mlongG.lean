theorem d_MB_addLong_0 : decode b_MB_addLong 0 = .ok (.iload_n 3, 1) := by decide +kernel
theorem d_MB_addLong_1 : decode b_MB_addLong 1 = .ok (.iconst 1, 1) := by decide +kernel
theorem d_MB_addLong_2 : decode b_MB_addLong 2 = .ok (.isub, 1) := by decide +kernel
theorem d_MB_addLong_3 : decode b_MB_addLong 3 = .ok (.istore 4, 2) := by decide +kernel
theorem d_MB_addLong_5 : decode b_MB_addLong 5 = .ok (.iload 4, 2) := by decide +kernel
theorem d_MB_addLong_7 : decode b_MB_addLong 7 = .ok (.ifCond .lt 21, 3) := by decide +kernel
theorem d_MB_addLong_10 : decode b_MB_addLong 10 = .ok (.aload_n 0, 1) := by decide +kernel
theorem d_MB_addLong_11 : decode b_MB_addLong 11 = .ok (.lload_n 1, 1) := by decide +kernel
theorem d_MB_addLong_12 : decode b_MB_addLong 12 = .ok (.bipush 8, 2) := by decide +kernel
theorem d_MB_addLong_14 : decode b_MB_addLong 14 = .ok (.iload 4, 2) := by decide +kernel
theorem d_MB_addLong_16 : decode b_MB_addLong 16 = .ok (.imul, 1) := by decide +kernel
theorem d_MB_addLong_17 : decode b_MB_addLong 17 = .ok (.lshr, 1) := by decide +kernel
theorem d_MB_addLong_18 : decode b_MB_addLong 18 = .ok (.l2i, 1) := by decide +kernel
theorem d_MB_addLong_19 : decode b_MB_addLong 19 = .ok (.invokevirtual 17, 3) := by decide +kernel
theorem d_MB_addLong_22 : decode b_MB_addLong 22 = .ok (.iinc 4 (-1), 3) := by decide +kernel
theorem d_MB_addLong_25 : decode b_MB_addLong 25 = .ok (.goto (-20), 3) := by decide +kernel
theorem d_MB_addLong_28 : decode b_MB_addLong 28 = .ok (.return_, 1) := by decide +kernel
theorem d_MM_feed_0 : decode b_MM_feed 0 = .ok (.aload_n 0, 1) := by decide +kernel
theorem d_MM_feed_1 : decode b_MM_feed 1 = .ok (.iconst 0, 1) := by decide +kernel
theorem d_MM_feed_2 : decode b_MM_feed 2 = .ok (.putfield 343, 3) := by decide +kernel
theorem d_MM_feed_5 : decode b_MM_feed 5 = .ok (.iload_n 3, 1) := by decide +kernel
theorem d_MM_feed_6 : decode b_MM_feed 6 = .ok (.i2l, 1) := by decide +kernel
theorem d_MM_feed_7 : decode b_MM_feed 7 = .ok (.lconst 1, 1) := by decide +kernel
theorem d_MM_feed_8 : decode b_MM_feed 8 = .ok (.ldc2_w 347, 3) := by decide +kernel
theorem d_MM_feed_11 : decode b_MM_feed 11 = .ok (.invokestatic 349, 3) := by decide +kernel
theorem d_MM_feed_14 : decode b_MM_feed 14 = .ok (.ifCond .eq 18, 3) := by decide +kernel
theorem d_MM_feed_17 : decode b_MM_feed 17 = .ok (.aload_n 0, 1) := by decide +kernel
theorem d_MM_feed_18 : decode b_MM_feed 18 = .ok (.getfield 19, 3) := by decide +kernel
theorem d_MM_feed_21 : decode b_MM_feed 21 = .ok (.getfield 353, 3) := by decide +kernel
theorem d_MM_feed_24 : decode b_MM_feed 24 = .ok (.iload_n 3, 1) := by decide +kernel
theorem d_MM_feed_25 : decode b_MM_feed 25 = .ok (.iadd, 1) := by decide +kernel
theorem d_MM_feed_26 : decode b_MM_feed 26 = .ok (.ldc_w 356, 3) := by decide +kernel
theorem d_MM_feed_29 : decode b_MM_feed 29 = .ok (.if_icmp .le 5, 3) := by decide +kernel
theorem d_MM_feed_32 : decode b_MM_feed 32 = .ok (.iconst (-1), 1) := by decide +kernel
theorem d_MM_feed_33 : decode b_MM_feed 33 = .ok (.ireturn, 1) := by decide +kernel
theorem d_MM_feed_34 : decode b_MM_feed 34 = .ok (.aload_n 0, 1) := by decide +kernel
theorem d_MM_feed_35 : decode b_MM_feed 35 = .ok (.getfield 19, 3) := by decide +kernel
theorem d_MM_feed_38 : decode b_MM_feed 38 = .ok (.lload_n 1, 1) := by decide +kernel
theorem d_MM_feed_39 : decode b_MM_feed 39 = .ok (.iload_n 3, 1) := by decide +kernel
theorem d_MM_feed_40 : decode b_MM_feed 40 = .ok (.invokevirtual 357, 3) := by decide +kernel
theorem d_MM_feed_43 : decode b_MM_feed 43 = .ok (.aload_n 0, 1) := by decide +kernel
theorem d_MM_feed_44 : decode b_MM_feed 44 = .ok (.getfield 19, 3) := by decide +kernel
theorem d_MM_feed_47 : decode b_MM_feed 47 = .ok (.getfield 353, 3) := by decide +kernel
theorem d_MM_feed_50 : decode b_MM_feed 50 = .ok (.ireturn, 1) := by decide +kernel
set_option maxHeartbeats 4000000 in
/-- j bytes are still to come, and there is room -/
theorem l0_MB_addLong (l : Launch) (dC : Nat → ClassId) (dI : Nat → Nat → Nat) (ca : Nat → ClassId) (h0 : Nat) (x : Int64) (n3 : Int32) {p : Program} {e : Env} {R : Room} {s : State} {m : MethodId} {args : Array Value} {below : List Frame} {meth : Method} {c : Code} {A : Nat → Prop} {Q : State → Prop}
    (hx : p.tables.exec = Jvm.exec) (hb : c.code = b_MB_addLong) (hml : c.maxLocals = 5) (hown : s.vm.findClass R_MB = some m.cls) (hts : ∀ w ∈ wm, w.before args s = true) (hK : mK dC dI ca s) (hA : ∀ q, s.heap.size ≤ q → A q) (hfr : 1 ≤ R.frames) (hlo : 23 ≤ R.locals) :
    ∀ (j : Nat) (qa N k : Nat) (f : Nat → Int32) (H : Heap) (locs : List Loc) (ls : Array Slot) (cells slots : Nat), k + j ≤ N → j ≤ 8 → N < 2 ^ 29 → cells ≤ R.cells → slots ≤ R.slots → va_P (dC, dI) classes [(h0, .inr (2, [.ref qa, .int (nI k)])), (qa, .inl (ca 0, N, .inl f))] H → va_D A [(h0, .inr (2, [.ref qa, .int (nI k)])), (qa, .inl (ca 0, N, .inl f))] → va_S A s.heap H locs → lv_has ls 5 [(4, .int (nI j - 1)), (0, .ref h0), (1, .long x), (3, .int n3)] →
      (∀ (f : Nat → Int32) (H : Heap) (locs : List Loc) (ls : Array Slot), va_P (dC, dI) classes [(h0, .inr (2, [.ref qa, .int (nI (k + j))])), (qa, .inl (ca 0, N, .inl f))] H → va_D A [(h0, .inr (2, [.ref qa, .int (nI (k + j))])), (qa, .inl (ca 0, N, .inl f))] → va_S A s.heap H locs → W p l e R s m args below meth c H locs cells slots Q (F0 m 28 ls [])) → W p l e R s m args below meth c H locs cells slots Q (F0 m 5 ls []) := by
  intro j
  induction j with
  | zero =>
    intro qa N k f H locs ls cells slots hj h8 hN hc hs hP hD hS hl kk
    refine lv_iload hx hb d_MB_addLong_5 (lv_at hl 0 rfl) ?_
    refine lv_if_lt (tgt := 28) hx hb d_MB_addLong_7 (by decide) (fun _ => ?_) (fun h => absurd (by decide) h)
    exact kk f H locs ls hP hD hS
  | succ j ih =>
    intro qa N k f H locs ls cells slots hj h8 hN hc hs hP hD hS hl kk
    have e1 : nI (j + 1) - 1 = nI j := nI_pred j
    rw [e1] at hl
    refine lv_iload hx hb d_MB_addLong_5 (lv_at hl 0 rfl) ?_
    refine lv_if_lt (tgt := 28) hx hb d_MB_addLong_7 (by decide) (fun h => absurd h (nI_pos (by omega))) (fun _ => ?_)
    refine lv_aload_n hx hb d_MB_addLong_10 rfl (lv_at hl 1 rfl) ?_
    refine lv_lload_n hx hb d_MB_addLong_11 rfl (lv_at hl 2 rfl) ?_
    refine lv_bipush (v := 8) hx hb d_MB_addLong_12 (by decide +kernel) ?_
    refine lv_iload hx hb d_MB_addLong_14 (lv_at hl 0 rfl) ?_
    refine lv_imul hx hb d_MB_addLong_16 ?_
    refine lv_lshr hx hb d_MB_addLong_17 rfl ?_
    refine lv_l2i hx hb d_MB_addLong_18 rfl ?_
    refine lv_topi (fun z _ => ?_)
    refine ax_V (ci := 2) (q0 := 0) (k := 1) (As := [.int z]) (rest := []) (wr := []) rfl hx hb hml hown hts g_wm (mK_bl dC dI ca) (e_MB_add l dC dI ca h0 qa N k f (by omega) hN z) xm_187 xm_188 xm_2 xm_190 xm_189 (by decide +kernel) rfl hfr hlo hl.1 (Nat.le_of_ble_eq_true rfl) (mK_up hK) hK.1 hP hD hS hA rfl rfl [0, 1] [] rfl (by decide) rfl rfl (by decide) (by decide) hc hs d_MB_addLong_19 (fun v f2 H locs hp hP hD hS => ?_)
    obtain rfl : v = none := hp
    have hP : va_P (dC, dI) classes [(h0, .inr (2, [.ref qa, .int (nI (k + 1))])), (qa, .inl (ca 0, N, .inl f2))] H := hP
    have hD : va_D A [(h0, .inr (2, [.ref qa, .int (nI (k + 1))])), (qa, .inl (ca 0, N, .inl f2))] := hD
    refine W.eq (g2 := F0 m 22 ls []) rfl ?_
    refine lv_iinc (v := nI j - 1) (lv' := [(4, .int (nI j - 1)), (0, .ref h0), (1, .long x), (3, .int n3)]) hx hb d_MB_addLong_22 hl (k := 0) rfl (by rw [Int32.sub_eq_add_neg]; rfl) (by decide) rfl (fun ls hl => ?_)
    refine lv_goto (tgt := 5) hx hb d_MB_addLong_25 (by decide) ?_
    refine ih qa N (k + 1) f2 H locs ls cells slots (by omega) (by omega) hN hc hs hP hD hS hl ?_
    have e2 : k + (j + 1) = k + 1 + j := by omega
    rw [e2] at kk
    exact kk
set_option maxHeartbeats 4000000 in
/-- .. and there is not: the tape gets twice the room -/
theorem l1_MB_addLong (l : Launch) (dC : Nat → ClassId) (dI : Nat → Nat → Nat) (ca : Nat → ClassId) (h0 : Nat) (x : Int64) (n3 : Int32) {p : Program} {e : Env} {R : Room} {s : State} {m : MethodId} {args : Array Value} {below : List Frame} {meth : Method} {c : Code} {A : Nat → Prop} {Q : State → Prop}
    (hx : p.tables.exec = Jvm.exec) (hb : c.code = b_MB_addLong) (hml : c.maxLocals = 5) (hown : s.vm.findClass R_MB = some m.cls) (hts : ∀ w ∈ wm, w.before args s = true) (hK : mK dC dI ca s) (hA : ∀ q, s.heap.size ≤ q → A q) (hfr : 1 ≤ R.frames) (hlo : 23 ≤ R.locals) :
    ∀ (j : Nat) (qa N k : Nat) (f : Nat → Int32) (H : Heap) (locs : List Loc) (ls : Array Slot) (cells slots : Nat), k ≤ N → N < k + j → j ≤ 8 → 8 ≤ N → N < 2 ^ 28 → cells + 1 ≤ R.cells → slots + 2 * N ≤ R.slots → va_P (dC, dI) classes [(h0, .inr (2, [.ref qa, .int (nI k)])), (qa, .inl (ca 0, N, .inl f))] H → va_D A [(h0, .inr (2, [.ref qa, .int (nI k)])), (qa, .inl (ca 0, N, .inl f))] → va_S A s.heap H locs → lv_has ls 5 [(4, .int (nI j - 1)), (0, .ref h0), (1, .long x), (3, .int n3)] →
      (∀ (qm : Nat) (f : Nat → Int32) (H : Heap) (locs : List Loc) (ls : Array Slot), va_P (dC, dI) classes [(h0, .inr (2, [.ref qm, .int (nI (k + j))])), (qm, .inl (ca 0, (2 * N), .inl f))] H → va_D A [(h0, .inr (2, [.ref qm, .int (nI (k + j))])), (qm, .inl (ca 0, (2 * N), .inl f))] → va_S A s.heap H locs → W p l e R s m args below meth c H locs (cells + 1) (slots + 2 * N) Q (F0 m 28 ls [])) → W p l e R s m args below meth c H locs cells slots Q (F0 m 5 ls []) := by
  intro j
  induction j with
  | zero =>
    intro qa N k f H locs ls cells slots hk hj
    omega
  | succ j ih =>
    intro qa N k f H locs ls cells slots hk hj h8 hN8 hN hc hs hP hD hS hl kk
    have e1 : nI (j + 1) - 1 = nI j := nI_pred j
    rw [e1] at hl
    refine lv_iload hx hb d_MB_addLong_5 (lv_at hl 0 rfl) ?_
    refine lv_if_lt (tgt := 28) hx hb d_MB_addLong_7 (by decide) (fun h => absurd h (nI_pos (by omega))) (fun _ => ?_)
    refine lv_aload_n hx hb d_MB_addLong_10 rfl (lv_at hl 1 rfl) ?_
    refine lv_lload_n hx hb d_MB_addLong_11 rfl (lv_at hl 2 rfl) ?_
    refine lv_bipush (v := 8) hx hb d_MB_addLong_12 (by decide +kernel) ?_
    refine lv_iload hx hb d_MB_addLong_14 (lv_at hl 0 rfl) ?_
    refine lv_imul hx hb d_MB_addLong_16 ?_
    refine lv_lshr hx hb d_MB_addLong_17 rfl ?_
    refine lv_l2i hx hb d_MB_addLong_18 rfl ?_
    refine lv_topi (fun z _ => ?_)
    by_cases hkN : k < N
    · refine ax_V (ci := 2) (q0 := 0) (k := 1) (As := [.int z]) (rest := []) (wr := []) rfl hx hb hml hown hts g_wm (mK_bl dC dI ca) (e_MB_add l dC dI ca h0 qa N k f hkN (by omega) z) xm_187 xm_188 xm_2 xm_190 xm_189 (by decide +kernel) rfl hfr hlo hl.1 (Nat.le_of_ble_eq_true rfl) (mK_up hK) hK.1 hP hD hS hA rfl rfl [0, 1] [] rfl (by decide) rfl rfl (by decide) (by decide) (by omega) (by omega) d_MB_addLong_19 (fun v f2 H locs hp hP hD hS => ?_)
      obtain rfl : v = none := hp
      have hP : va_P (dC, dI) classes [(h0, .inr (2, [.ref qa, .int (nI (k + 1))])), (qa, .inl (ca 0, N, .inl f2))] H := hP
      have hD : va_D A [(h0, .inr (2, [.ref qa, .int (nI (k + 1))])), (qa, .inl (ca 0, N, .inl f2))] := hD
      refine W.eq (g2 := F0 m 22 ls []) rfl ?_
      refine lv_iinc (v := nI j - 1) (lv' := [(4, .int (nI j - 1)), (0, .ref h0), (1, .long x), (3, .int n3)]) hx hb d_MB_addLong_22 hl (k := 0) rfl (by rw [Int32.sub_eq_add_neg]; rfl) (by decide) rfl (fun ls hl => ?_)
      refine lv_goto (tgt := 5) hx hb d_MB_addLong_25 (by decide) ?_
      refine ih qa N (k + 1) f2 H locs ls cells slots (by omega) (by omega) (by omega) hN8 hN hc hs hP hD hS hl ?_
      have e2 : k + (j + 1) = k + 1 + j := by omega
      rw [e2] at kk
      exact kk
    · obtain rfl : k = N := by omega
      refine ax_V (ci := 2) (q0 := 0) (k := 1) (As := [.int z]) (rest := []) (wr := []) rfl hx hb hml hown hts g_wm (mK_bl dC dI ca) (ef_MB_add l dC dI ca h0 qa k f (by omega) hN z) xm_187 xm_188 xm_2 xm_190 xm_189 (by decide +kernel) rfl hfr hlo hl.1 (Nat.le_of_ble_eq_true rfl) (mK_up hK) hK.1 hP hD hS hA rfl rfl [0, 1] [] rfl (by decide) rfl rfl (by decide) (by decide) hc hs d_MB_addLong_19 (fun v u H locs hp hP hD hS => ?_)
      obtain rfl : v = none := hp
      obtain ⟨qm, f2⟩ := u
      have hP : va_P (dC, dI) classes [(h0, .inr (2, [.ref qm, .int (nI (k + 1))])), (qm, .inl (ca 0, (2 * k), .inl f2))] H := hP
      have hD : va_D A [(h0, .inr (2, [.ref qm, .int (nI (k + 1))])), (qm, .inl (ca 0, (2 * k), .inl f2))] := hD
      refine W.eq (g2 := F0 m 22 ls []) rfl ?_
      refine lv_iinc (v := nI j - 1) (lv' := [(4, .int (nI j - 1)), (0, .ref h0), (1, .long x), (3, .int n3)]) hx hb d_MB_addLong_22 hl (k := 0) rfl (by rw [Int32.sub_eq_add_neg]; rfl) (by decide) rfl (fun ls hl => ?_)
      refine lv_goto (tgt := 5) hx hb d_MB_addLong_25 (by decide) ?_
      refine l0_MB_addLong l dC dI ca h0 x n3 hx hb hml hown hts hK hA hfr hlo j qm (2 * k) (k + 1) f2 H locs ls (cells + 1) (slots + 2 * k) (by omega) (by omega) (by omega) hc hs hP hD hS hl ?_
      intro f H locs ls hP hD hS
      have e2 : k + 1 + j = k + (j + 1) := by omega
      rw [e2] at hP hD
      exact kk qm f H locs ls hP hD hS
set_option maxHeartbeats 4000000 in
theorem e_MB_addLong (l : Launch) (dC : Nat → ClassId) (dI : Nat → Nat → Nat) (ca : Nat → ClassId) (h0 qa N k n : Nat) (f : Nat → Int32) (x : Int64) (hk : k + n ≤ N) (hn : n ≤ 8) (hN8 : 8 ≤ N) (hN : N < 2 ^ 28) : CT l classes (dC, dI) (mK dC dI ca) wm y_MB_addLong b_MB_addLong 5 none 1 23 0 0 [.ref h0, .long x, .int (nI n)] [(h0, .inr (2, [.ref qa, .int (nI k)])), (qa, .inl (ca 0, N, .inl f))] (fun (v : Option Value) (_ : Nat → Int32) => v = none) (fun (u : Nat → Int32) => [(h0, .inr (2, [.ref qa, .int (nI (k + n))])), (qa, .inl (ca 0, N, .inl u))]) := by
  refine ax_of (by decide) (Nat.le_of_ble_eq_true rfl) ?_
  intro p e s m below meth c A ls hAt hK hP hD hS hA hl
  obtain ⟨hx, hb, hr, hml, hown, hts, hlocks, hin⟩ := hAt
  have hl : lv_has ls 5 [(0, .ref h0), (1, .long x), (3, .int (nI n))] := hl
  refine lv_iload_n hx hb d_MB_addLong_0 rfl (lv_at hl 2 rfl) ?_
  refine lv_iconst (v := 1) hx hb d_MB_addLong_1 (by decide) ?_
  refine lv_isub hx hb d_MB_addLong_2 ?_
  refine lv_istore (lv' := [(4, .int (nI n - 1)), (0, .ref h0), (1, .long x), (3, .int (nI n))]) hx hb d_MB_addLong_3 hl (by decide) rfl (fun ls hl => ?_)
  refine l0_MB_addLong l dC dI ca h0 x (nI n) hx hb hml hown hts hK hA (Nat.le_of_ble_eq_true rfl) (Nat.le_of_ble_eq_true rfl) n qa N k f s.heap [] ls 0 0 hk hn (by omega) (Nat.zero_le _) (Nat.zero_le _) hP hD hS hl ?_
  intro f2 H locs ls hP hD hS
  exact ax_vret hx hb hr hlocks hP hD hS f2 rfl [0, 1] rfl (by decide) rfl (Nat.le_refl _) (Nat.le_refl _) d_MB_addLong_28
set_option maxHeartbeats 4000000 in
theorem ef_MB_addLong (l : Launch) (dC : Nat → ClassId) (dI : Nat → Nat → Nat) (ca : Nat → ClassId) (h0 qa N k n : Nat) (f : Nat → Int32) (x : Int64) (hk : k ≤ N) (hk2 : N < k + n) (hn : n ≤ 8) (hN8 : 8 ≤ N) (hN : N < 2 ^ 28) : CT l classes (dC, dI) (mK dC dI ca) wm y_MB_addLong b_MB_addLong 5 none 1 23 1 (2 * N) [.ref h0, .long x, .int (nI n)] [(h0, .inr (2, [.ref qa, .int (nI k)])), (qa, .inl (ca 0, N, .inl f))] (fun (v : Option Value) (_ : Nat × (Nat → Int32)) => v = none) (fun (u : Nat × (Nat → Int32)) => [(h0, .inr (2, [.ref u.1, .int (nI (k + n))])), (u.1, .inl (ca 0, (2 * N), .inl u.2))]) := by
  refine ax_of (by decide) (Nat.le_of_ble_eq_true rfl) ?_
  intro p e s m below meth c A ls hAt hK hP hD hS hA hl
  obtain ⟨hx, hb, hr, hml, hown, hts, hlocks, hin⟩ := hAt
  have hl : lv_has ls 5 [(0, .ref h0), (1, .long x), (3, .int (nI n))] := hl
  refine lv_iload_n hx hb d_MB_addLong_0 rfl (lv_at hl 2 rfl) ?_
  refine lv_iconst (v := 1) hx hb d_MB_addLong_1 (by decide) ?_
  refine lv_isub hx hb d_MB_addLong_2 ?_
  refine lv_istore (lv' := [(4, .int (nI n - 1)), (0, .ref h0), (1, .long x), (3, .int (nI n))]) hx hb d_MB_addLong_3 hl (by decide) rfl (fun ls hl => ?_)
  refine l1_MB_addLong l dC dI ca h0 x (nI n) hx hb hml hown hts hK hA (Nat.le_of_ble_eq_true rfl) (Nat.le_of_ble_eq_true rfl) n qa N k f s.heap [] ls 0 0 hk hk2 hn hN8 hN (by show 0 + 1 ≤ 1; omega) (by show 0 + 2 * N ≤ 2 * N; omega) hP hD hS hl ?_
  intro qm f2 H locs ls hP hD hS
  refine W.widen (k := 1) (n := 2 * N) (by omega) (by omega) ?_
  exact ax_vret hx hb hr hlocks hP hD hS (qm, f2) rfl [0, 1] rfl (by decide) rfl (Nat.le_refl _) (Nat.le_refl _) d_MB_addLong_28
