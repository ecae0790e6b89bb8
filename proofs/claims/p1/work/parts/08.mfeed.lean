theorem d_MB_add_0 : decode b_MB_add 0 = .ok (.aload_n 0, 1) := by decide +kernel
theorem d_MB_add_1 : decode b_MB_add 1 = .ok (.getfield 13, 3) := by decide +kernel
theorem d_MB_add_4 : decode b_MB_add 4 = .ok (.aload_n 0, 1) := by decide +kernel
theorem d_MB_add_5 : decode b_MB_add 5 = .ok (.getfield 7, 3) := by decide +kernel
theorem d_MB_add_8 : decode b_MB_add 8 = .ok (.arraylength, 1) := by decide +kernel
theorem d_MB_add_9 : decode b_MB_add 9 = .ok (.if_icmp .ne 42, 3) := by decide +kernel
theorem d_MB_add_51 : decode b_MB_add 51 = .ok (.aload_n 0, 1) := by decide +kernel
theorem d_MB_add_52 : decode b_MB_add 52 = .ok (.getfield 7, 3) := by decide +kernel
theorem d_MB_add_55 : decode b_MB_add 55 = .ok (.aload_n 0, 1) := by decide +kernel
theorem d_MB_add_56 : decode b_MB_add 56 = .ok (.getfield 13, 3) := by decide +kernel
theorem d_MB_add_59 : decode b_MB_add 59 = .ok (.iload_n 1, 1) := by decide +kernel
theorem d_MB_add_60 : decode b_MB_add 60 = .ok (.i2b, 1) := by decide +kernel
theorem d_MB_add_61 : decode b_MB_add 61 = .ok (.bastore, 1) := by decide +kernel
theorem d_MB_add_62 : decode b_MB_add 62 = .ok (.aload_n 0, 1) := by decide +kernel
theorem d_MB_add_63 : decode b_MB_add 63 = .ok (.dup, 1) := by decide +kernel
theorem d_MB_add_64 : decode b_MB_add 64 = .ok (.getfield 13, 3) := by decide +kernel
theorem d_MB_add_67 : decode b_MB_add 67 = .ok (.iconst 1, 1) := by decide +kernel
theorem d_MB_add_68 : decode b_MB_add 68 = .ok (.iadd, 1) := by decide +kernel
theorem d_MB_add_69 : decode b_MB_add 69 = .ok (.putfield 13, 3) := by decide +kernel
theorem d_MB_add_72 : decode b_MB_add 72 = .ok (.return_, 1) := by decide +kernel
theorem nI_ne16 {k : Nat} (hk : k < 16) : nI k ≠ 16 := fun h => by
  have := (nI_eq (a := k) (b := 16) (by omega) (by omega)).mp h
  omega
set_option maxHeartbeats 4000000 in
theorem c_MB_add (l : Launch) (dC : Nat → ClassId) (dI : Nat → Nat → Nat) (ca : Nat → ClassId) (h0 qa : Nat) (f : Nat → Int32) (k : Nat) (hk : k < 16) (x : Int32) : CT l classes (dC, dI) (mK dC dI ca) wm y_MB_add b_MB_add 4 none 0 0 0 0 [.ref h0, .int x] [(h0, .inr (2, [.ref qa, .int (nI k)])), (qa, .inl (ca 0, 16, .inl f))] (fun (v : Option Value) (_ : Nat → Int32) => v = none) (fun (f2 : Nat → Int32) => [(h0, .inr (2, [.ref qa, .int (nI (k + 1))])), (qa, .inl (ca 0, 16, .inl f2))]) := by
  refine ax_of (by decide) (Nat.le_of_ble_eq_true rfl) ?_
  intro p e s m below meth c A ls hAt hK hP hD hS hA hl
  obtain ⟨hx, hb, hr, hml, hown, hts, hlocks, hin⟩ := hAt
  have hl : lv_has ls 4 [(0, .ref h0), (1, .int x)] := hl
  refine lv_aload_n hx hb d_MB_add_0 rfl (lv_at hl 0 rfl) ?_
  refine va_get (D := (dC, dI)) (ci := 2) (v := .int (nI k)) (C := R_MB) (T := F_MB) (N := 2) hx hb hts i_MB hown hK.1 hP 0 rfl rfl 1 (by decide) (hts _ xm_31) (fun _ h9 => h9) rfl d_MB_add_1 ?_
  refine lv_aload_n hx hb d_MB_add_4 rfl (lv_at hl 0 rfl) ?_
  refine va_get (D := (dC, dI)) (ci := 2) (v := .ref qa) (C := R_MB) (T := F_MB) (N := 2) hx hb hts i_MB hown hK.1 hP 0 rfl rfl 0 (by decide) (hts _ xm_30) (fun _ h9 => h9) rfl d_MB_add_5 ?_
  refine va_alen hx hb hK.1 hP 1 0 rfl rfl (v := 16) rfl d_MB_add_8 ?_
  refine lv_icmp_ne (tgt := 51) hx hb d_MB_add_9 (by decide) (fun _ => ?_) (fun h => absurd h (nI_ne16 hk))
  refine lv_aload_n hx hb d_MB_add_51 rfl (lv_at hl 0 rfl) ?_
  refine va_get (D := (dC, dI)) (ci := 2) (v := .ref qa) (C := R_MB) (T := F_MB) (N := 2) hx hb hts i_MB hown hK.1 hP 0 rfl rfl 0 (by decide) (hts _ xm_30) (fun _ h9 => h9) rfl d_MB_add_52 ?_
  refine lv_aload_n hx hb d_MB_add_55 rfl (lv_at hl 0 rfl) ?_
  refine va_get (D := (dC, dI)) (ci := 2) (v := .int (nI k)) (C := R_MB) (T := F_MB) (N := 2) hx hb hts i_MB hown hK.1 hP 0 rfl rfl 1 (by decide) (hts _ xm_31) (fun _ h9 => h9) rfl d_MB_add_56 ?_
  refine lv_iload_n hx hb d_MB_add_59 rfl (lv_at hl 1 rfl) ?_
  refine lv_i2b hx hb d_MB_add_60 rfl ?_
  refine va_bast hx hb hK.1 hP hD hS 1 0 rfl rfl (vp_in_nI hk (by omega)) d_MB_add_61 (fun H locs hP hD hS => ?_)
  generalize upd f (nI k).toNatClampNeg (vp_nar .byte x.toInt8.toInt32) = f2 at hP hD
  have hP : va_P (dC, dI) classes [(h0, .inr (2, [.ref qa, .int (nI k)])), (qa, .inl (ca 0, 16, .inl f2))] H := hP
  have hD : va_D A [(h0, .inr (2, [.ref qa, .int (nI k)])), (qa, .inl (ca 0, 16, .inl f2))] := hD
  refine lv_aload_n hx hb d_MB_add_62 rfl (lv_at hl 0 rfl) ?_
  refine lv_dup hx hb d_MB_add_63 rfl ?_
  refine va_get (D := (dC, dI)) (ci := 2) (v := .int (nI k)) (C := R_MB) (T := F_MB) (N := 2) hx hb hts i_MB hown hK.1 hP 0 rfl rfl 1 (by decide) (hts _ xm_31) (fun _ h9 => h9) rfl d_MB_add_64 ?_
  refine lv_iconst (v := 1) hx hb d_MB_add_67 (by decide) ?_
  refine lv_iadd hx hb d_MB_add_68 ?_
  refine lv_topi (fun z e9 => ?_)
  obtain rfl : z = nI (k + 1) := by rw [e9]; exact nI_1 k
  refine va_put (D := (dC, dI)) (ci := 2) (v := .int (nI (k + 1))) (ty := .int) (C := R_MB) (T := F_MB) (N := 2) hx hb hts i_MB t_MB t_MB_ok n_MB hown hK.1 hP hD hS 0 rfl rfl 1 (by decide) (hts _ xm_31) (fun _ h9 => h9) rfl (by decide +kernel) rfl rfl (Nat.le_of_ble_eq_true rfl) d_MB_add_69 (fun H locs hP hD hS => ?_)
  have hP : va_P (dC, dI) classes [(h0, .inr (2, [.ref qa, .int (nI (k + 1))])), (qa, .inl (ca 0, 16, .inl f2))] H := hP
  have hD : va_D A [(h0, .inr (2, [.ref qa, .int (nI (k + 1))])), (qa, .inl (ca 0, 16, .inl f2))] := hD
  exact ax_vret hx hb hr hlocks hP hD hS f2 rfl [0, 1] rfl (by decide) rfl (Nat.le_refl _) (Nat.le_refl _) d_MB_add_72
theorem d_MB_addLong_0 : decode b_MB_addLong 0 = .ok (.iload_n 3, 1) := by decide +kernel
theorem d_MB_addLong_1 : decode b_MB_addLong 1 = .ok (.iconst 1, 1) := by decide +kernel
theorem d_MB_addLong_2 : decode b_MB_addLong 2 = .ok (.isub, 1) := by decide +kernel
theorem d_MB_addLong_3 : decode b_MB_addLong 3 = .ok (.istore 4, 2) := by decide +kernel
theorem d_MB_addLong_5 : decode b_MB_addLong 5 = .ok (.iload 4, 2) := by decide +kernel
theorem d_MB_addLong_7 : decode b_MB_addLong 7 = .ok (.ifCond .lt 21, 3) := by decide +kernel
theorem d_MB_addLong_10 : decode b_MB_addLong 10 = .ok (.aload_n 0, 1) := by decide +kernel
theorem d_MB_addLong_11 : decode b_MB_addLong 11 = .ok (.lload_n 1, 1) := by decide +kernel
theorem d_MB_addLong_12 : decode b_MB_addLong 12 = .ok (.bipush 8, 2) := by decide +kernel
theorem d_MB_addLong_14 : decode b_MB_addLong 14 = .ok (.iload 4, 2) := by decide +kernel
theorem d_MB_addLong_16 : decode b_MB_addLong 16 = .ok (.imul, 1) := by decide +kernel
theorem d_MB_addLong_17 : decode b_MB_addLong 17 = .ok (.lshr, 1) := by decide +kernel
theorem d_MB_addLong_18 : decode b_MB_addLong 18 = .ok (.l2i, 1) := by decide +kernel
theorem d_MB_addLong_19 : decode b_MB_addLong 19 = .ok (.invokevirtual 17, 3) := by decide +kernel
theorem d_MB_addLong_22 : decode b_MB_addLong 22 = .ok (.iinc 4 (-1), 3) := by decide +kernel
theorem d_MB_addLong_25 : decode b_MB_addLong 25 = .ok (.goto (-20), 3) := by decide +kernel
theorem d_MB_addLong_28 : decode b_MB_addLong 28 = .ok (.return_, 1) := by decide +kernel
set_option maxHeartbeats 4000000 in
/-- the loop of addLong: j bytes are still to come -/
theorem lp_MB_addLong (l : Launch) (dC : Nat → ClassId) (dI : Nat → Nat → Nat) (ca : Nat → ClassId) (h0 qa : Nat) (x : Int64) (n : Nat) (hn : n ≤ 8) {p : Program} {e : Env} {R : Room} {s : State} {m : MethodId} {args : Array Value} {below : List Frame} {meth : Method} {c : Code} {A : Nat → Prop} {Q : State → Prop} {n3 : Int32}
    (hx : p.tables.exec = Jvm.exec) (hb : c.code = b_MB_addLong) (hml : c.maxLocals = 5) (hown : s.vm.findClass R_MB = some m.cls) (hts : ∀ w ∈ wm, w.before args s = true) (hK : mK dC dI ca s) (hA : ∀ q, s.heap.size ≤ q → A q) (hfr : 1 ≤ R.frames) (hlo : 23 ≤ R.locals)
    (kk : ∀ (f : Nat → Int32) (H : Heap) (locs : List Loc) (ls : Array Slot), va_P (dC, dI) classes [(h0, .inr (2, [.ref qa, .int (nI n)])), (qa, .inl (ca 0, 16, .inl f))] H → va_D A [(h0, .inr (2, [.ref qa, .int (nI n)])), (qa, .inl (ca 0, 16, .inl f))] → va_S A s.heap H locs → W p l e R s m args below meth c H locs 0 0 Q (F0 m 28 ls [])) :
    ∀ (j : Nat), j ≤ n → ∀ (f : Nat → Int32) (H : Heap) (locs : List Loc) (ls : Array Slot), va_P (dC, dI) classes [(h0, .inr (2, [.ref qa, .int (nI (n - j))])), (qa, .inl (ca 0, 16, .inl f))] H → va_D A [(h0, .inr (2, [.ref qa, .int (nI (n - j))])), (qa, .inl (ca 0, 16, .inl f))] → va_S A s.heap H locs →
      lv_has ls 5 [(4, .int (nI j - 1)), (0, .ref h0), (1, .long x), (3, .int n3)] → W p l e R s m args below meth c H locs 0 0 Q (F0 m 5 ls []) := by
  intro j
  induction j with
  | zero =>
    intro _ f H locs ls hP hD hS hl
    refine lv_iload hx hb d_MB_addLong_5 (lv_at hl 0 rfl) ?_
    refine lv_if_lt (tgt := 28) hx hb d_MB_addLong_7 (by decide) (fun _ => ?_) (fun h => absurd (by decide) h)
    exact kk f H locs ls hP hD hS
  | succ j ih =>
    intro hj f H locs ls hP hD hS hl
    have e1 : nI (j + 1) - 1 = nI j := nI_pred j
    rw [e1] at hl
    refine lv_iload hx hb d_MB_addLong_5 (lv_at hl 0 rfl) ?_
    refine lv_if_lt (tgt := 28) hx hb d_MB_addLong_7 (by decide) (fun h => absurd h (nI_pos (by omega))) (fun _ => ?_)
    refine lv_aload_n hx hb d_MB_addLong_10 rfl (lv_at hl 1 rfl) ?_
    refine lv_lload_n hx hb d_MB_addLong_11 rfl (lv_at hl 2 rfl) ?_
    refine lv_bipush (v := 8) hx hb d_MB_addLong_12 (by decide +kernel) ?_
    refine lv_iload hx hb d_MB_addLong_14 (lv_at hl 0 rfl) ?_
    refine lv_imul hx hb d_MB_addLong_16 ?_
    refine lv_lshr hx hb d_MB_addLong_17 rfl ?_
    refine lv_l2i hx hb d_MB_addLong_18 rfl ?_
    refine lv_topi (fun z _ => ?_)
    have hk : n - (j + 1) < 16 := by omega
    refine ax_V (ci := 2) (q0 := 0) (k := 1) (As := [.int z]) (rest := []) (wr := []) rfl hx hb hml hown hts g_wm (mK_bl dC dI ca) (c_MB_add l dC dI ca h0 qa f (n - (j + 1)) hk z) xm_190 xm_191 xm_2 xm_193 xm_192 (by decide +kernel) rfl hfr hlo hl.1 (Nat.le_of_ble_eq_true rfl) (mK_up hK) hK.1 hP hD hS hA rfl rfl [0, 1] [] rfl (by decide) rfl rfl (by decide) (by decide) (Nat.zero_le _) (Nat.zero_le _) d_MB_addLong_19 (fun v f2 H locs hp hP hD hS => ?_)
    obtain rfl : v = none := hp
    have e2 : n - (j + 1) + 1 = n - j := by omega
    have hP : va_P (dC, dI) classes [(h0, .inr (2, [.ref qa, .int (nI (n - (j + 1) + 1))])), (qa, .inl (ca 0, 16, .inl f2))] H := hP
    have hD : va_D A [(h0, .inr (2, [.ref qa, .int (nI (n - (j + 1) + 1))])), (qa, .inl (ca 0, 16, .inl f2))] := hD
    rw [e2] at hP hD
    refine W.eq (g2 := F0 m 22 ls []) rfl ?_
    refine lv_iinc (v := nI j - 1) (lv' := [(4, .int (nI j - 1)), (0, .ref h0), (1, .long x), (3, .int n3)]) hx hb d_MB_addLong_22 hl (k := 0) rfl (by rw [Int32.sub_eq_add_neg]; rfl) (by decide) rfl (fun ls hl => ?_)
    refine lv_goto (tgt := 5) hx hb d_MB_addLong_25 (by decide) ?_
    exact ih (by omega) f2 H locs ls hP hD hS hl
set_option maxHeartbeats 4000000 in
theorem c_MB_addLong (l : Launch) (dC : Nat → ClassId) (dI : Nat → Nat → Nat) (ca : Nat → ClassId) (h0 qa : Nat) (f : Nat → Int32) (x : Int64) (n : Nat) (hn : n ≤ 8) : CT l classes (dC, dI) (mK dC dI ca) wm y_MB_addLong b_MB_addLong 5 none 1 23 0 0 [.ref h0, .long x, .int (nI n)] [(h0, .inr (2, [.ref qa, .int 0])), (qa, .inl (ca 0, 16, .inl f))] (fun (v : Option Value) (_ : Nat → Int32) => v = none) (fun (f2 : Nat → Int32) => [(h0, .inr (2, [.ref qa, .int (nI n)])), (qa, .inl (ca 0, 16, .inl f2))]) := by
  refine ax_of (by decide) (Nat.le_of_ble_eq_true rfl) ?_
  intro p e s m below meth c A ls hAt hK hP hD hS hA hl
  obtain ⟨hx, hb, hr, hml, hown, hts, hlocks, hin⟩ := hAt
  have hl : lv_has ls 5 [(0, .ref h0), (1, .long x), (3, .int (nI n))] := hl
  refine lv_iload_n hx hb d_MB_addLong_0 rfl (lv_at hl 2 rfl) ?_
  refine lv_iconst (v := 1) hx hb d_MB_addLong_1 (by decide) ?_
  refine lv_isub hx hb d_MB_addLong_2 ?_
  refine lv_istore (lv' := [(4, .int (nI n - 1)), (0, .ref h0), (1, .long x), (3, .int (nI n))]) hx hb d_MB_addLong_3 hl (by decide) rfl (fun ls hl => ?_)
  have e1 : n - n = 0 := Nat.sub_self n
  refine lp_MB_addLong l dC dI ca h0 qa x n hn hx hb hml hown hts hK hA (Nat.le_of_ble_eq_true rfl) (Nat.le_of_ble_eq_true rfl) ?_ n (Nat.le_refl n) f s.heap [] ls (by rw [e1]; exact hP) (by rw [e1]; exact hD) hS hl
  intro f2 H locs ls hP hD hS
  exact ax_vret hx hb hr hlocks hP hD hS f2 rfl [0, 1] rfl (by decide) rfl (Nat.le_refl _) (Nat.le_refl _) d_MB_addLong_28
theorem d_MM_feed_0 : decode b_MM_feed 0 = .ok (.aload_n 0, 1) := by decide +kernel
theorem d_MM_feed_1 : decode b_MM_feed 1 = .ok (.iconst 0, 1) := by decide +kernel
theorem d_MM_feed_2 : decode b_MM_feed 2 = .ok (.putfield 343, 3) := by decide +kernel
theorem d_MM_feed_5 : decode b_MM_feed 5 = .ok (.iload_n 3, 1) := by decide +kernel
theorem d_MM_feed_6 : decode b_MM_feed 6 = .ok (.i2l, 1) := by decide +kernel
theorem d_MM_feed_7 : decode b_MM_feed 7 = .ok (.lconst 1, 1) := by decide +kernel
theorem d_MM_feed_8 : decode b_MM_feed 8 = .ok (.ldc2_w 347, 3) := by decide +kernel
theorem d_MM_feed_11 : decode b_MM_feed 11 = .ok (.invokestatic 349, 3) := by decide +kernel
theorem d_MM_feed_14 : decode b_MM_feed 14 = .ok (.ifCond .eq 18, 3) := by decide +kernel
theorem d_MM_feed_17 : decode b_MM_feed 17 = .ok (.aload_n 0, 1) := by decide +kernel
theorem d_MM_feed_18 : decode b_MM_feed 18 = .ok (.getfield 19, 3) := by decide +kernel
theorem d_MM_feed_21 : decode b_MM_feed 21 = .ok (.getfield 353, 3) := by decide +kernel
theorem d_MM_feed_24 : decode b_MM_feed 24 = .ok (.iload_n 3, 1) := by decide +kernel
theorem d_MM_feed_25 : decode b_MM_feed 25 = .ok (.iadd, 1) := by decide +kernel
theorem d_MM_feed_26 : decode b_MM_feed 26 = .ok (.ldc_w 356, 3) := by decide +kernel
theorem d_MM_feed_29 : decode b_MM_feed 29 = .ok (.if_icmp .le 5, 3) := by decide +kernel
theorem d_MM_feed_32 : decode b_MM_feed 32 = .ok (.iconst (-1), 1) := by decide +kernel
theorem d_MM_feed_33 : decode b_MM_feed 33 = .ok (.ireturn, 1) := by decide +kernel
theorem d_MM_feed_34 : decode b_MM_feed 34 = .ok (.aload_n 0, 1) := by decide +kernel
theorem d_MM_feed_35 : decode b_MM_feed 35 = .ok (.getfield 19, 3) := by decide +kernel
theorem d_MM_feed_38 : decode b_MM_feed 38 = .ok (.lload_n 1, 1) := by decide +kernel
theorem d_MM_feed_39 : decode b_MM_feed 39 = .ok (.iload_n 3, 1) := by decide +kernel
theorem d_MM_feed_40 : decode b_MM_feed 40 = .ok (.invokevirtual 357, 3) := by decide +kernel
theorem d_MM_feed_43 : decode b_MM_feed 43 = .ok (.aload_n 0, 1) := by decide +kernel
theorem d_MM_feed_44 : decode b_MM_feed 44 = .ok (.getfield 19, 3) := by decide +kernel
theorem d_MM_feed_47 : decode b_MM_feed 47 = .ok (.getfield 353, 3) := by decide +kernel
theorem d_MM_feed_50 : decode b_MM_feed 50 = .ok (.ireturn, 1) := by decide +kernel
theorem n8_of {n : Int32} (h : 1 ≤ n.toInt64 ∧ n.toInt64 ≤ 8) : ∃ k : Nat, k ≤ 8 ∧ n = nI k := by
  have h1 := Int64.le_iff_toInt_le.mp h.1
  have h2 := Int64.le_iff_toInt_le.mp h.2
  rw [Int32.toInt_toInt64] at h1 h2
  have e1 : (1 : Int64).toInt = 1 := by decide
  have e2 : (8 : Int64).toInt = 8 := by decide
  refine ⟨n.toInt.toNat, by omega, Int32.toInt_inj.mp ?_⟩
  rw [nI_toInt (by omega)]
  omega
set_option maxHeartbeats 4000000 in
set_option maxRecDepth 100000 in
theorem c_MM_feed (l : Launch) (dC : Nat → ClassId) (dI : Nat → Nat → Nat) (ca : Nat → ClassId) (h0 : Nat) (q : Nat → Nat) (th : Int32) (qa : Nat) (x : Int64) (n : Int32) : CT l classes (dC, dI) (mK dC dI ca) wm y_MM_feed b_MM_feed 4 (some (.int)) 2 47 0 0 [.ref h0, .long x, .int n] [(h0, .inr (0, mF q th)), (q 2, .inr (2, [.ref qa, .int 0])), (qa, .inl (ca 0, 16, .inl (fun _ => 0)))] (fun (v : Option Value) (_ : Unit) => ((1 ≤ n.toInt64 ∧ n.toInt64 ≤ 8) ∧ v = some (.int n)) ∨ (¬ (1 ≤ n.toInt64 ∧ n.toInt64 ≤ 8) ∧ v = some (.int (-1)))) (fun _ => [(h0, .inr (0, mF q 0))]) := by
  refine ax_of (by decide) (Nat.le_of_ble_eq_true rfl) ?_
  intro p e s m below meth c A ls hAt hK hP hD hS hA hl
  obtain ⟨hx, hb, hr, hml, hown, hts, hlocks, hin⟩ := hAt
  have hl : lv_has ls 4 [(0, .ref h0), (1, .long x), (3, .int n)] := hl
  refine lv_aload_n hx hb d_MM_feed_0 rfl (lv_at hl 0 rfl) ?_
  refine lv_iconst (v := 0) hx hb d_MM_feed_1 (by decide) ?_
  refine va_put (D := (dC, dI)) (ci := 0) (v := .int 0) (ty := .int) (C := R_MM) (T := F_MM) (N := 132) hx hb hts i_MM t_MM t_MM_ok n_MM hown hK.1 hP hD hS 0 rfl rfl 0 (by decide) (hts _ xm_73) (fun _ h9 => h9) rfl (by decide +kernel) rfl rfl (Nat.le_of_ble_eq_true rfl) d_MM_feed_2 (fun H locs hP hD hS => ?_)
  have hP : va_P (dC, dI) classes [(h0, .inr (0, mF q 0)), (q 2, .inr (2, [.ref qa, .int 0])), (qa, .inl (ca 0, 16, .inl (fun _ => 0)))] H := hP
  have hD : va_D A [(h0, .inr (0, mF q 0)), (q 2, .inr (2, [.ref qa, .int 0])), (qa, .inl (ca 0, 16, .inl (fun _ => 0)))] := hD
  refine lv_iload_n hx hb d_MM_feed_5 rfl (lv_at hl 2 rfl) ?_
  refine lv_i2l hx hb d_MM_feed_6 rfl ?_
  refine lv_lconst (v := 1) hx hb d_MM_feed_7 (by decide) ?_
  refine lv_ldc2 (v := 8) hx hb hown (hts _ xm_181) d_MM_feed_8 ?_
  refine ax_St (k := 3) (As := [.long n.toInt64, .long 1, .long 8]) (rest := []) (wr := [(h0, .inr (0, mF q 0)), (q 2, .inr (2, [.ref qa, .int 0])), (qa, .inl (ca 0, 16, .inl (fun _ => 0)))]) rfl hx hb hml hown hts g_wm (mK_bl dC dI ca) (c_MM_in l dC dI ca n.toInt64 1 8) xm_182 xm_183 xm_0 xm_184 (by decide +kernel) rfl (Nat.le_of_ble_eq_true rfl) (Nat.le_of_ble_eq_true rfl) hl.1 (Nat.le_of_ble_eq_true rfl) (mK_up hK) hP hD hS hA [] [0, 1, 2] rfl (by decide) rfl rfl (by decide) (by decide) (Nat.le_of_ble_eq_true rfl) (Nat.le_of_ble_eq_true rfl) d_MM_feed_11 (fun v _ H locs hp hP hD hS => ?_)
  have hP : va_P (dC, dI) classes [(h0, .inr (0, mF q 0)), (q 2, .inr (2, [.ref qa, .int 0])), (qa, .inl (ca 0, 16, .inl (fun _ => 0)))] H := hP
  have hD : va_D A [(h0, .inr (0, mF q 0)), (q 2, .inr (2, [.ref qa, .int 0])), (qa, .inl (ca 0, 16, .inl (fun _ => 0)))] := hD
  rcases hp with ⟨rfl, hc⟩ | ⟨rfl, hc⟩
  · refine W.eq (g2 := F0 m 14 ls [.int 1]) rfl ?_
    refine lv_if_eq (tgt := 32) hx hb d_MM_feed_14 (by decide) (fun h => absurd h (by decide)) (fun _ => ?_)
    refine lv_aload_n hx hb d_MM_feed_17 rfl (lv_at hl 0 rfl) ?_
    refine va_get (D := (dC, dI)) (ci := 0) (v := .ref (q 2)) (C := R_MM) (T := F_MM) (N := 132) hx hb hts i_MM hown hK.1 hP 0 rfl rfl 2 (by decide) (hts _ xm_75) (fun _ h9 => h9) rfl d_MM_feed_18 ?_
    refine va_getN (D := (dC, dI)) (ci := 2) (v := .int 0) (C := R_MB) (T := F_MB) (N := 2) hx hb hts i_MB hown hK.1 hP 1 rfl rfl 1 (by decide) (va_Nw.use rfl (hK.2.1 _ zm_6)) (fun _ h9 => h9) rfl d_MM_feed_21 ?_
    refine lv_iload_n hx hb d_MM_feed_24 rfl (lv_at hl 2 rfl) ?_
    refine lv_iadd hx hb d_MM_feed_25 ?_
    refine lv_topi (fun z e9 => ?_)
    obtain rfl : z = n := by rw [e9, Int32.zero_add]
    obtain ⟨k, hk, rfl⟩ := n8_of hc
    refine lv_ldcw (v := 65536) hx hb hown (hts _ xm_185) d_MM_feed_26 ?_
    refine lv_icmp_le (tgt := 34) hx hb d_MM_feed_29 (by decide) (fun _ => ?_) (fun h => absurd (show nI k ≤ nI 65536 from nI_le (by omega) (by omega)) h)
    refine lv_aload_n hx hb d_MM_feed_34 rfl (lv_at hl 0 rfl) ?_
    refine va_get (D := (dC, dI)) (ci := 0) (v := .ref (q 2)) (C := R_MM) (T := F_MM) (N := 132) hx hb hts i_MM hown hK.1 hP 0 rfl rfl 2 (by decide) (hts _ xm_75) (fun _ h9 => h9) rfl d_MM_feed_35 ?_
    refine lv_lload_n hx hb d_MM_feed_38 rfl (lv_at hl 1 rfl) ?_
    refine lv_iload_n hx hb d_MM_feed_39 rfl (lv_at hl 2 rfl) ?_
    refine ax_V (ci := 2) (q0 := 0) (k := 2) (As := [.long x, .int (nI k)]) (rest := []) (wr := [(h0, .inr (0, mF q 0))]) rfl hx hb hml hown hts g_wm (mK_bl dC dI ca) (c_MB_addLong l dC dI ca (q 2) qa (fun _ => 0) x k hk) xm_186 xm_187 xm_2 xm_189 xm_188 (by decide +kernel) rfl (Nat.le_of_ble_eq_true rfl) (Nat.le_of_ble_eq_true rfl) hl.1 (Nat.le_of_ble_eq_true rfl) (mK_up hK) hK.1 hP hD hS hA rfl rfl [1, 2] [0] rfl (by decide) rfl rfl (by decide) (by decide) (Nat.le_of_ble_eq_true rfl) (Nat.le_of_ble_eq_true rfl) d_MM_feed_40 (fun v f2 H locs hp hP hD hS => ?_)
    obtain rfl : v = none := hp
    have hP : va_P (dC, dI) classes [(h0, .inr (0, mF q 0)), (q 2, .inr (2, [.ref qa, .int (nI k)])), (qa, .inl (ca 0, 16, .inl f2))] H := hP
    have hD : va_D A [(h0, .inr (0, mF q 0)), (q 2, .inr (2, [.ref qa, .int (nI k)])), (qa, .inl (ca 0, 16, .inl f2))] := hD
    refine W.eq (g2 := F0 m 43 ls []) rfl ?_
    refine lv_aload_n hx hb d_MM_feed_43 rfl (lv_at hl 0 rfl) ?_
    refine va_get (D := (dC, dI)) (ci := 0) (v := .ref (q 2)) (C := R_MM) (T := F_MM) (N := 132) hx hb hts i_MM hown hK.1 hP 0 rfl rfl 2 (by decide) (hts _ xm_75) (fun _ h9 => h9) rfl d_MM_feed_44 ?_
    refine va_getN (D := (dC, dI)) (ci := 2) (v := .int (nI k)) (C := R_MB) (T := F_MB) (N := 2) hx hb hts i_MB hown hK.1 hP 1 rfl rfl 1 (by decide) (va_Nw.use rfl (hK.2.1 _ zm_6)) (fun _ h9 => h9) rfl d_MM_feed_47 ?_
    exact ax_iret hx hb hr hlocks hP hD hS () (Or.inl ⟨hc, rfl⟩) [0] rfl (by decide) rfl (Nat.le_of_ble_eq_true rfl) (Nat.le_of_ble_eq_true rfl) d_MM_feed_50
  · refine W.eq (g2 := F0 m 14 ls [.int 0]) rfl ?_
    refine lv_if_eq (tgt := 32) hx hb d_MM_feed_14 (by decide) (fun _ => ?_) (fun h => absurd (by decide) h)
    refine lv_iconst (v := (-1)) hx hb d_MM_feed_32 (by decide) ?_
    exact ax_iret hx hb hr hlocks hP hD hS () (Or.inr ⟨hc, rfl⟩) [0] rfl (by decide) rfl (Nat.le_of_ble_eq_true rfl) (Nat.le_of_ble_eq_true rfl) d_MM_feed_33
