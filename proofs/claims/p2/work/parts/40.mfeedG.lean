theorem d_MB_add_0 : decode b_MB_add 0 = .ok (.aload_n 0, 1) := by decide +kernel
theorem d_MB_add_1 : decode b_MB_add 1 = .ok (.getfield 13, 3) := by decide +kernel
theorem d_MB_add_4 : decode b_MB_add 4 = .ok (.aload_n 0, 1) := by decide +kernel
theorem d_MB_add_5 : decode b_MB_add 5 = .ok (.getfield 7, 3) := by decide +kernel
theorem d_MB_add_8 : decode b_MB_add 8 = .ok (.arraylength, 1) := by decide +kernel
theorem d_MB_add_9 : decode b_MB_add 9 = .ok (.if_icmp .ne 42, 3) := by decide +kernel
theorem d_MB_add_12 : decode b_MB_add 12 = .ok (.iconst 2, 1) := by decide +kernel
theorem d_MB_add_13 : decode b_MB_add 13 = .ok (.aload_n 0, 1) := by decide +kernel
theorem d_MB_add_14 : decode b_MB_add 14 = .ok (.getfield 13, 3) := by decide +kernel
theorem d_MB_add_17 : decode b_MB_add 17 = .ok (.imul, 1) := by decide +kernel
theorem d_MB_add_18 : decode b_MB_add 18 = .ok (.newarray .byte, 2) := by decide +kernel
theorem d_MB_add_20 : decode b_MB_add 20 = .ok (.astore_n 2, 1) := by decide +kernel
theorem d_MB_add_21 : decode b_MB_add 21 = .ok (.iconst 0, 1) := by decide +kernel
theorem d_MB_add_22 : decode b_MB_add 22 = .ok (.istore_n 3, 1) := by decide +kernel
theorem d_MB_add_23 : decode b_MB_add 23 = .ok (.iload_n 3, 1) := by decide +kernel
theorem d_MB_add_24 : decode b_MB_add 24 = .ok (.aload_n 0, 1) := by decide +kernel
theorem d_MB_add_25 : decode b_MB_add 25 = .ok (.getfield 13, 3) := by decide +kernel
theorem d_MB_add_28 : decode b_MB_add 28 = .ok (.if_icmp .ge 18, 3) := by decide +kernel
theorem d_MB_add_31 : decode b_MB_add 31 = .ok (.aload_n 2, 1) := by decide +kernel
theorem d_MB_add_32 : decode b_MB_add 32 = .ok (.iload_n 3, 1) := by decide +kernel
theorem d_MB_add_33 : decode b_MB_add 33 = .ok (.aload_n 0, 1) := by decide +kernel
theorem d_MB_add_34 : decode b_MB_add 34 = .ok (.getfield 7, 3) := by decide +kernel
theorem d_MB_add_37 : decode b_MB_add 37 = .ok (.iload_n 3, 1) := by decide +kernel
theorem d_MB_add_38 : decode b_MB_add 38 = .ok (.baload, 1) := by decide +kernel
theorem d_MB_add_39 : decode b_MB_add 39 = .ok (.bastore, 1) := by decide +kernel
theorem d_MB_add_40 : decode b_MB_add 40 = .ok (.iinc 3 1, 3) := by decide +kernel
theorem d_MB_add_43 : decode b_MB_add 43 = .ok (.goto (-20), 3) := by decide +kernel
theorem d_MB_add_46 : decode b_MB_add 46 = .ok (.aload_n 0, 1) := by decide +kernel
theorem d_MB_add_47 : decode b_MB_add 47 = .ok (.aload_n 2, 1) := by decide +kernel
theorem d_MB_add_48 : decode b_MB_add 48 = .ok (.putfield 7, 3) := by decide +kernel
theorem d_MB_add_51 : decode b_MB_add 51 = .ok (.aload_n 0, 1) := by decide +kernel
theorem d_MB_add_52 : decode b_MB_add 52 = .ok (.getfield 7, 3) := by decide +kernel
theorem d_MB_add_55 : decode b_MB_add 55 = .ok (.aload_n 0, 1) := by decide +kernel
theorem d_MB_add_56 : decode b_MB_add 56 = .ok (.getfield 13, 3) := by decide +kernel
theorem d_MB_add_59 : decode b_MB_add 59 = .ok (.iload_n 1, 1) := by decide +kernel
theorem d_MB_add_60 : decode b_MB_add 60 = .ok (.i2b, 1) := by decide +kernel
theorem d_MB_add_61 : decode b_MB_add 61 = .ok (.bastore, 1) := by decide +kernel
theorem d_MB_add_62 : decode b_MB_add 62 = .ok (.aload_n 0, 1) := by decide +kernel
theorem d_MB_add_63 : decode b_MB_add 63 = .ok (.dup, 1) := by decide +kernel
theorem d_MB_add_64 : decode b_MB_add 64 = .ok (.getfield 13, 3) := by decide +kernel
theorem d_MB_add_67 : decode b_MB_add 67 = .ok (.iconst 1, 1) := by decide +kernel
theorem d_MB_add_68 : decode b_MB_add 68 = .ok (.iadd, 1) := by decide +kernel
theorem d_MB_add_69 : decode b_MB_add 69 = .ok (.putfield 13, 3) := by decide +kernel
theorem d_MB_add_72 : decode b_MB_add 72 = .ok (.return_, 1) := by decide +kernel
/-! feed, whatever lies on the tape -/
theorem nI_ne {a b : Nat} (ha : a < 2 ^ 31) (hb : b < 2 ^ 31) (h : a ≠ b) : nI a ≠ nI b := fun h2 => h ((nI_eq ha hb).mp h2)
theorem nI_dbl (a : Nat) : (2 : Int32) * nI a = nI (2 * a) := (Int32.ofNat_mul 2 a).symm
set_option maxHeartbeats 4000000 in
/-- a byte more, with room -/
theorem e_MB_add (l : Launch) (dC : Nat → ClassId) (dI : Nat → Nat → Nat) (ca : Nat → ClassId) (h0 qa N k : Nat) (f : Nat → Int32) (hk : k < N) (hN : N < 2 ^ 29) (x : Int32) : CT l classes (dC, dI) (mK dC dI ca) wm y_MB_add b_MB_add 4 none 0 0 0 0 [.ref h0, .int x] [(h0, .inr (2, [.ref qa, .int (nI k)])), (qa, .inl (ca 0, N, .inl f))] (fun (v : Option Value) (_ : Nat → Int32) => v = none) (fun (f2 : Nat → Int32) => [(h0, .inr (2, [.ref qa, .int (nI (k + 1))])), (qa, .inl (ca 0, N, .inl f2))]) := by
  refine ax_of (by decide) (Nat.le_of_ble_eq_true rfl) ?_
  intro p e s m below meth c A ls hAt hK hP hD hS hA hl
  obtain ⟨hx, hb, hr, hml, hown, hts, hlocks, hin⟩ := hAt
  have hl : lv_has ls 4 [(0, .ref h0), (1, .int x)] := hl
  refine lv_aload_n hx hb d_MB_add_0 rfl (lv_at hl 0 rfl) ?_
  refine va_get (D := (dC, dI)) (ci := 2) (v := .int (nI k)) (C := R_MB) (T := F_MB) (N := 2) hx hb hts i_MB hown hK.1 hP 0 rfl rfl 1 (by decide) (hts _ xm_31) (fun _ h9 => h9) rfl d_MB_add_1 ?_
  refine lv_aload_n hx hb d_MB_add_4 rfl (lv_at hl 0 rfl) ?_
  refine va_get (D := (dC, dI)) (ci := 2) (v := .ref qa) (C := R_MB) (T := F_MB) (N := 2) hx hb hts i_MB hown hK.1 hP 0 rfl rfl 0 (by decide) (hts _ xm_30) (fun _ h9 => h9) rfl d_MB_add_5 ?_
  refine va_alen hx hb hK.1 hP 1 0 rfl rfl (v := nI N) rfl d_MB_add_8 ?_
  refine lv_icmp_ne (tgt := 51) hx hb d_MB_add_9 (by decide) (fun _ => ?_) (fun h => absurd h (nI_ne (by omega) (by omega) (by omega)))
  refine lv_aload_n hx hb d_MB_add_51 rfl (lv_at hl 0 rfl) ?_
  refine va_get (D := (dC, dI)) (ci := 2) (v := .ref qa) (C := R_MB) (T := F_MB) (N := 2) hx hb hts i_MB hown hK.1 hP 0 rfl rfl 0 (by decide) (hts _ xm_30) (fun _ h9 => h9) rfl d_MB_add_52 ?_
  refine lv_aload_n hx hb d_MB_add_55 rfl (lv_at hl 0 rfl) ?_
  refine va_get (D := (dC, dI)) (ci := 2) (v := .int (nI k)) (C := R_MB) (T := F_MB) (N := 2) hx hb hts i_MB hown hK.1 hP 0 rfl rfl 1 (by decide) (hts _ xm_31) (fun _ h9 => h9) rfl d_MB_add_56 ?_
  refine lv_iload_n hx hb d_MB_add_59 rfl (lv_at hl 1 rfl) ?_
  refine lv_i2b hx hb d_MB_add_60 rfl ?_
  refine va_bast hx hb hK.1 hP hD hS 1 0 rfl rfl (vp_in_nI hk (by omega)) d_MB_add_61 (fun H locs hP hD hS => ?_)
  generalize upd f (nI k).toNatClampNeg (vp_nar .byte x.toInt8.toInt32) = f2 at hP hD
  have hP : va_P (dC, dI) classes [(h0, .inr (2, [.ref qa, .int (nI k)])), (qa, .inl (ca 0, N, .inl f2))] H := hP
  have hD : va_D A [(h0, .inr (2, [.ref qa, .int (nI k)])), (qa, .inl (ca 0, N, .inl f2))] := hD
  refine lv_aload_n hx hb d_MB_add_62 rfl (lv_at hl 0 rfl) ?_
  refine lv_dup hx hb d_MB_add_63 rfl ?_
  refine va_get (D := (dC, dI)) (ci := 2) (v := .int (nI k)) (C := R_MB) (T := F_MB) (N := 2) hx hb hts i_MB hown hK.1 hP 0 rfl rfl 1 (by decide) (hts _ xm_31) (fun _ h9 => h9) rfl d_MB_add_64 ?_
  refine lv_iconst (v := 1) hx hb d_MB_add_67 (by decide) ?_
  refine lv_iadd hx hb d_MB_add_68 ?_
  refine lv_topi (fun z e9 => ?_)
  obtain rfl : z = nI (k + 1) := by rw [e9]; exact nI_1 _
  refine va_put (D := (dC, dI)) (ci := 2) (v := .int (nI (k + 1))) (ty := .int) (C := R_MB) (T := F_MB) (N := 2) hx hb hts i_MB t_MB t_MB_ok n_MB hown hK.1 hP hD hS 0 rfl rfl 1 (by decide) (hts _ xm_31) (fun _ h9 => h9) rfl (by decide +kernel) rfl rfl (Nat.le_of_ble_eq_true rfl) d_MB_add_69 (fun H locs hP hD hS => ?_)
  have hP : va_P (dC, dI) classes [(h0, .inr (2, [.ref qa, .int (nI (k + 1))])), (qa, .inl (ca 0, N, .inl f2))] H := hP
  have hD : va_D A [(h0, .inr (2, [.ref qa, .int (nI (k + 1))])), (qa, .inl (ca 0, N, .inl f2))] := hD
  exact ax_vret hx hb hr hlocks hP hD hS f2 rfl [0, 1] rfl (by decide) rfl (Nat.le_refl _) (Nat.le_refl _) d_MB_add_72
set_option maxHeartbeats 4000000 in
/-- the copying of a full tape: from place j on -/
theorem el_MB_add (dC : Nat → ClassId) (dI : Nat → Nat → Nat) (ca : Nat → ClassId) (h0 qa qm N : Nat) (f : Nat → Int32) (hN : N < 2 ^ 29) (x : Int32) {l : Launch} {p : Program} {e : Env} {R : Room} {s : State} {m : MethodId} {args : Array Value} {below : List Frame} {meth : Method} {c : Code} {A : Nat → Prop} {Q : State → Prop} {cells slots : Nat}
    (hx : p.tables.exec = Jvm.exec) (hb : c.code = b_MB_add) (hown : s.vm.findClass R_MB = some m.cls) (hts : ∀ w ∈ wm, w.before args s = true) (hK : mK dC dI ca s)
    (kk : ∀ (g : Nat → Int32) (H : Heap) (locs : List Loc) (ls : Array Slot), va_P (dC, dI) classes [(h0, .inr (2, [.ref qa, .int (nI N)])), (qa, .inl (ca 0, N, .inl f)), (qm, .inl (ca 0, 2 * N, .inl g))] H → va_D A [(h0, .inr (2, [.ref qa, .int (nI N)])), (qa, .inl (ca 0, N, .inl f)), (qm, .inl (ca 0, 2 * N, .inl g))] → va_S A s.heap H locs → lv_has ls 4 [(3, .int (nI N)), (2, .ref qm), (0, .ref h0), (1, .int x)] → W p l e R s m args below meth c H locs cells slots Q (F0 m 46 ls [])) :
    ∀ (t j : Nat), j + t = N → ∀ (g : Nat → Int32) (H : Heap) (locs : List Loc) (ls : Array Slot), va_P (dC, dI) classes [(h0, .inr (2, [.ref qa, .int (nI N)])), (qa, .inl (ca 0, N, .inl f)), (qm, .inl (ca 0, 2 * N, .inl g))] H → va_D A [(h0, .inr (2, [.ref qa, .int (nI N)])), (qa, .inl (ca 0, N, .inl f)), (qm, .inl (ca 0, 2 * N, .inl g))] → va_S A s.heap H locs → lv_has ls 4 [(3, .int (nI j)), (2, .ref qm), (0, .ref h0), (1, .int x)] → W p l e R s m args below meth c H locs cells slots Q (F0 m 23 ls []) := by
  intro t
  induction t with
  | zero =>
    intro j hj g H locs ls hP hD hS hl
    have e0 : j = N := by omega
    rw [e0] at hl
    refine lv_iload_n hx hb d_MB_add_23 rfl (lv_at hl 0 rfl) ?_
    refine lv_aload_n hx hb d_MB_add_24 rfl (lv_at hl 2 rfl) ?_
    refine va_get (D := (dC, dI)) (ci := 2) (v := .int (nI N)) (C := R_MB) (T := F_MB) (N := 2) hx hb hts i_MB hown hK.1 hP 0 rfl rfl 1 (by decide) (hts _ xm_31) (fun _ h9 => h9) rfl d_MB_add_25 ?_
    refine lv_icmp_ge (tgt := 46) hx hb d_MB_add_28 (by decide) (fun _ => ?_) (fun h => absurd (Int32.le_refl _) h)
    exact kk g H locs ls hP hD hS hl
  | succ t ih =>
    intro j hj g H locs ls hP hD hS hl
    refine lv_iload_n hx hb d_MB_add_23 rfl (lv_at hl 0 rfl) ?_
    refine lv_aload_n hx hb d_MB_add_24 rfl (lv_at hl 2 rfl) ?_
    refine va_get (D := (dC, dI)) (ci := 2) (v := .int (nI N)) (C := R_MB) (T := F_MB) (N := 2) hx hb hts i_MB hown hK.1 hP 0 rfl rfl 1 (by decide) (hts _ xm_31) (fun _ h9 => h9) rfl d_MB_add_25 ?_
    refine lv_icmp_ge (tgt := 46) hx hb d_MB_add_28 (by decide) (fun h => absurd h (nI_ge (by omega) (by omega))) (fun _ => ?_)
    refine lv_aload_n hx hb d_MB_add_31 rfl (lv_at hl 1 rfl) ?_
    refine lv_iload_n hx hb d_MB_add_32 rfl (lv_at hl 0 rfl) ?_
    refine lv_aload_n hx hb d_MB_add_33 rfl (lv_at hl 2 rfl) ?_
    refine va_get (D := (dC, dI)) (ci := 2) (v := .ref qa) (C := R_MB) (T := F_MB) (N := 2) hx hb hts i_MB hown hK.1 hP 0 rfl rfl 0 (by decide) (hts _ xm_30) (fun _ h9 => h9) rfl d_MB_add_34 ?_
    refine lv_iload_n hx hb d_MB_add_37 rfl (lv_at hl 0 rfl) ?_
    refine va_bald hx hb hK.1 hP 1 0 rfl rfl (vp_in_nI (by omega) (by omega)) d_MB_add_38 ?_
    refine lv_topi (fun z _ => ?_)
    refine va_bast hx hb hK.1 hP hD hS 2 0 rfl rfl (vp_in_nI (by omega) (by omega)) d_MB_add_39 (fun H locs hP hD hS => ?_)
    generalize upd g (nI j).toNatClampNeg (vp_nar .byte z) = g2 at hP hD
    have hP : va_P (dC, dI) classes [(h0, .inr (2, [.ref qa, .int (nI N)])), (qa, .inl (ca 0, N, .inl f)), (qm, .inl (ca 0, 2 * N, .inl g2))] H := hP
    have hD : va_D A [(h0, .inr (2, [.ref qa, .int (nI N)])), (qa, .inl (ca 0, N, .inl f)), (qm, .inl (ca 0, 2 * N, .inl g2))] := hD
    refine lv_iinc (v := nI (j + 1)) (lv' := [(3, .int (nI (j + 1))), (2, .ref qm), (0, .ref h0), (1, .int x)]) hx hb d_MB_add_40 hl (k := 0) rfl (nI_1 j) (by decide) rfl (fun ls hl => ?_)
    refine lv_goto (tgt := 23) hx hb d_MB_add_43 (by decide) ?_
    exact ih (j + 1) (by omega) g2 H locs ls hP hD hS hl
set_option maxHeartbeats 4000000 in
/-- a byte more on a full tape: twice the room -/
theorem ef_MB_add (l : Launch) (dC : Nat → ClassId) (dI : Nat → Nat → Nat) (ca : Nat → ClassId) (h0 qa N : Nat) (f : Nat → Int32) (hN1 : 0 < N) (hN : N < 2 ^ 28) (x : Int32) : CT l classes (dC, dI) (mK dC dI ca) wm y_MB_add b_MB_add 4 none 0 0 1 (2 * N) [.ref h0, .int x] [(h0, .inr (2, [.ref qa, .int (nI N)])), (qa, .inl (ca 0, N, .inl f))] (fun (v : Option Value) (_ : Nat × (Nat → Int32)) => v = none) (fun (u : Nat × (Nat → Int32)) => [(h0, .inr (2, [.ref u.1, .int (nI (N + 1))])), (u.1, .inl (ca 0, (2 * N), .inl u.2))]) := by
  refine ax_of (by decide) (Nat.le_of_ble_eq_true rfl) ?_
  intro p e s m below meth c A ls hAt hK hP hD hS hA hl
  obtain ⟨hx, hb, hr, hml, hown, hts, hlocks, hin⟩ := hAt
  have hl : lv_has ls 4 [(0, .ref h0), (1, .int x)] := hl
  refine lv_aload_n hx hb d_MB_add_0 rfl (lv_at hl 0 rfl) ?_
  refine va_get (D := (dC, dI)) (ci := 2) (v := .int (nI N)) (C := R_MB) (T := F_MB) (N := 2) hx hb hts i_MB hown hK.1 hP 0 rfl rfl 1 (by decide) (hts _ xm_31) (fun _ h9 => h9) rfl d_MB_add_1 ?_
  refine lv_aload_n hx hb d_MB_add_4 rfl (lv_at hl 0 rfl) ?_
  refine va_get (D := (dC, dI)) (ci := 2) (v := .ref qa) (C := R_MB) (T := F_MB) (N := 2) hx hb hts i_MB hown hK.1 hP 0 rfl rfl 0 (by decide) (hts _ xm_30) (fun _ h9 => h9) rfl d_MB_add_5 ?_
  refine va_alen hx hb hK.1 hP 1 0 rfl rfl (v := nI N) rfl d_MB_add_8 ?_
  refine lv_icmp_ne (tgt := 51) hx hb d_MB_add_9 (by decide) (fun h => absurd rfl h) (fun _ => ?_)
  refine lv_iconst (v := 2) hx hb d_MB_add_12 (by decide) ?_
  refine lv_aload_n hx hb d_MB_add_13 rfl (lv_at hl 0 rfl) ?_
  refine va_get (D := (dC, dI)) (ci := 2) (v := .int (nI N)) (C := R_MB) (T := F_MB) (N := 2) hx hb hts i_MB hown hK.1 hP 0 rfl rfl 1 (by decide) (hts _ xm_31) (fun _ h9 => h9) rfl d_MB_add_14 ?_
  refine lv_imul hx hb d_MB_add_17 ?_
  refine lv_topi (fun z e9 => ?_)
  obtain rfl : z = nI (2 * N) := by rw [e9]; exact nI_dbl N
  refine ax_newa (atype := .byte) (ty := .byte) (n := nI (2 * N)) (N' := 2 * N) (a0 := (2 * N, .inl (fun _ => 0))) hx hb (hts _ xm_10) rfl hK.1 0 rfl (fun C h => by cases h) hP hD hS hA (fun _ => rfl) (nI_pos (by omega)) (nI_clamp (by omega)) (by show 2 * N * 1 ≤ 536870912; omega) (by show 0 + 1 ≤ 1; omega) (by show 0 + 2 * N ≤ 2 * N; omega) d_MB_add_18 (fun qm H hP hD hS => ?_)
  have hP : va_P (dC, dI) classes [(h0, .inr (2, [.ref qa, .int (nI N)])), (qa, .inl (ca 0, N, .inl f)), (qm, .inl (ca 0, 2 * N, .inl (fun _ => 0)))] H := hP
  have hD : va_D A [(h0, .inr (2, [.ref qa, .int (nI N)])), (qa, .inl (ca 0, N, .inl f)), (qm, .inl (ca 0, 2 * N, .inl (fun _ => 0)))] := hD
  refine lv_astore_n (lv' := [(2, .ref qm), (0, .ref h0), (1, .int x)]) hx hb d_MB_add_20 rfl hl (by decide) rfl (fun ls hl => ?_)
  refine lv_iconst (v := 0) hx hb d_MB_add_21 (by decide) ?_
  refine lv_istore_n (lv' := [(3, .int (nI 0)), (2, .ref qm), (0, .ref h0), (1, .int x)]) hx hb d_MB_add_22 rfl hl (by decide) rfl (fun ls hl => ?_)
  refine el_MB_add dC dI ca h0 qa qm N f (by omega) x hx hb hown hts hK ?_ N 0 (by omega) (fun _ => 0) H [] ls hP hD hS hl
  clear hP hD hS hl
  intro g H locs ls hP hD hS hl
  refine lv_aload_n hx hb d_MB_add_46 rfl (lv_at hl 2 rfl) ?_
  refine lv_aload_n hx hb d_MB_add_47 rfl (lv_at hl 1 rfl) ?_
  refine va_put (D := (dC, dI)) (ci := 2) (v := .ref qm) (ty := .array .byte) (C := R_MB) (T := F_MB) (N := 2) hx hb hts i_MB t_MB t_MB_ok n_MB hown hK.1 hP hD hS 0 rfl rfl 0 (by decide) (hts _ xm_30) (fun _ h9 => h9) rfl (by decide +kernel) rfl rfl (Nat.le_of_ble_eq_true rfl) d_MB_add_48 (fun H locs hP hD hS => ?_)
  have hP := hP.sub (ws' := [(h0, .inr (2, [.ref qm, .int (nI N)])), (qm, .inl (ca 0, (2 * N), .inl g))]) [0, 2] rfl
  have hD := hD.sub (ws' := [(h0, .inr (2, [.ref qm, .int (nI N)])), (qm, .inl (ca 0, (2 * N), .inl g))]) [0, 2] (by decide) rfl
  refine lv_aload_n hx hb d_MB_add_51 rfl (lv_at hl 2 rfl) ?_
  refine va_get (D := (dC, dI)) (ci := 2) (v := .ref qm) (C := R_MB) (T := F_MB) (N := 2) hx hb hts i_MB hown hK.1 hP 0 rfl rfl 0 (by decide) (hts _ xm_30) (fun _ h9 => h9) rfl d_MB_add_52 ?_
  refine lv_aload_n hx hb d_MB_add_55 rfl (lv_at hl 2 rfl) ?_
  refine va_get (D := (dC, dI)) (ci := 2) (v := .int (nI N)) (C := R_MB) (T := F_MB) (N := 2) hx hb hts i_MB hown hK.1 hP 0 rfl rfl 1 (by decide) (hts _ xm_31) (fun _ h9 => h9) rfl d_MB_add_56 ?_
  refine lv_iload_n hx hb d_MB_add_59 rfl (lv_at hl 3 rfl) ?_
  refine lv_i2b hx hb d_MB_add_60 rfl ?_
  refine va_bast hx hb hK.1 hP hD hS 1 0 rfl rfl (vp_in_nI (by omega) (by omega)) d_MB_add_61 (fun H locs hP hD hS => ?_)
  generalize upd g (nI N).toNatClampNeg (vp_nar .byte x.toInt8.toInt32) = f2 at hP hD
  have hP : va_P (dC, dI) classes [(h0, .inr (2, [.ref qm, .int (nI N)])), (qm, .inl (ca 0, (2 * N), .inl f2))] H := hP
  have hD : va_D A [(h0, .inr (2, [.ref qm, .int (nI N)])), (qm, .inl (ca 0, (2 * N), .inl f2))] := hD
  refine lv_aload_n hx hb d_MB_add_62 rfl (lv_at hl 2 rfl) ?_
  refine lv_dup hx hb d_MB_add_63 rfl ?_
  refine va_get (D := (dC, dI)) (ci := 2) (v := .int (nI N)) (C := R_MB) (T := F_MB) (N := 2) hx hb hts i_MB hown hK.1 hP 0 rfl rfl 1 (by decide) (hts _ xm_31) (fun _ h9 => h9) rfl d_MB_add_64 ?_
  refine lv_iconst (v := 1) hx hb d_MB_add_67 (by decide) ?_
  refine lv_iadd hx hb d_MB_add_68 ?_
  refine lv_topi (fun z e9 => ?_)
  obtain rfl : z = nI (N + 1) := by rw [e9]; exact nI_1 _
  refine va_put (D := (dC, dI)) (ci := 2) (v := .int (nI (N + 1))) (ty := .int) (C := R_MB) (T := F_MB) (N := 2) hx hb hts i_MB t_MB t_MB_ok n_MB hown hK.1 hP hD hS 0 rfl rfl 1 (by decide) (hts _ xm_31) (fun _ h9 => h9) rfl (by decide +kernel) rfl rfl (Nat.le_of_ble_eq_true rfl) d_MB_add_69 (fun H locs hP hD hS => ?_)
  have hP : va_P (dC, dI) classes [(h0, .inr (2, [.ref qm, .int (nI (N + 1))])), (qm, .inl (ca 0, (2 * N), .inl f2))] H := hP
  have hD : va_D A [(h0, .inr (2, [.ref qm, .int (nI (N + 1))])), (qm, .inl (ca 0, (2 * N), .inl f2))] := hD
  refine W.widen (k := 1) (n := 2 * N) (by omega) (by omega) ?_
  exact ax_vret hx hb hr hlocks hP hD hS (qm, f2) rfl [0, 1] rfl (by decide) rfl (Nat.le_refl _) (Nat.le_refl _) d_MB_add_72
