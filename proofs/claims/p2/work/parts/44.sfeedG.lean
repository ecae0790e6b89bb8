theorem d_SS_feed_0 : decode b_SS_feed 0 = .ok (.iload_n 3, 1) := by decide +kernel
theorem d_SS_feed_1 : decode b_SS_feed 1 = .ok (.iconst 1, 1) := by decide +kernel
theorem d_SS_feed_2 : decode b_SS_feed 2 = .ok (.if_icmp .lt 20, 3) := by decide +kernel
theorem d_SS_feed_5 : decode b_SS_feed 5 = .ok (.iload_n 3, 1) := by decide +kernel
theorem d_SS_feed_6 : decode b_SS_feed 6 = .ok (.bipush 8, 2) := by decide +kernel
theorem d_SS_feed_8 : decode b_SS_feed 8 = .ok (.if_icmp .gt 14, 3) := by decide +kernel
theorem d_SS_feed_11 : decode b_SS_feed 11 = .ok (.aload_n 0, 1) := by decide +kernel
theorem d_SS_feed_12 : decode b_SS_feed 12 = .ok (.getfield 97, 3) := by decide +kernel
theorem d_SS_feed_15 : decode b_SS_feed 15 = .ok (.iload_n 3, 1) := by decide +kernel
theorem d_SS_feed_16 : decode b_SS_feed 16 = .ok (.iadd, 1) := by decide +kernel
theorem d_SS_feed_17 : decode b_SS_feed 17 = .ok (.ldc 100, 2) := by decide +kernel
theorem d_SS_feed_19 : decode b_SS_feed 19 = .ok (.if_icmp .le 5, 3) := by decide +kernel
theorem d_SS_feed_22 : decode b_SS_feed 22 = .ok (.iconst (-1), 1) := by decide +kernel
theorem d_SS_feed_23 : decode b_SS_feed 23 = .ok (.ireturn, 1) := by decide +kernel
theorem d_SS_feed_24 : decode b_SS_feed 24 = .ok (.aload_n 0, 1) := by decide +kernel
theorem d_SS_feed_25 : decode b_SS_feed 25 = .ok (.getfield 7, 3) := by decide +kernel
theorem d_SS_feed_28 : decode b_SS_feed 28 = .ok (.arraylength, 1) := by decide +kernel
theorem d_SS_feed_29 : decode b_SS_feed 29 = .ok (.aload_n 0, 1) := by decide +kernel
theorem d_SS_feed_30 : decode b_SS_feed 30 = .ok (.getfield 97, 3) := by decide +kernel
theorem d_SS_feed_33 : decode b_SS_feed 33 = .ok (.iload_n 3, 1) := by decide +kernel
theorem d_SS_feed_34 : decode b_SS_feed 34 = .ok (.iadd, 1) := by decide +kernel
theorem d_SS_feed_35 : decode b_SS_feed 35 = .ok (.if_icmp .ge 21, 3) := by decide +kernel
theorem d_SS_feed_38 : decode b_SS_feed 38 = .ok (.aload_n 0, 1) := by decide +kernel
theorem d_SS_feed_39 : decode b_SS_feed 39 = .ok (.aload_n 0, 1) := by decide +kernel
theorem d_SS_feed_40 : decode b_SS_feed 40 = .ok (.getfield 7, 3) := by decide +kernel
theorem d_SS_feed_43 : decode b_SS_feed 43 = .ok (.iconst 2, 1) := by decide +kernel
theorem d_SS_feed_44 : decode b_SS_feed 44 = .ok (.aload_n 0, 1) := by decide +kernel
theorem d_SS_feed_45 : decode b_SS_feed 45 = .ok (.getfield 7, 3) := by decide +kernel
theorem d_SS_feed_48 : decode b_SS_feed 48 = .ok (.arraylength, 1) := by decide +kernel
theorem d_SS_feed_49 : decode b_SS_feed 49 = .ok (.imul, 1) := by decide +kernel
theorem d_SS_feed_50 : decode b_SS_feed 50 = .ok (.invokestatic 101, 3) := by decide +kernel
theorem d_SS_feed_53 : decode b_SS_feed 53 = .ok (.putfield 7, 3) := by decide +kernel
theorem d_SS_feed_56 : decode b_SS_feed 56 = .ok (.iload_n 3, 1) := by decide +kernel
theorem d_SS_feed_57 : decode b_SS_feed 57 = .ok (.iconst 1, 1) := by decide +kernel
theorem d_SS_feed_58 : decode b_SS_feed 58 = .ok (.isub, 1) := by decide +kernel
theorem d_SS_feed_59 : decode b_SS_feed 59 = .ok (.istore 4, 2) := by decide +kernel
theorem d_SS_feed_61 : decode b_SS_feed 61 = .ok (.iload 4, 2) := by decide +kernel
theorem d_SS_feed_63 : decode b_SS_feed 63 = .ok (.ifCond .lt 37, 3) := by decide +kernel
theorem d_SS_feed_66 : decode b_SS_feed 66 = .ok (.aload_n 0, 1) := by decide +kernel
theorem d_SS_feed_67 : decode b_SS_feed 67 = .ok (.getfield 7, 3) := by decide +kernel
theorem d_SS_feed_70 : decode b_SS_feed 70 = .ok (.aload_n 0, 1) := by decide +kernel
theorem d_SS_feed_71 : decode b_SS_feed 71 = .ok (.getfield 97, 3) := by decide +kernel
theorem d_SS_feed_74 : decode b_SS_feed 74 = .ok (.lload_n 1, 1) := by decide +kernel
theorem d_SS_feed_75 : decode b_SS_feed 75 = .ok (.bipush 8, 2) := by decide +kernel
theorem d_SS_feed_77 : decode b_SS_feed 77 = .ok (.iload 4, 2) := by decide +kernel
theorem d_SS_feed_79 : decode b_SS_feed 79 = .ok (.imul, 1) := by decide +kernel
theorem d_SS_feed_80 : decode b_SS_feed 80 = .ok (.lushr, 1) := by decide +kernel
theorem d_SS_feed_81 : decode b_SS_feed 81 = .ok (.l2i, 1) := by decide +kernel
theorem d_SS_feed_82 : decode b_SS_feed 82 = .ok (.i2b, 1) := by decide +kernel
theorem d_SS_feed_83 : decode b_SS_feed 83 = .ok (.bastore, 1) := by decide +kernel
theorem d_SS_feed_84 : decode b_SS_feed 84 = .ok (.aload_n 0, 1) := by decide +kernel
theorem d_SS_feed_85 : decode b_SS_feed 85 = .ok (.dup, 1) := by decide +kernel
theorem d_SS_feed_86 : decode b_SS_feed 86 = .ok (.getfield 97, 3) := by decide +kernel
theorem d_SS_feed_89 : decode b_SS_feed 89 = .ok (.iconst 1, 1) := by decide +kernel
theorem d_SS_feed_90 : decode b_SS_feed 90 = .ok (.iadd, 1) := by decide +kernel
theorem d_SS_feed_91 : decode b_SS_feed 91 = .ok (.putfield 97, 3) := by decide +kernel
theorem d_SS_feed_94 : decode b_SS_feed 94 = .ok (.iinc 4 (-1), 3) := by decide +kernel
theorem d_SS_feed_97 : decode b_SS_feed 97 = .ok (.goto (-36), 3) := by decide +kernel
theorem d_SS_feed_100 : decode b_SS_feed 100 = .ok (.aload_n 0, 1) := by decide +kernel
theorem d_SS_feed_101 : decode b_SS_feed 101 = .ok (.getfield 97, 3) := by decide +kernel
theorem d_SS_feed_104 : decode b_SS_feed 104 = .ok (.ireturn, 1) := by decide +kernel
/-- the fields of an object: the tape, its length, and whatever the others are -/
def sG (t : Nat) (tl : Int32) (y : Nat → Value) : List Value := [.ref t, .int tl, y 2, y 3, y 4, y 5, y 6, y 7, y 8, y 9, y 10, y 11, y 12, y 13, y 14, y 15, y 16, y 17]
theorem e_nar (x : Int32) : fits .byte (.int (vp_nar .byte x)) = true := by
  show (decide (-128 ≤ x.toInt8.toInt32) && decide (x.toInt8.toInt32 ≤ 127)) = true
  have h1 := Int8.le_toInt x.toInt8
  have h2 := Int8.toInt_lt x.toInt8
  have e1 : (-128 : Int32).toInt = -128 := by decide
  have e2 : (127 : Int32).toInt = 127 := by decide
  rw [Bool.and_eq_true, decide_eq_true_eq, decide_eq_true_eq, Int32.le_iff_toInt_le, Int32.le_iff_toInt_le, Int8.toInt_toInt32, e1, e2]
  omega
theorem e_upd {f : Nat → Int32} (hf : ∀ i, fits .byte (.int (f i)) = true) (k : Nat) (x : Int32) : ∀ i, fits .byte (.int (upd f k (vp_nar .byte x) i)) = true := by
  intro i
  unfold upd
  split
  · exact e_nar x
  · exact hf i
set_option maxHeartbeats 4000000 in
/-- the loop of feed: j bytes are still to come, k lie there at its end -/
theorem gl_SS_feed (l : Launch) (dC : Nat → ClassId) (dI : Nat → Nat → Nat) (ca : Nat → ClassId) (h0 t N : Nat) (y : Nat → Value) (x : Int64) (n3 : Int32) (hN : N < 2 ^ 29) {p : Program} {e : Env} {R : Room} {s : State} {m : MethodId} {args : Array Value} {below : List Frame} {meth : Method} {c : Code} {A : Nat → Prop} {Q : State → Prop} {cells slots : Nat}
    (hx : p.tables.exec = Jvm.exec) (hb : c.code = b_SS_feed) (hown : s.vm.findClass R_SS = some m.cls) (hts : ∀ w ∈ sk, w.before args s = true) (hK : sK dC dI ca s) :
    ∀ (j k : Nat), k + j ≤ N → j ≤ 8 → ∀ (f : Nat → Int32) (H : Heap) (locs : List Loc) (ls : Array Slot), (∀ i, fits .byte (.int (f i)) = true) → va_P (dC, dI) classes [(h0, .inr (7, sG t (nI k) y)), (t, .inl (ca 0, N, .inl f))] H → va_D A [(h0, .inr (7, sG t (nI k) y)), (t, .inl (ca 0, N, .inl f))] → va_S A s.heap H locs → lv_has ls 5 [(4, .int (nI j - 1)), (0, .ref h0), (1, .long x), (3, .int n3)] →
      (∀ (f : Nat → Int32) (H : Heap) (locs : List Loc) (ls : Array Slot), (∀ i, fits .byte (.int (f i)) = true) → va_P (dC, dI) classes [(h0, .inr (7, sG t (nI (k + j)) y)), (t, .inl (ca 0, N, .inl f))] H → va_D A [(h0, .inr (7, sG t (nI (k + j)) y)), (t, .inl (ca 0, N, .inl f))] → va_S A s.heap H locs → lv_has ls 5 [(4, .int (nI 0 - 1)), (0, .ref h0), (1, .long x), (3, .int n3)] → W p l e R s m args below meth c H locs cells slots Q (F0 m 100 ls [])) → W p l e R s m args below meth c H locs cells slots Q (F0 m 61 ls []) := by
  intro j
  induction j with
  | zero =>
    intro k _ _ f H locs ls hf hP hD hS hl kk
    refine lv_iload hx hb d_SS_feed_61 (lv_at hl 0 rfl) ?_
    refine lv_if_lt (tgt := 100) hx hb d_SS_feed_63 (by decide) (fun _ => ?_) (fun h => absurd (by decide) h)
    exact kk f H locs ls hf hP hD hS hl
  | succ j ih =>
    intro k hk h8 f H locs ls hf hP hD hS hl kk
    have e1 : nI (j + 1) - 1 = nI j := nI_pred j
    rw [e1] at hl
    refine lv_iload hx hb d_SS_feed_61 (lv_at hl 0 rfl) ?_
    refine lv_if_lt (tgt := 100) hx hb d_SS_feed_63 (by decide) (fun h => absurd h (nI_pos (by omega))) (fun _ => ?_)
    refine lv_aload_n hx hb d_SS_feed_66 rfl (lv_at hl 1 rfl) ?_
    refine va_get (D := (dC, dI)) (ci := 7) (v := .ref t) (C := R_SS) (T := F_SS) (N := 18) hx hb hts i_SS hown hK.1 hP 0 rfl rfl 0 (by decide) (hts _ xs_153) (fun _ h9 => h9) rfl d_SS_feed_67 ?_
    refine lv_aload_n hx hb d_SS_feed_70 rfl (lv_at hl 1 rfl) ?_
    refine va_get (D := (dC, dI)) (ci := 7) (v := .int (nI k)) (C := R_SS) (T := F_SS) (N := 18) hx hb hts i_SS hown hK.1 hP 0 rfl rfl 1 (by decide) (hts _ xs_154) (fun _ h9 => h9) rfl d_SS_feed_71 ?_
    refine lv_lload_n hx hb d_SS_feed_74 rfl (lv_at hl 2 rfl) ?_
    refine lv_bipush (v := 8) hx hb d_SS_feed_75 (by decide +kernel) ?_
    refine lv_iload hx hb d_SS_feed_77 (lv_at hl 0 rfl) ?_
    refine lv_imul hx hb d_SS_feed_79 ?_
    refine lv_lushr hx hb d_SS_feed_80 rfl ?_
    refine lv_l2i hx hb d_SS_feed_81 rfl ?_
    refine lv_i2b hx hb d_SS_feed_82 rfl ?_
    refine lv_topi (fun z _ => ?_)
    refine va_bast hx hb hK.1 hP hD hS 1 0 rfl rfl (vp_in_nI (by omega) (by omega)) d_SS_feed_83 (fun H locs hP hD hS => ?_)
    have hf2 := e_upd hf (nI k).toNatClampNeg z
    generalize upd f (nI k).toNatClampNeg (vp_nar .byte z) = f2 at hP hD hf2
    have hP : va_P (dC, dI) classes [(h0, .inr (7, sG t (nI k) y)), (t, .inl (ca 0, N, .inl f2))] H := hP
    have hD : va_D A [(h0, .inr (7, sG t (nI k) y)), (t, .inl (ca 0, N, .inl f2))] := hD
    refine lv_aload_n hx hb d_SS_feed_84 rfl (lv_at hl 1 rfl) ?_
    refine lv_dup hx hb d_SS_feed_85 rfl ?_
    refine va_get (D := (dC, dI)) (ci := 7) (v := .int (nI k)) (C := R_SS) (T := F_SS) (N := 18) hx hb hts i_SS hown hK.1 hP 0 rfl rfl 1 (by decide) (hts _ xs_154) (fun _ h9 => h9) rfl d_SS_feed_86 ?_
    refine lv_iconst (v := 1) hx hb d_SS_feed_89 (by decide) ?_
    refine lv_iadd hx hb d_SS_feed_90 ?_
    refine lv_topi (fun z e9 => ?_)
    obtain rfl : z = nI (k + 1) := by rw [e9]; exact nI_1 _
    refine va_put (D := (dC, dI)) (ci := 7) (v := .int (nI (k + 1))) (ty := .int) (C := R_SS) (T := F_SS) (N := 18) hx hb hts i_SS t_SS t_SS_ok n_SS hown hK.1 hP hD hS 0 rfl rfl 1 (by decide) (hts _ xs_154) (fun _ h9 => h9) rfl (by decide +kernel) rfl rfl (Nat.le_of_ble_eq_true rfl) d_SS_feed_91 (fun H locs hP hD hS => ?_)
    have hP : va_P (dC, dI) classes [(h0, .inr (7, sG t (nI (k + 1)) y)), (t, .inl (ca 0, N, .inl f2))] H := hP
    have hD : va_D A [(h0, .inr (7, sG t (nI (k + 1)) y)), (t, .inl (ca 0, N, .inl f2))] := hD
    refine lv_iinc (v := nI j - 1) (lv' := [(4, .int (nI j - 1)), (0, .ref h0), (1, .long x), (3, .int n3)]) hx hb d_SS_feed_94 hl (k := 0) rfl (by rw [Int32.sub_eq_add_neg]; rfl) (by decide) rfl (fun ls hl => ?_)
    refine lv_goto (tgt := 61) hx hb d_SS_feed_97 (by decide) ?_
    refine ih (k + 1) (by omega) (by omega) f2 H locs ls hf2 hP hD hS hl ?_
    have e2 : k + (j + 1) = k + 1 + j := by omega
    rw [e2] at kk
    exact kk
set_option maxHeartbeats 4000000 in
set_option maxRecDepth 100000 in
theorem ga_SS_feed (l : Launch) (dC : Nat → ClassId) (dI : Nat → Nat → Nat) (ca : Nat → ClassId) (h0 t N k : Nat) (f : Nat → Int32) (y : Nat → Value) (x : Int64) (n : Int32) (hc : n < 1) : CT l classes (dC, dI) (sK dC dI ca) sk y_SS_feed b_SS_feed 5 (some (.int)) 0 0 0 0 [.ref h0, .long x, .int n] [(h0, .inr (7, sG t (nI k) y)), (t, .inl (ca 0, N, .inl f))] (fun (v : Option Value) (u : Unit) => v = some (.int (-1))) (fun (u : Unit) => [(h0, .inr (7, sG t (nI k) y)), (t, .inl (ca 0, N, .inl f))]) := by
  refine ax_of (by decide) (Nat.le_of_ble_eq_true rfl) ?_
  intro p e s m below meth c A ls hAt hK hP hD hS hA hl
  obtain ⟨hx, hb, hr, hml, hown, hts, hlocks, hin⟩ := hAt
  have hl : lv_has ls 5 [(0, .ref h0), (1, .long x), (3, .int n)] := hl
  refine lv_iload_n hx hb d_SS_feed_0 rfl (lv_at hl 2 rfl) ?_
  refine lv_iconst (v := 1) hx hb d_SS_feed_1 (by decide) ?_
  refine lv_icmp_lt (tgt := 22) hx hb d_SS_feed_2 (by decide) (fun _ => ?_) (fun h => absurd hc h)
  refine lv_iconst (v := (-1)) hx hb d_SS_feed_22 (by decide) ?_
  exact ax_iret hx hb hr hlocks hP hD hS () rfl [0, 1] rfl (by decide) rfl (Nat.le_refl _) (Nat.le_refl _) d_SS_feed_23
theorem gb_no {n : Int32} (h : 8 < n) : ¬ n < 1 := by
  rw [Int32.lt_iff_toInt_lt] at h ⊢
  have e1 : (1 : Int32).toInt = 1 := by decide
  have e2 : (8 : Int32).toInt = 8 := by decide
  omega
set_option maxHeartbeats 4000000 in
set_option maxRecDepth 100000 in
theorem gb_SS_feed (l : Launch) (dC : Nat → ClassId) (dI : Nat → Nat → Nat) (ca : Nat → ClassId) (h0 t N k : Nat) (f : Nat → Int32) (y : Nat → Value) (x : Int64) (n : Int32) (hc : 8 < n) : CT l classes (dC, dI) (sK dC dI ca) sk y_SS_feed b_SS_feed 5 (some (.int)) 0 0 0 0 [.ref h0, .long x, .int n] [(h0, .inr (7, sG t (nI k) y)), (t, .inl (ca 0, N, .inl f))] (fun (v : Option Value) (u : Unit) => v = some (.int (-1))) (fun (u : Unit) => [(h0, .inr (7, sG t (nI k) y)), (t, .inl (ca 0, N, .inl f))]) := by
  refine ax_of (by decide) (Nat.le_of_ble_eq_true rfl) ?_
  intro p e s m below meth c A ls hAt hK hP hD hS hA hl
  obtain ⟨hx, hb, hr, hml, hown, hts, hlocks, hin⟩ := hAt
  have hl : lv_has ls 5 [(0, .ref h0), (1, .long x), (3, .int n)] := hl
  refine lv_iload_n hx hb d_SS_feed_0 rfl (lv_at hl 2 rfl) ?_
  refine lv_iconst (v := 1) hx hb d_SS_feed_1 (by decide) ?_
  refine lv_icmp_lt (tgt := 22) hx hb d_SS_feed_2 (by decide) (fun h => absurd h (gb_no hc)) (fun _ => ?_)
  refine lv_iload_n hx hb d_SS_feed_5 rfl (lv_at hl 2 rfl) ?_
  refine lv_bipush (v := 8) hx hb d_SS_feed_6 (by decide +kernel) ?_
  refine lv_icmp_gt (tgt := 22) hx hb d_SS_feed_8 (by decide) (fun _ => ?_) (fun h => absurd hc h)
  refine lv_iconst (v := (-1)) hx hb d_SS_feed_22 (by decide) ?_
  exact ax_iret hx hb hr hlocks hP hD hS () rfl [0, 1] rfl (by decide) rfl (Nat.le_refl _) (Nat.le_refl _) d_SS_feed_23
set_option maxHeartbeats 4000000 in
set_option maxRecDepth 100000 in
theorem gc_SS_feed (l : Launch) (dC : Nat → ClassId) (dI : Nat → Nat → Nat) (ca : Nat → ClassId) (h0 t N k : Nat) (f : Nat → Int32) (y : Nat → Value) (x : Int64) (j : Nat) (h1 : 1 ≤ j) (h8 : j ≤ 8) (hk : k ≤ 65536) (hf9 : 65536 < k + j) : CT l classes (dC, dI) (sK dC dI ca) sk y_SS_feed b_SS_feed 5 (some (.int)) 0 0 0 0 [.ref h0, .long x, .int (nI j)] [(h0, .inr (7, sG t (nI k) y)), (t, .inl (ca 0, N, .inl f))] (fun (v : Option Value) (u : Unit) => v = some (.int (-1))) (fun (u : Unit) => [(h0, .inr (7, sG t (nI k) y)), (t, .inl (ca 0, N, .inl f))]) := by
  refine ax_of (by decide) (Nat.le_of_ble_eq_true rfl) ?_
  intro p e s m below meth c A ls hAt hK hP hD hS hA hl
  obtain ⟨hx, hb, hr, hml, hown, hts, hlocks, hin⟩ := hAt
  have hl : lv_has ls 5 [(0, .ref h0), (1, .long x), (3, .int (nI j))] := hl
  refine lv_iload_n hx hb d_SS_feed_0 rfl (lv_at hl 2 rfl) ?_
  refine lv_iconst (v := 1) hx hb d_SS_feed_1 (by decide) ?_
  refine lv_icmp_lt (tgt := 22) hx hb d_SS_feed_2 (by decide) (fun h => absurd h (fun h9 => absurd ((nI_ltI (a := j) (b := 1) (by omega) (by omega)).mp h9) (by omega))) (fun _ => ?_)
  refine lv_iload_n hx hb d_SS_feed_5 rfl (lv_at hl 2 rfl) ?_
  refine lv_bipush (v := 8) hx hb d_SS_feed_6 (by decide +kernel) ?_
  refine lv_icmp_gt (tgt := 22) hx hb d_SS_feed_8 (by decide) (fun h => absurd h (fun h9 => absurd ((nI_ltI (a := 8) (b := j) (by omega) (by omega)).mp h9) (by omega))) (fun _ => ?_)
  refine lv_aload_n hx hb d_SS_feed_11 rfl (lv_at hl 0 rfl) ?_
  refine va_get (D := (dC, dI)) (ci := 7) (v := .int (nI k)) (C := R_SS) (T := F_SS) (N := 18) hx hb hts i_SS hown hK.1 hP 0 rfl rfl 1 (by decide) (hts _ xs_154) (fun _ h9 => h9) rfl d_SS_feed_12 ?_
  refine lv_iload_n hx hb d_SS_feed_15 rfl (lv_at hl 2 rfl) ?_
  refine lv_iadd hx hb d_SS_feed_16 ?_
  refine lv_topi (fun z e9 => ?_)
  obtain rfl : z = nI (k + j) := by rw [e9]; exact nI_add k j
  refine lv_ldc (v := 65536) hx hb hown (hts _ xs_173) d_SS_feed_17 ?_
  refine lv_icmp_le (tgt := 24) hx hb d_SS_feed_19 (by decide) (fun h => absurd h (nI_ge (a := 65536) (by omega) (by omega))) (fun _ => ?_)
  refine lv_iconst (v := (-1)) hx hb d_SS_feed_22 (by decide) ?_
  exact ax_iret hx hb hr hlocks hP hD hS () rfl [0, 1] rfl (by decide) rfl (Nat.le_refl _) (Nat.le_refl _) d_SS_feed_23
set_option maxHeartbeats 4000000 in
set_option maxRecDepth 100000 in
theorem gd_SS_feed (l : Launch) (dC : Nat → ClassId) (dI : Nat → Nat → Nat) (ca : Nat → ClassId) (h0 t N k : Nat) (f : Nat → Int32) (y : Nat → Value) (x : Int64) (hf : ∀ i, fits .byte (.int (f i)) = true) (j : Nat) (h1 : 1 ≤ j) (h8 : j ≤ 8) (hfit : k + j ≤ 65536) (hN : N < 2 ^ 28) (hN2 : k + j ≤ N) : CT l classes (dC, dI) (sK dC dI ca) sk y_SS_feed b_SS_feed 5 (some (.int)) 0 0 0 0 [.ref h0, .long x, .int (nI j)] [(h0, .inr (7, sG t (nI k) y)), (t, .inl (ca 0, N, .inl f))] (fun (v : Option Value) (u : Nat → Int32) => v = some (.int (nI (k + j))) ∧ ∀ i, fits .byte (.int (u i)) = true) (fun (u : Nat → Int32) => [(h0, .inr (7, sG t (nI (k + j)) y)), (t, .inl (ca 0, N, .inl u))]) := by
  refine ax_of (by decide) (Nat.le_of_ble_eq_true rfl) ?_
  intro p e s m below meth c A ls hAt hK hP hD hS hA hl
  obtain ⟨hx, hb, hr, hml, hown, hts, hlocks, hin⟩ := hAt
  have hl : lv_has ls 5 [(0, .ref h0), (1, .long x), (3, .int (nI j))] := hl
  refine lv_iload_n hx hb d_SS_feed_0 rfl (lv_at hl 2 rfl) ?_
  refine lv_iconst (v := 1) hx hb d_SS_feed_1 (by decide) ?_
  refine lv_icmp_lt (tgt := 22) hx hb d_SS_feed_2 (by decide) (fun h => absurd h (fun h9 => absurd ((nI_ltI (a := j) (b := 1) (by omega) (by omega)).mp h9) (by omega))) (fun _ => ?_)
  refine lv_iload_n hx hb d_SS_feed_5 rfl (lv_at hl 2 rfl) ?_
  refine lv_bipush (v := 8) hx hb d_SS_feed_6 (by decide +kernel) ?_
  refine lv_icmp_gt (tgt := 22) hx hb d_SS_feed_8 (by decide) (fun h => absurd h (fun h9 => absurd ((nI_ltI (a := 8) (b := j) (by omega) (by omega)).mp h9) (by omega))) (fun _ => ?_)
  refine lv_aload_n hx hb d_SS_feed_11 rfl (lv_at hl 0 rfl) ?_
  refine va_get (D := (dC, dI)) (ci := 7) (v := .int (nI k)) (C := R_SS) (T := F_SS) (N := 18) hx hb hts i_SS hown hK.1 hP 0 rfl rfl 1 (by decide) (hts _ xs_154) (fun _ h9 => h9) rfl d_SS_feed_12 ?_
  refine lv_iload_n hx hb d_SS_feed_15 rfl (lv_at hl 2 rfl) ?_
  refine lv_iadd hx hb d_SS_feed_16 ?_
  refine lv_topi (fun z e9 => ?_)
  obtain rfl : z = nI (k + j) := by rw [e9]; exact nI_add k j
  refine lv_ldc (v := 65536) hx hb hown (hts _ xs_173) d_SS_feed_17 ?_
  refine lv_icmp_le (tgt := 24) hx hb d_SS_feed_19 (by decide) (fun _ => ?_) (fun h => absurd (show nI (k + j) ≤ nI 65536 from nI_le (by omega) (by omega)) h)
  refine lv_aload_n hx hb d_SS_feed_24 rfl (lv_at hl 0 rfl) ?_
  refine va_get (D := (dC, dI)) (ci := 7) (v := .ref t) (C := R_SS) (T := F_SS) (N := 18) hx hb hts i_SS hown hK.1 hP 0 rfl rfl 0 (by decide) (hts _ xs_153) (fun _ h9 => h9) rfl d_SS_feed_25 ?_
  refine va_alen hx hb hK.1 hP 1 0 rfl rfl (v := nI N) rfl d_SS_feed_28 ?_
  refine lv_aload_n hx hb d_SS_feed_29 rfl (lv_at hl 0 rfl) ?_
  refine va_get (D := (dC, dI)) (ci := 7) (v := .int (nI k)) (C := R_SS) (T := F_SS) (N := 18) hx hb hts i_SS hown hK.1 hP 0 rfl rfl 1 (by decide) (hts _ xs_154) (fun _ h9 => h9) rfl d_SS_feed_30 ?_
  refine lv_iload_n hx hb d_SS_feed_33 rfl (lv_at hl 2 rfl) ?_
  refine lv_iadd hx hb d_SS_feed_34 ?_
  refine lv_topi (fun z e9 => ?_)
  obtain rfl : z = nI (k + j) := by rw [e9]; exact nI_add k j
  refine lv_icmp_ge (tgt := 56) hx hb d_SS_feed_35 (by decide) (fun _ => ?_) (fun h => absurd (nI_le hN2 (by omega)) h)
  refine lv_iload_n hx hb d_SS_feed_56 rfl (lv_at hl 2 rfl) ?_
  refine lv_iconst (v := 1) hx hb d_SS_feed_57 (by decide) ?_
  refine lv_isub hx hb d_SS_feed_58 ?_
  refine lv_istore (lv' := [(4, .int (nI j - 1)), (0, .ref h0), (1, .long x), (3, .int (nI j))]) hx hb d_SS_feed_59 hl (by decide) rfl (fun ls hl => ?_)
  refine gl_SS_feed l dC dI ca h0 t N y x (nI j) (by omega) hx hb hown hts hK j k (by omega) h8 f s.heap [] ls hf hP hD hS hl ?_
  clear hP hD hS hl
  intro f9 H locs ls hf9 hP hD hS hl
  refine lv_aload_n hx hb d_SS_feed_100 rfl (lv_at hl 1 rfl) ?_
  refine va_get (D := (dC, dI)) (ci := 7) (v := .int (nI (k + j))) (C := R_SS) (T := F_SS) (N := 18) hx hb hts i_SS hown hK.1 hP 0 rfl rfl 1 (by decide) (hts _ xs_154) (fun _ h9 => h9) rfl d_SS_feed_101 ?_
  exact ax_iret hx hb hr hlocks hP hD hS f9 ⟨rfl, hf9⟩ [0, 1] rfl (by decide) rfl (Nat.le_refl _) (Nat.le_refl _) d_SS_feed_104
set_option maxHeartbeats 4000000 in
set_option maxRecDepth 100000 in
theorem ge_SS_feed (l : Launch) (dC : Nat → ClassId) (dI : Nat → Nat → Nat) (ca : Nat → ClassId) (h0 t N k : Nat) (f : Nat → Int32) (y : Nat → Value) (x : Int64) (hf : ∀ i, fits .byte (.int (f i)) = true) (j : Nat) (h1 : 1 ≤ j) (h8 : j ≤ 8) (hfit : k + j ≤ 65536) (hN8 : 8 ≤ N) (hN : N < 2 ^ 28) (hk : k ≤ N) (hN2 : N < k + j) : CT l classes (dC, dI) (sK dC dI ca) sk y_SS_feed b_SS_feed 5 (some (.int)) 2 62 1 (2 * N) [.ref h0, .long x, .int (nI j)] [(h0, .inr (7, sG t (nI k) y)), (t, .inl (ca 0, N, .inl f))] (fun (v : Option Value) (u : Nat × (Nat → Int32)) => v = some (.int (nI (k + j))) ∧ ∀ i, fits .byte (.int (u.2 i)) = true) (fun (u : Nat × (Nat → Int32)) => [(h0, .inr (7, sG u.1 (nI (k + j)) y)), (u.1, .inl (ca 0, (2 * N), .inl u.2))]) := by
  refine ax_of (by decide) (Nat.le_of_ble_eq_true rfl) ?_
  intro p e s m below meth c A ls hAt hK hP hD hS hA hl
  obtain ⟨hx, hb, hr, hml, hown, hts, hlocks, hin⟩ := hAt
  have hl : lv_has ls 5 [(0, .ref h0), (1, .long x), (3, .int (nI j))] := hl
  refine lv_iload_n hx hb d_SS_feed_0 rfl (lv_at hl 2 rfl) ?_
  refine lv_iconst (v := 1) hx hb d_SS_feed_1 (by decide) ?_
  refine lv_icmp_lt (tgt := 22) hx hb d_SS_feed_2 (by decide) (fun h => absurd h (fun h9 => absurd ((nI_ltI (a := j) (b := 1) (by omega) (by omega)).mp h9) (by omega))) (fun _ => ?_)
  refine lv_iload_n hx hb d_SS_feed_5 rfl (lv_at hl 2 rfl) ?_
  refine lv_bipush (v := 8) hx hb d_SS_feed_6 (by decide +kernel) ?_
  refine lv_icmp_gt (tgt := 22) hx hb d_SS_feed_8 (by decide) (fun h => absurd h (fun h9 => absurd ((nI_ltI (a := 8) (b := j) (by omega) (by omega)).mp h9) (by omega))) (fun _ => ?_)
  refine lv_aload_n hx hb d_SS_feed_11 rfl (lv_at hl 0 rfl) ?_
  refine va_get (D := (dC, dI)) (ci := 7) (v := .int (nI k)) (C := R_SS) (T := F_SS) (N := 18) hx hb hts i_SS hown hK.1 hP 0 rfl rfl 1 (by decide) (hts _ xs_154) (fun _ h9 => h9) rfl d_SS_feed_12 ?_
  refine lv_iload_n hx hb d_SS_feed_15 rfl (lv_at hl 2 rfl) ?_
  refine lv_iadd hx hb d_SS_feed_16 ?_
  refine lv_topi (fun z e9 => ?_)
  obtain rfl : z = nI (k + j) := by rw [e9]; exact nI_add k j
  refine lv_ldc (v := 65536) hx hb hown (hts _ xs_173) d_SS_feed_17 ?_
  refine lv_icmp_le (tgt := 24) hx hb d_SS_feed_19 (by decide) (fun _ => ?_) (fun h => absurd (show nI (k + j) ≤ nI 65536 from nI_le (by omega) (by omega)) h)
  refine lv_aload_n hx hb d_SS_feed_24 rfl (lv_at hl 0 rfl) ?_
  refine va_get (D := (dC, dI)) (ci := 7) (v := .ref t) (C := R_SS) (T := F_SS) (N := 18) hx hb hts i_SS hown hK.1 hP 0 rfl rfl 0 (by decide) (hts _ xs_153) (fun _ h9 => h9) rfl d_SS_feed_25 ?_
  refine va_alen hx hb hK.1 hP 1 0 rfl rfl (v := nI N) rfl d_SS_feed_28 ?_
  refine lv_aload_n hx hb d_SS_feed_29 rfl (lv_at hl 0 rfl) ?_
  refine va_get (D := (dC, dI)) (ci := 7) (v := .int (nI k)) (C := R_SS) (T := F_SS) (N := 18) hx hb hts i_SS hown hK.1 hP 0 rfl rfl 1 (by decide) (hts _ xs_154) (fun _ h9 => h9) rfl d_SS_feed_30 ?_
  refine lv_iload_n hx hb d_SS_feed_33 rfl (lv_at hl 2 rfl) ?_
  refine lv_iadd hx hb d_SS_feed_34 ?_
  refine lv_topi (fun z e9 => ?_)
  obtain rfl : z = nI (k + j) := by rw [e9]; exact nI_add k j
  refine lv_icmp_ge (tgt := 56) hx hb d_SS_feed_35 (by decide) (fun h => absurd h (nI_ge hN2 (by omega))) (fun _ => ?_)
  refine lv_aload_n hx hb d_SS_feed_38 rfl (lv_at hl 0 rfl) ?_
  refine lv_aload_n hx hb d_SS_feed_39 rfl (lv_at hl 0 rfl) ?_
  refine va_get (D := (dC, dI)) (ci := 7) (v := .ref t) (C := R_SS) (T := F_SS) (N := 18) hx hb hts i_SS hown hK.1 hP 0 rfl rfl 0 (by decide) (hts _ xs_153) (fun _ h9 => h9) rfl d_SS_feed_40 ?_
  refine lv_iconst (v := 2) hx hb d_SS_feed_43 (by decide) ?_
  refine lv_aload_n hx hb d_SS_feed_44 rfl (lv_at hl 0 rfl) ?_
  refine va_get (D := (dC, dI)) (ci := 7) (v := .ref t) (C := R_SS) (T := F_SS) (N := 18) hx hb hts i_SS hown hK.1 hP 0 rfl rfl 0 (by decide) (hts _ xs_153) (fun _ h9 => h9) rfl d_SS_feed_45 ?_
  refine va_alen hx hb hK.1 hP 1 0 rfl rfl (v := nI N) rfl d_SS_feed_48 ?_
  refine lv_imul hx hb d_SS_feed_49 ?_
  refine lv_topi (fun z e9 => ?_)
  obtain rfl : z = nI (2 * N) := by rw [e9]; exact nI_dbl N
  refine ax_St (k := 2) (As := [.ref t, .int (nI (2 * N))]) (rest := [.ref h0]) (wr := [(h0, .inr (7, sG t (nI k) y))]) rfl hx hb hml hown hts g_sk (sK_bl dC dI ca) (e_JA_copyOf l dC dI ca t N f hf (by omega) hN) xs_174 xs_175 xs_11 xs_176 (by decide +kernel) rfl (Nat.le_of_ble_eq_true rfl) (Nat.le_of_ble_eq_true rfl) hl.1 (Nat.le_of_ble_eq_true rfl) (sK_up hK) hP hD hS hA [1] [0] rfl (by decide) rfl rfl (by decide) (by decide) (by show 0 + 1 ≤ 1; omega) (by show 0 + 2 * N ≤ 2 * N; omega) d_SS_feed_50 (fun v u H locs hp hP hD hS => ?_)
  obtain ⟨qm, g9⟩ := u
  obtain ⟨hp1, hg9⟩ := hp
  obtain rfl : v = some (.ref qm) := hp1
  have hP : va_P (dC, dI) classes [(h0, .inr (7, sG t (nI k) y)), (t, .inl (ca 0, N, .inl f)), (qm, .inl (ca 0, 2 * N, .inl g9))] H := hP
  have hD : va_D A [(h0, .inr (7, sG t (nI k) y)), (t, .inl (ca 0, N, .inl f)), (qm, .inl (ca 0, 2 * N, .inl g9))] := hD
  refine W.eq (g2 := F0 m 53 ls [.ref qm, .ref h0]) rfl ?_
  refine va_put (D := (dC, dI)) (ci := 7) (v := .ref qm) (ty := .array .byte) (C := R_SS) (T := F_SS) (N := 18) hx hb hts i_SS t_SS t_SS_ok n_SS hown hK.1 hP hD hS 0 rfl rfl 0 (by decide) (hts _ xs_153) (fun _ h9 => h9) rfl (by decide +kernel) rfl rfl (Nat.le_of_ble_eq_true rfl) d_SS_feed_53 (fun H locs hP hD hS => ?_)
  have hP := hP.sub (ws' := [(h0, .inr (7, sG qm (nI k) y)), (qm, .inl (ca 0, (2 * N), .inl g9))]) [0, 2] rfl
  have hD := hD.sub (ws' := [(h0, .inr (7, sG qm (nI k) y)), (qm, .inl (ca 0, (2 * N), .inl g9))]) [0, 2] (by decide) rfl
  refine lv_iload_n hx hb d_SS_feed_56 rfl (lv_at hl 2 rfl) ?_
  refine lv_iconst (v := 1) hx hb d_SS_feed_57 (by decide) ?_
  refine lv_isub hx hb d_SS_feed_58 ?_
  refine lv_istore (lv' := [(4, .int (nI j - 1)), (0, .ref h0), (1, .long x), (3, .int (nI j))]) hx hb d_SS_feed_59 hl (by decide) rfl (fun ls hl => ?_)
  refine gl_SS_feed l dC dI ca h0 qm (2 * N) y x (nI j) (by omega) hx hb hown hts hK j k (by omega) h8 g9 H locs ls hg9 hP hD hS hl ?_
  clear hP hD hS hl
  intro f9 H locs ls hf9 hP hD hS hl
  refine lv_aload_n hx hb d_SS_feed_100 rfl (lv_at hl 1 rfl) ?_
  refine va_get (D := (dC, dI)) (ci := 7) (v := .int (nI (k + j))) (C := R_SS) (T := F_SS) (N := 18) hx hb hts i_SS hown hK.1 hP 0 rfl rfl 1 (by decide) (hts _ xs_154) (fun _ h9 => h9) rfl d_SS_feed_101 ?_
  refine W.widen (k := 1) (n := 2 * N) (by omega) (by omega) ?_
  exact ax_iret hx hb hr hlocks hP hD hS (qm, f9) ⟨rfl, hf9⟩ [0, 1] rfl (by decide) rfl (Nat.le_refl _) (Nat.le_refl _) d_SS_feed_104
