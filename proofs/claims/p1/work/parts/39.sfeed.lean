theorem d_SS_feed_0 : decode b_SS_feed 0 = .ok (.iload_n 3, 1) := by decide +kernel
theorem d_SS_feed_1 : decode b_SS_feed 1 = .ok (.iconst 1, 1) := by decide +kernel
theorem d_SS_feed_2 : decode b_SS_feed 2 = .ok (.if_icmp .lt 20, 3) := by decide +kernel
theorem d_SS_feed_5 : decode b_SS_feed 5 = .ok (.iload_n 3, 1) := by decide +kernel
theorem d_SS_feed_6 : decode b_SS_feed 6 = .ok (.bipush 8, 2) := by decide +kernel
theorem d_SS_feed_8 : decode b_SS_feed 8 = .ok (.if_icmp .gt 14, 3) := by decide +kernel
theorem d_SS_feed_11 : decode b_SS_feed 11 = .ok (.aload_n 0, 1) := by decide +kernel
theorem d_SS_feed_12 : decode b_SS_feed 12 = .ok (.getfield 97, 3) := by decide +kernel
theorem d_SS_feed_15 : decode b_SS_feed 15 = .ok (.iload_n 3, 1) := by decide +kernel
theorem d_SS_feed_16 : decode b_SS_feed 16 = .ok (.iadd, 1) := by decide +kernel
theorem d_SS_feed_17 : decode b_SS_feed 17 = .ok (.ldc 100, 2) := by decide +kernel
theorem d_SS_feed_19 : decode b_SS_feed 19 = .ok (.if_icmp .le 5, 3) := by decide +kernel
theorem d_SS_feed_22 : decode b_SS_feed 22 = .ok (.iconst (-1), 1) := by decide +kernel
theorem d_SS_feed_23 : decode b_SS_feed 23 = .ok (.ireturn, 1) := by decide +kernel
theorem d_SS_feed_24 : decode b_SS_feed 24 = .ok (.aload_n 0, 1) := by decide +kernel
theorem d_SS_feed_25 : decode b_SS_feed 25 = .ok (.getfield 9, 3) := by decide +kernel
theorem d_SS_feed_28 : decode b_SS_feed 28 = .ok (.arraylength, 1) := by decide +kernel
theorem d_SS_feed_29 : decode b_SS_feed 29 = .ok (.aload_n 0, 1) := by decide +kernel
theorem d_SS_feed_30 : decode b_SS_feed 30 = .ok (.getfield 97, 3) := by decide +kernel
theorem d_SS_feed_33 : decode b_SS_feed 33 = .ok (.iload_n 3, 1) := by decide +kernel
theorem d_SS_feed_34 : decode b_SS_feed 34 = .ok (.iadd, 1) := by decide +kernel
theorem d_SS_feed_35 : decode b_SS_feed 35 = .ok (.if_icmp .ge 21, 3) := by decide +kernel
theorem d_SS_feed_56 : decode b_SS_feed 56 = .ok (.iload_n 3, 1) := by decide +kernel
theorem d_SS_feed_57 : decode b_SS_feed 57 = .ok (.iconst 1, 1) := by decide +kernel
theorem d_SS_feed_58 : decode b_SS_feed 58 = .ok (.isub, 1) := by decide +kernel
theorem d_SS_feed_59 : decode b_SS_feed 59 = .ok (.istore 4, 2) := by decide +kernel
theorem d_SS_feed_61 : decode b_SS_feed 61 = .ok (.iload 4, 2) := by decide +kernel
theorem d_SS_feed_63 : decode b_SS_feed 63 = .ok (.ifCond .lt 37, 3) := by decide +kernel
theorem d_SS_feed_66 : decode b_SS_feed 66 = .ok (.aload_n 0, 1) := by decide +kernel
theorem d_SS_feed_67 : decode b_SS_feed 67 = .ok (.getfield 9, 3) := by decide +kernel
theorem d_SS_feed_70 : decode b_SS_feed 70 = .ok (.aload_n 0, 1) := by decide +kernel
theorem d_SS_feed_71 : decode b_SS_feed 71 = .ok (.getfield 97, 3) := by decide +kernel
theorem d_SS_feed_74 : decode b_SS_feed 74 = .ok (.lload_n 1, 1) := by decide +kernel
theorem d_SS_feed_75 : decode b_SS_feed 75 = .ok (.bipush 8, 2) := by decide +kernel
theorem d_SS_feed_77 : decode b_SS_feed 77 = .ok (.iload 4, 2) := by decide +kernel
theorem d_SS_feed_79 : decode b_SS_feed 79 = .ok (.imul, 1) := by decide +kernel
theorem d_SS_feed_80 : decode b_SS_feed 80 = .ok (.lushr, 1) := by decide +kernel
theorem d_SS_feed_81 : decode b_SS_feed 81 = .ok (.l2i, 1) := by decide +kernel
theorem d_SS_feed_82 : decode b_SS_feed 82 = .ok (.i2b, 1) := by decide +kernel
theorem d_SS_feed_83 : decode b_SS_feed 83 = .ok (.bastore, 1) := by decide +kernel
theorem d_SS_feed_84 : decode b_SS_feed 84 = .ok (.aload_n 0, 1) := by decide +kernel
theorem d_SS_feed_85 : decode b_SS_feed 85 = .ok (.dup, 1) := by decide +kernel
theorem d_SS_feed_86 : decode b_SS_feed 86 = .ok (.getfield 97, 3) := by decide +kernel
theorem d_SS_feed_89 : decode b_SS_feed 89 = .ok (.iconst 1, 1) := by decide +kernel
theorem d_SS_feed_90 : decode b_SS_feed 90 = .ok (.iadd, 1) := by decide +kernel
theorem d_SS_feed_91 : decode b_SS_feed 91 = .ok (.putfield 97, 3) := by decide +kernel
theorem d_SS_feed_94 : decode b_SS_feed 94 = .ok (.iinc 4 (-1), 3) := by decide +kernel
theorem d_SS_feed_97 : decode b_SS_feed 97 = .ok (.goto (-36), 3) := by decide +kernel
theorem d_SS_feed_100 : decode b_SS_feed 100 = .ok (.aload_n 0, 1) := by decide +kernel
theorem d_SS_feed_101 : decode b_SS_feed 101 = .ok (.getfield 97, 3) := by decide +kernel
theorem d_SS_feed_104 : decode b_SS_feed 104 = .ok (.ireturn, 1) := by decide +kernel
theorem sn_in {n : Int32} (h1 : ¬ n < 1) (h2 : ¬ 8 < n) : 1 ≤ n.toInt64 ∧ n.toInt64 ≤ 8 := by
  rw [Int32.lt_iff_toInt_lt] at h1 h2
  have e1 : (1 : Int32).toInt = 1 := by decide
  have e2 : (8 : Int32).toInt = 8 := by decide
  have e3 : (1 : Int64).toInt = 1 := by decide
  have e4 : (8 : Int64).toInt = 8 := by decide
  constructor <;> rw [Int64.le_iff_toInt_le, Int32.toInt_toInt64] <;> omega
theorem sn_lo {n : Int32} (h : n < 1) : ¬ (1 ≤ n.toInt64 ∧ n.toInt64 ≤ 8) := by
  intro h2
  have h3 := Int64.le_iff_toInt_le.mp h2.1
  rw [Int32.toInt_toInt64] at h3
  rw [Int32.lt_iff_toInt_lt] at h
  have e1 : (1 : Int32).toInt = 1 := by decide
  have e3 : (1 : Int64).toInt = 1 := by decide
  omega
theorem sn_hi {n : Int32} (h : 8 < n) : ¬ (1 ≤ n.toInt64 ∧ n.toInt64 ≤ 8) := by
  intro h2
  have h3 := Int64.le_iff_toInt_le.mp h2.2
  rw [Int32.toInt_toInt64] at h3
  rw [Int32.lt_iff_toInt_lt] at h
  have e1 : (8 : Int32).toInt = 8 := by decide
  have e3 : (8 : Int64).toInt = 8 := by decide
  omega
set_option maxHeartbeats 4000000 in
/-- the loop of feed: j bytes are still to come -/
theorem lp_SS_feed (l : Launch) (dC : Nat → ClassId) (dI : Nat → Nat → Nat) (ca : Nat → ClassId) (h0 : Nat) (q : Nat → Nat) (x : Int64) (n : Nat) (hn : n ≤ 8) {p : Program} {e : Env} {R : Room} {s : State} {m : MethodId} {args : Array Value} {below : List Frame} {meth : Method} {c : Code} {A : Nat → Prop} {Q : State → Prop} {n3 : Int32}
    (hx : p.tables.exec = Jvm.exec) (hb : c.code = b_SS_feed) (hown : s.vm.findClass R_SS = some m.cls) (hts : ∀ w ∈ sk, w.before args s = true) (hK : sK dC dI ca s)
    (kk : ∀ (f : Nat → Int32) (H : Heap) (locs : List Loc) (ls : Array Slot), va_P (dC, dI) classes [(h0, .inr (7, sF q (nI n))), (q 0, .inl (ca 0, 256, .inl f))] H → va_D A [(h0, .inr (7, sF q (nI n))), (q 0, .inl (ca 0, 256, .inl f))] → va_S A s.heap H locs → lv_has ls 5 [(4, .int (nI 0 - 1)), (0, .ref h0), (1, .long x), (3, .int n3)] → W p l e R s m args below meth c H locs 0 0 Q (F0 m 100 ls [])) :
    ∀ (j : Nat), j ≤ n → ∀ (f : Nat → Int32) (H : Heap) (locs : List Loc) (ls : Array Slot), va_P (dC, dI) classes [(h0, .inr (7, sF q (nI (n - j)))), (q 0, .inl (ca 0, 256, .inl f))] H → va_D A [(h0, .inr (7, sF q (nI (n - j)))), (q 0, .inl (ca 0, 256, .inl f))] → va_S A s.heap H locs →
      lv_has ls 5 [(4, .int (nI j - 1)), (0, .ref h0), (1, .long x), (3, .int n3)] → W p l e R s m args below meth c H locs 0 0 Q (F0 m 61 ls []) := by
  intro j
  induction j with
  | zero =>
    intro _ f H locs ls hP hD hS hl
    refine lv_iload hx hb d_SS_feed_61 (lv_at hl 0 rfl) ?_
    refine lv_if_lt (tgt := 100) hx hb d_SS_feed_63 (by decide) (fun _ => ?_) (fun h => absurd (by decide) h)
    exact kk f H locs ls hP hD hS hl
  | succ j ih =>
    intro hj f H locs ls hP hD hS hl
    have e1 : nI (j + 1) - 1 = nI j := nI_pred j
    rw [e1] at hl
    refine lv_iload hx hb d_SS_feed_61 (lv_at hl 0 rfl) ?_
    refine lv_if_lt (tgt := 100) hx hb d_SS_feed_63 (by decide) (fun h => absurd h (nI_pos (by omega))) (fun _ => ?_)
    refine lv_aload_n hx hb d_SS_feed_66 rfl (lv_at hl 1 rfl) ?_
    refine va_get (D := (dC, dI)) (ci := 7) (v := .ref (q 0)) (C := R_SS) (T := F_SS) (N := 18) hx hb hts i_SS hown hK.1 hP 0 rfl rfl 0 (by decide) (hts _ xs_153) (fun _ h9 => h9) rfl d_SS_feed_67 ?_
    refine lv_aload_n hx hb d_SS_feed_70 rfl (lv_at hl 1 rfl) ?_
    refine va_get (D := (dC, dI)) (ci := 7) (v := .int (nI (n - (j + 1)))) (C := R_SS) (T := F_SS) (N := 18) hx hb hts i_SS hown hK.1 hP 0 rfl rfl 1 (by decide) (hts _ xs_154) (fun _ h9 => h9) rfl d_SS_feed_71 ?_
    refine lv_lload_n hx hb d_SS_feed_74 rfl (lv_at hl 2 rfl) ?_
    refine lv_bipush (v := 8) hx hb d_SS_feed_75 (by decide +kernel) ?_
    refine lv_iload hx hb d_SS_feed_77 (lv_at hl 0 rfl) ?_
    refine lv_imul hx hb d_SS_feed_79 ?_
    refine lv_lushr hx hb d_SS_feed_80 rfl ?_
    refine lv_l2i hx hb d_SS_feed_81 rfl ?_
    refine lv_i2b hx hb d_SS_feed_82 rfl ?_
    refine lv_topi (fun z _ => ?_)
    refine va_bast hx hb hK.1 hP hD hS 1 0 rfl rfl (vp_in_nI (by omega) (by omega)) d_SS_feed_83 (fun H locs hP hD hS => ?_)
    generalize upd f (nI (n - (j + 1))).toNatClampNeg (vp_nar .byte z) = f2 at hP hD
    have hP : va_P (dC, dI) classes [(h0, .inr (7, sF q (nI (n - (j + 1))))), (q 0, .inl (ca 0, 256, .inl f2))] H := hP
    have hD : va_D A [(h0, .inr (7, sF q (nI (n - (j + 1))))), (q 0, .inl (ca 0, 256, .inl f2))] := hD
    refine lv_aload_n hx hb d_SS_feed_84 rfl (lv_at hl 1 rfl) ?_
    refine lv_dup hx hb d_SS_feed_85 rfl ?_
    refine va_get (D := (dC, dI)) (ci := 7) (v := .int (nI (n - (j + 1)))) (C := R_SS) (T := F_SS) (N := 18) hx hb hts i_SS hown hK.1 hP 0 rfl rfl 1 (by decide) (hts _ xs_154) (fun _ h9 => h9) rfl d_SS_feed_86 ?_
    refine lv_iconst (v := 1) hx hb d_SS_feed_89 (by decide) ?_
    refine lv_iadd hx hb d_SS_feed_90 ?_
    refine lv_topi (fun z e9 => ?_)
    obtain rfl : z = nI (n - (j + 1) + 1) := by rw [e9]; exact nI_1 _
    refine va_put (D := (dC, dI)) (ci := 7) (v := .int (nI (n - (j + 1) + 1))) (ty := .int) (C := R_SS) (T := F_SS) (N := 18) hx hb hts i_SS t_SS t_SS_ok n_SS hown hK.1 hP hD hS 0 rfl rfl 1 (by decide) (hts _ xs_154) (fun _ h9 => h9) rfl (by decide +kernel) rfl rfl (Nat.le_of_ble_eq_true rfl) d_SS_feed_91 (fun H locs hP hD hS => ?_)
    have hP : va_P (dC, dI) classes [(h0, .inr (7, sF q (nI (n - (j + 1) + 1)))), (q 0, .inl (ca 0, 256, .inl f2))] H := hP
    have hD : va_D A [(h0, .inr (7, sF q (nI (n - (j + 1) + 1)))), (q 0, .inl (ca 0, 256, .inl f2))] := hD
    have e2 : n - (j + 1) + 1 = n - j := by omega
    rw [e2] at hP hD
    refine lv_iinc (v := nI j - 1) (lv' := [(4, .int (nI j - 1)), (0, .ref h0), (1, .long x), (3, .int n3)]) hx hb d_SS_feed_94 hl (k := 0) rfl (by rw [Int32.sub_eq_add_neg]; rfl) (by decide) rfl (fun ls hl => ?_)
    refine lv_goto (tgt := 61) hx hb d_SS_feed_97 (by decide) ?_
    exact ih (by omega) f2 H locs ls hP hD hS hl
set_option maxHeartbeats 4000000 in
set_option maxRecDepth 100000 in
theorem c_SS_feed (l : Launch) (dC : Nat → ClassId) (dI : Nat → Nat → Nat) (ca : Nat → ClassId) (h0 : Nat) (q : Nat → Nat) (x : Int64) (n : Int32) : CT l classes (dC, dI) (sK dC dI ca) sk y_SS_feed b_SS_feed 5 (some (.int)) 0 0 0 0 [.ref h0, .long x, .int n] [(h0, .inr (7, sF q 0)), (q 0, .inl (ca 0, 256, .inl (fun _ => 0)))] (fun (v : Option Value) (_ : Unit) => ((1 ≤ n.toInt64 ∧ n.toInt64 ≤ 8) ∧ v = some (.int n)) ∨ (¬ (1 ≤ n.toInt64 ∧ n.toInt64 ≤ 8) ∧ v = some (.int (-1)))) (fun (_ : Unit) => []) := by
  refine ax_of (by decide) (Nat.le_of_ble_eq_true rfl) ?_
  intro p e s m below meth c A ls hAt hK hP hD hS hA hl
  obtain ⟨hx, hb, hr, hml, hown, hts, hlocks, hin⟩ := hAt
  have hl : lv_has ls 5 [(0, .ref h0), (1, .long x), (3, .int n)] := hl
  have hno : ¬ (1 ≤ n.toInt64 ∧ n.toInt64 ≤ 8) → W p l e ({ frames := 0, cells := 0, slots := 0, locals := 0 }) s m [Value.ref h0, .long x, .int n].toArray below meth c s.heap [] 0 0 (MQ below (ax_Q (fun (v : Option Value) (_ : Unit) => ((1 ≤ n.toInt64 ∧ n.toInt64 ≤ 8) ∧ v = some (.int n)) ∨ (¬ (1 ≤ n.toInt64 ∧ n.toInt64 ≤ 8) ∧ v = some (.int (-1)))) (ax_B classes (dC, dI) A (fun (_ : Unit) => [])) A) [Value.ref h0, .long x, .int n].toArray s 0 0 A) (F0 m 22 ls []) := by
    intro hc
    refine lv_iconst (v := (-1)) hx hb d_SS_feed_22 (by decide) ?_
    exact ax_iret hx hb hr hlocks hP hD hS () (Or.inr ⟨hc, rfl⟩) [] rfl (by decide) rfl (Nat.le_refl _) (Nat.le_refl _) d_SS_feed_23
  refine lv_iload_n hx hb d_SS_feed_0 rfl (lv_at hl 2 rfl) ?_
  refine lv_iconst (v := 1) hx hb d_SS_feed_1 (by decide) ?_
  refine lv_icmp_lt (tgt := 22) hx hb d_SS_feed_2 (by decide) (fun h => hno (sn_lo h)) (fun h1 => ?_)
  refine lv_iload_n hx hb d_SS_feed_5 rfl (lv_at hl 2 rfl) ?_
  refine lv_bipush (v := 8) hx hb d_SS_feed_6 (by decide +kernel) ?_
  refine lv_icmp_gt (tgt := 22) hx hb d_SS_feed_8 (by decide) (fun h => hno (sn_hi h)) (fun h2 => ?_)
  have hc := sn_in h1 h2
  clear hno h1 h2
  refine lv_aload_n hx hb d_SS_feed_11 rfl (lv_at hl 0 rfl) ?_
  refine va_get (D := (dC, dI)) (ci := 7) (v := .int 0) (C := R_SS) (T := F_SS) (N := 18) hx hb hts i_SS hown hK.1 hP 0 rfl rfl 1 (by decide) (hts _ xs_154) (fun _ h9 => h9) rfl d_SS_feed_12 ?_
  refine lv_iload_n hx hb d_SS_feed_15 rfl (lv_at hl 2 rfl) ?_
  refine lv_iadd hx hb d_SS_feed_16 ?_
  refine lv_topi (fun z e9 => ?_)
  obtain rfl : z = n := by rw [e9, Int32.zero_add]
  obtain ⟨k, hk, rfl⟩ := n8_of hc
  refine lv_ldc (v := 65536) hx hb hown (hts _ xs_173) d_SS_feed_17 ?_
  refine lv_icmp_le (tgt := 24) hx hb d_SS_feed_19 (by decide) (fun _ => ?_) (fun h => absurd (show nI k ≤ nI 65536 from nI_le (by omega) (by omega)) h)
  refine lv_aload_n hx hb d_SS_feed_24 rfl (lv_at hl 0 rfl) ?_
  refine va_get (D := (dC, dI)) (ci := 7) (v := .ref (q 0)) (C := R_SS) (T := F_SS) (N := 18) hx hb hts i_SS hown hK.1 hP 0 rfl rfl 0 (by decide) (hts _ xs_153) (fun _ h9 => h9) rfl d_SS_feed_25 ?_
  refine va_alen hx hb hK.1 hP 1 0 rfl rfl (v := 256) rfl d_SS_feed_28 ?_
  refine lv_aload_n hx hb d_SS_feed_29 rfl (lv_at hl 0 rfl) ?_
  refine va_get (D := (dC, dI)) (ci := 7) (v := .int 0) (C := R_SS) (T := F_SS) (N := 18) hx hb hts i_SS hown hK.1 hP 0 rfl rfl 1 (by decide) (hts _ xs_154) (fun _ h9 => h9) rfl d_SS_feed_30 ?_
  refine lv_iload_n hx hb d_SS_feed_33 rfl (lv_at hl 2 rfl) ?_
  refine lv_iadd hx hb d_SS_feed_34 ?_
  refine lv_topi (fun z e9 => ?_)
  obtain rfl : z = nI k := by rw [e9, Int32.zero_add]
  refine lv_icmp_ge (tgt := 56) hx hb d_SS_feed_35 (by decide) (fun _ => ?_) (fun h => absurd (show nI k ≤ nI 256 from nI_le (by omega) (by omega)) h)
  refine lv_iload_n hx hb d_SS_feed_56 rfl (lv_at hl 2 rfl) ?_
  refine lv_iconst (v := 1) hx hb d_SS_feed_57 (by decide) ?_
  refine lv_isub hx hb d_SS_feed_58 ?_
  refine lv_istore (lv' := [(4, .int (nI k - 1)), (0, .ref h0), (1, .long x), (3, .int (nI k))]) hx hb d_SS_feed_59 hl (by decide) rfl (fun ls hl => ?_)
  have e1 : k - k = 0 := Nat.sub_self k
  refine lp_SS_feed l dC dI ca h0 q x k hk hx hb hown hts hK ?_ k (Nat.le_refl k) (fun _ => 0) s.heap [] ls (by rw [e1]; exact hP) (by rw [e1]; exact hD) hS hl
  intro f2 H locs ls hP hD hS hl
  refine lv_aload_n hx hb d_SS_feed_100 rfl (lv_at hl 1 rfl) ?_
  refine va_get (D := (dC, dI)) (ci := 7) (v := .int (nI k)) (C := R_SS) (T := F_SS) (N := 18) hx hb hts i_SS hown hK.1 hP 0 rfl rfl 1 (by decide) (hts _ xs_154) (fun _ h9 => h9) rfl d_SS_feed_101 ?_
  exact ax_iret hx hb hr hlocks hP hD hS () (Or.inl ⟨hc, rfl⟩) [] rfl (by decide) rfl (Nat.le_refl _) (Nat.le_refl _) d_SS_feed_104
