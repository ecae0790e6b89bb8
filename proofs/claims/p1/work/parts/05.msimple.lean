theorem d_MM_in_0 : decode b_MM_in 0 = .ok (.lload_n 0, 1) := by decide +kernel
theorem d_MM_in_1 : decode b_MM_in 1 = .ok (.lload_n 2, 1) := by decide +kernel
theorem d_MM_in_2 : decode b_MM_in 2 = .ok (.lcmp, 1) := by decide +kernel
theorem d_MM_in_3 : decode b_MM_in 3 = .ok (.ifCond .lt 14, 3) := by decide +kernel
theorem d_MM_in_6 : decode b_MM_in 6 = .ok (.lload_n 0, 1) := by decide +kernel
theorem d_MM_in_7 : decode b_MM_in 7 = .ok (.lload 4, 2) := by decide +kernel
theorem d_MM_in_9 : decode b_MM_in 9 = .ok (.lcmp, 1) := by decide +kernel
theorem d_MM_in_10 : decode b_MM_in 10 = .ok (.ifCond .gt 7, 3) := by decide +kernel
theorem d_MM_in_13 : decode b_MM_in 13 = .ok (.iconst 1, 1) := by decide +kernel
theorem d_MM_in_14 : decode b_MM_in 14 = .ok (.goto 4, 3) := by decide +kernel
theorem d_MM_in_17 : decode b_MM_in 17 = .ok (.iconst 0, 1) := by decide +kernel
theorem d_MM_in_18 : decode b_MM_in 18 = .ok (.ireturn, 1) := by decide +kernel
theorem lg_lt0 {x y : Int64} : lg_cmp x y < 0 ↔ x < y := by
  unfold lg_cmp
  by_cases h1 : y < x
  · have h2 : ¬ x < y := by rw [Int64.lt_iff_toInt_lt] at *; omega
    simp [h1, h2]
  · by_cases h3 : x = y
    · subst h3; simp
    · have h2 : x < y := by
        rw [Int64.lt_iff_toInt_lt] at *
        have : x.toInt ≠ y.toInt := fun h => h3 (Int64.toInt_inj.mp h)
        omega
      simp [h1, h3, h2]
theorem lg_gt0 {x y : Int64} : 0 < lg_cmp x y ↔ y < x := by
  unfold lg_cmp
  by_cases h1 : y < x
  · simp [h1]
  · by_cases h3 : x = y
    · subst h3; simp
    · simp [h1, h3]
set_option maxHeartbeats 4000000 in
theorem c_MM_in (l : Launch) (dC : Nat → ClassId) (dI : Nat → Nat → Nat) (ca : Nat → ClassId) (x lo hi : Int64) : CT l classes (dC, dI) (mK dC dI ca) wm y_MM_in b_MM_in 6 (some .boolean) 0 0 0 0 [.long x, .long lo, .long hi] [] (fun (v : Option Value) (_ : Unit) => (v = some (.int 1) ∧ lo ≤ x ∧ x ≤ hi) ∨ (v = some (.int 0) ∧ ¬ (lo ≤ x ∧ x ≤ hi))) (fun _ => []) := by
  refine ax_of (by decide) (Nat.le_of_ble_eq_true rfl) ?_
  intro p e s m below meth c A ls hAt hK hP hD hS hA hl
  obtain ⟨hx, hb, hr, hml, hown, hts, hlocks, hin⟩ := hAt
  have hl : lv_has ls 6 [(0, .long x), (2, .long lo), (4, .long hi)] := hl
  refine lv_lload_n hx hb d_MM_in_0 rfl (lv_at hl 0 rfl) ?_
  refine lv_lload_n hx hb d_MM_in_1 rfl (lv_at hl 1 rfl) ?_
  refine W.lcmp hx hb d_MM_in_2 ?_
  refine lv_if_lt (tgt := 17) hx hb d_MM_in_3 (by decide) (fun h1 => ?_) (fun h1 => ?_)
  · refine lv_iconst (v := 0) hx hb d_MM_in_17 (by decide) ?_
    exact ax_zret hx hb hr (by decide) hlocks hP hD hS () (Or.inr ⟨rfl, fun h => Int64.not_le.mpr (lg_lt0.mp h1) h.1⟩) [] rfl (by decide) rfl (Nat.le_refl _) (Nat.le_refl _) d_MM_in_18
  · refine lv_lload_n hx hb d_MM_in_6 rfl (lv_at hl 0 rfl) ?_
    refine lv_lload hx hb d_MM_in_7 (lv_at hl 2 rfl) ?_
    refine W.lcmp hx hb d_MM_in_9 ?_
    refine lv_if_gt (tgt := 17) hx hb d_MM_in_10 (by decide) (fun h2 => ?_) (fun h2 => ?_)
    · refine lv_iconst (v := 0) hx hb d_MM_in_17 (by decide) ?_
      exact ax_zret hx hb hr (by decide) hlocks hP hD hS () (Or.inr ⟨rfl, fun h => Int64.not_le.mpr (lg_gt0.mp h2) h.2⟩) [] rfl (by decide) rfl (Nat.le_refl _) (Nat.le_refl _) d_MM_in_18
    · refine lv_iconst (v := 1) hx hb d_MM_in_13 (by decide) ?_
      refine lv_goto (tgt := 18) hx hb d_MM_in_14 (by decide) ?_
      exact ax_zret hx hb hr (by decide) hlocks hP hD hS () (Or.inl ⟨rfl, Int64.not_lt.mp (fun h => h1 (lg_lt0.mpr h)), Int64.not_lt.mp (fun h => h2 (lg_gt0.mpr h))⟩) [] rfl (by decide) rfl (Nat.le_refl _) (Nat.le_refl _) d_MM_in_18
theorem in_no {x : Int64} : ¬ (0 ≤ x ∧ x ≤ -1) := by
  intro h
  have h1 := Int64.le_iff_toInt_le.mp h.1
  have h2 := Int64.le_iff_toInt_le.mp h.2
  have e1 : (0 : Int64).toInt = 0 := by decide
  have e2 : (-1 : Int64).toInt = -1 := by decide
  omega
/-- the fields of a fresh reference: its refs by q, all numbers 0 but thrown -/
def mF (q : Nat → Nat) (th : Int32) : List Value := [.int th, .ref (q 1), .ref (q 2), .ref (q 3), .ref (q 4), .ref (q 5), .int 0, .int 0, .int 0, .ref (q 9), .ref (q 10), .ref (q 11), .ref (q 12), .int 0, .null, .ref (q 15), .int 0, .ref (q 17), .ref (q 18), .ref (q 19), .ref (q 20), .ref (q 21), .ref (q 22), .int 0, .int 0, .int 0, .int 0, .ref (q 27), .ref (q 28), .ref (q 29), .ref (q 30), .ref (q 31), .ref (q 32), .ref (q 33), .int 0, .ref (q 35), .ref (q 36), .ref (q 37), .ref (q 38), .ref (q 39), .ref (q 40), .ref (q 41), .ref (q 42), .ref (q 43), .ref (q 44), .ref (q 45), .ref (q 46), .ref (q 47), .ref (q 48), .ref (q 49), .ref (q 50), .ref (q 51), .ref (q 52), .ref (q 53), .ref (q 54), .ref (q 55), .ref (q 56), .ref (q 57), .ref (q 58), .ref (q 59), .ref (q 60), .ref (q 61), .int 0, .int 0, .ref (q 64), .int 0, .int 0, .int 0, .int 0, .int 0, .ref (q 70), .null, .ref (q 72), .ref (q 73), .int 0, .int 0, .ref (q 76), .ref (q 77), .ref (q 78), .int 0, .ref (q 80), .null, .int 0, .int 0, .int 0, .int 0, .int 0, .null, .null, .int 0, .ref (q 90), .ref (q 91), .int 0, .ref (q 93), .ref (q 94), .ref (q 95), .ref (q 96), .int 0, .int 0, .int 0, .int 0, .int 0, .int 0, .ref (q 103), .ref (q 104), .int 0, .ref (q 106), .null, .ref (q 108), .ref (q 109), .ref (q 110), .ref (q 111), .ref (q 112), .ref (q 113), .ref (q 114), .int 0, .ref (q 116), .ref (q 117), .ref (q 118), .ref (q 119), .ref (q 120), .ref (q 121), .ref (q 122), .ref (q 123), .ref (q 124), .ref (q 125), .ref (q 126), .ref (q 127), .ref (q 128), .ref (q 129), .int 0, .int 0]
theorem d_MM_isMember_0 : decode b_MM_isMember 0 = .ok (.iload_n 1, 1) := by decide +kernel
theorem d_MM_isMember_1 : decode b_MM_isMember 1 = .ok (.i2l, 1) := by decide +kernel
theorem d_MM_isMember_2 : decode b_MM_isMember 2 = .ok (.lconst 0, 1) := by decide +kernel
theorem d_MM_isMember_3 : decode b_MM_isMember 3 = .ok (.aload_n 0, 1) := by decide +kernel
theorem d_MM_isMember_4 : decode b_MM_isMember 4 = .ok (.getfield 410, 3) := by decide +kernel
theorem d_MM_isMember_7 : decode b_MM_isMember 7 = .ok (.iconst 1, 1) := by decide +kernel
theorem d_MM_isMember_8 : decode b_MM_isMember 8 = .ok (.isub, 1) := by decide +kernel
theorem d_MM_isMember_9 : decode b_MM_isMember 9 = .ok (.i2l, 1) := by decide +kernel
theorem d_MM_isMember_10 : decode b_MM_isMember 10 = .ok (.invokestatic 349, 3) := by decide +kernel
theorem d_MM_isMember_13 : decode b_MM_isMember 13 = .ok (.ifCond .eq 28, 3) := by decide +kernel
theorem d_MM_isMember_41 : decode b_MM_isMember 41 = .ok (.iconst 0, 1) := by decide +kernel
theorem d_MM_isMember_42 : decode b_MM_isMember 42 = .ok (.ireturn, 1) := by decide +kernel
set_option maxHeartbeats 4000000 in
set_option maxRecDepth 100000 in
theorem c_MM_isMember (l : Launch) (dC : Nat → ClassId) (dI : Nat → Nat → Nat) (ca : Nat → ClassId) (h0 : Nat) (q : Nat → Nat) (th : Int32) (f g : Int32) : CT l classes (dC, dI) (mK dC dI ca) wm y_MM_isMember b_MM_isMember 3 (some (.boolean)) 1 25 0 0 [.ref h0, .int f, .int g] [(h0, .inr (0, mF q th))] (fun (v : Option Value) (_ : Unit) => v = some (.int 0)) (fun (_ : Unit) => [(h0, .inr (0, mF q th))]) := by
  refine ax_of (by decide) (Nat.le_of_ble_eq_true rfl) ?_
  intro p e s m below meth c A ls hAt hK hP hD hS hA hl
  obtain ⟨hx, hb, hr, hml, hown, hts, hlocks, hin⟩ := hAt
  have hl : lv_has ls 3 [(0, .ref h0), (1, .int f), (2, .int g)] := hl
  refine lv_iload_n hx hb d_MM_isMember_0 rfl (lv_at hl 1 rfl) ?_
  refine lv_i2l hx hb d_MM_isMember_1 rfl ?_
  refine lv_lconst (v := 0) hx hb d_MM_isMember_2 (by decide) ?_
  refine lv_aload_n hx hb d_MM_isMember_3 rfl (lv_at hl 0 rfl) ?_
  refine va_get (D := (dC, dI)) (ci := 0) (v := .int 0) (C := R_MM) (T := F_MM) (N := 132) hx hb hts i_MM hown hK.1 hP 0 rfl rfl 8 (by decide) (hts _ xm_81) (fun _ h9 => h9) rfl d_MM_isMember_4 ?_
  refine lv_iconst (v := 1) hx hb d_MM_isMember_7 (by decide) ?_
  refine lv_isub hx hb d_MM_isMember_8 ?_
  refine lv_topi (fun z e9 => ?_)
  obtain rfl : z = (-1) := by rw [e9]; decide
  refine lv_i2l (v := (-1)) hx hb d_MM_isMember_9 (by decide) ?_
  refine ax_St (k := 3) (As := [.long (f.toInt64), .long 0, .long (-1)]) (rest := []) (wr := [(h0, .inr (0, mF q th))]) rfl hx hb hml hown hts g_wm (mK_bl dC dI ca) (c_MM_in l dC dI ca (f.toInt64) 0 (-1)) xm_182 xm_183 xm_0 xm_184 (by decide +kernel) rfl (Nat.le_of_ble_eq_true rfl) (Nat.le_of_ble_eq_true rfl) hl.1 (Nat.le_of_ble_eq_true rfl) (mK_up hK) hP hD hS hA [] [0] rfl (by decide) rfl rfl (by decide) (by decide) (Nat.le_of_ble_eq_true rfl) (Nat.le_of_ble_eq_true rfl) d_MM_isMember_10 (fun v _ H locs hp hP hD hS => ?_)
  obtain rfl : v = some (.int 0) := hp.elim (fun h => absurd h.2 in_no) (fun h => h.1)
  have hP : va_P (dC, dI) classes [(h0, .inr (0, mF q th))] H := hP
  have hD : va_D A [(h0, .inr (0, mF q th))] := hD
  refine W.eq (g2 := F0 m 13 ls [.int 0]) rfl ?_
  refine lv_if_eq (tgt := 41) hx hb d_MM_isMember_13 (by decide) (fun _ => ?_) (fun h => absurd (by decide) h)
  refine lv_iconst (v := 0) hx hb d_MM_isMember_41 (by decide) ?_
  exact ax_zret hx hb hr (by decide) hlocks hP hD hS () rfl [0] rfl (by decide) rfl (Nat.le_of_ble_eq_true rfl) (Nat.le_of_ble_eq_true rfl) d_MM_isMember_42
theorem d_MM_file_0 : decode b_MM_file 0 = .ok (.aload_n 0, 1) := by decide +kernel
theorem d_MM_file_1 : decode b_MM_file 1 = .ok (.iconst 0, 1) := by decide +kernel
theorem d_MM_file_2 : decode b_MM_file 2 = .ok (.putfield 343, 3) := by decide +kernel
theorem d_MM_file_5 : decode b_MM_file 5 = .ok (.iload_n 1, 1) := by decide +kernel
theorem d_MM_file_6 : decode b_MM_file 6 = .ok (.i2l, 1) := by decide +kernel
theorem d_MM_file_7 : decode b_MM_file 7 = .ok (.lconst 0, 1) := by decide +kernel
theorem d_MM_file_8 : decode b_MM_file 8 = .ok (.aload_n 0, 1) := by decide +kernel
theorem d_MM_file_9 : decode b_MM_file 9 = .ok (.getfield 410, 3) := by decide +kernel
theorem d_MM_file_12 : decode b_MM_file 12 = .ok (.iconst 1, 1) := by decide +kernel
theorem d_MM_file_13 : decode b_MM_file 13 = .ok (.isub, 1) := by decide +kernel
theorem d_MM_file_14 : decode b_MM_file 14 = .ok (.i2l, 1) := by decide +kernel
theorem d_MM_file_15 : decode b_MM_file 15 = .ok (.invokestatic 349, 3) := by decide +kernel
theorem d_MM_file_18 : decode b_MM_file 18 = .ok (.ifCond .ne 5, 3) := by decide +kernel
theorem d_MM_file_21 : decode b_MM_file 21 = .ok (.iconst (-1), 1) := by decide +kernel
theorem d_MM_file_22 : decode b_MM_file 22 = .ok (.ireturn, 1) := by decide +kernel
set_option maxHeartbeats 4000000 in
set_option maxRecDepth 100000 in
theorem c_MM_file (l : Launch) (dC : Nat → ClassId) (dI : Nat → Nat → Nat) (ca : Nat → ClassId) (h0 : Nat) (q : Nat → Nat) (th : Int32) (f g : Int32) : CT l classes (dC, dI) (mK dC dI ca) wm y_MM_file b_MM_file 4 (some (.int)) 1 25 0 0 [.ref h0, .int f, .int g] [(h0, .inr (0, mF q th))] (fun (v : Option Value) (_ : Unit) => v = some (.int (-1))) (fun (_ : Unit) => [(h0, .inr (0, mF q 0))]) := by
  refine ax_of (by decide) (Nat.le_of_ble_eq_true rfl) ?_
  intro p e s m below meth c A ls hAt hK hP hD hS hA hl
  obtain ⟨hx, hb, hr, hml, hown, hts, hlocks, hin⟩ := hAt
  have hl : lv_has ls 4 [(0, .ref h0), (1, .int f), (2, .int g)] := hl
  refine lv_aload_n hx hb d_MM_file_0 rfl (lv_at hl 0 rfl) ?_
  refine lv_iconst (v := 0) hx hb d_MM_file_1 (by decide) ?_
  refine va_put (D := (dC, dI)) (ci := 0) (v := .int 0) (ty := .int) (C := R_MM) (T := F_MM) (N := 132) hx hb hts i_MM t_MM t_MM_ok n_MM hown hK.1 hP hD hS 0 rfl rfl 0 (by decide) (hts _ xm_73) (fun _ h9 => h9) rfl (by decide +kernel) rfl rfl (Nat.le_of_ble_eq_true rfl) d_MM_file_2 (fun H locs hP hD hS => ?_)
  have hP : va_P (dC, dI) classes [(h0, .inr (0, mF q 0))] H := hP
  have hD : va_D A [(h0, .inr (0, mF q 0))] := hD
  refine lv_iload_n hx hb d_MM_file_5 rfl (lv_at hl 1 rfl) ?_
  refine lv_i2l hx hb d_MM_file_6 rfl ?_
  refine lv_lconst (v := 0) hx hb d_MM_file_7 (by decide) ?_
  refine lv_aload_n hx hb d_MM_file_8 rfl (lv_at hl 0 rfl) ?_
  refine va_get (D := (dC, dI)) (ci := 0) (v := .int 0) (C := R_MM) (T := F_MM) (N := 132) hx hb hts i_MM hown hK.1 hP 0 rfl rfl 8 (by decide) (hts _ xm_81) (fun _ h9 => h9) rfl d_MM_file_9 ?_
  refine lv_iconst (v := 1) hx hb d_MM_file_12 (by decide) ?_
  refine lv_isub hx hb d_MM_file_13 ?_
  refine lv_topi (fun z e9 => ?_)
  obtain rfl : z = (-1) := by rw [e9]; decide
  refine lv_i2l (v := (-1)) hx hb d_MM_file_14 (by decide) ?_
  refine ax_St (k := 3) (As := [.long (f.toInt64), .long 0, .long (-1)]) (rest := []) (wr := [(h0, .inr (0, mF q 0))]) rfl hx hb hml hown hts g_wm (mK_bl dC dI ca) (c_MM_in l dC dI ca (f.toInt64) 0 (-1)) xm_182 xm_183 xm_0 xm_184 (by decide +kernel) rfl (Nat.le_of_ble_eq_true rfl) (Nat.le_of_ble_eq_true rfl) hl.1 (Nat.le_of_ble_eq_true rfl) (mK_up hK) hP hD hS hA [] [0] rfl (by decide) rfl rfl (by decide) (by decide) (Nat.le_of_ble_eq_true rfl) (Nat.le_of_ble_eq_true rfl) d_MM_file_15 (fun v _ H locs hp hP hD hS => ?_)
  obtain rfl : v = some (.int 0) := hp.elim (fun h => absurd h.2 in_no) (fun h => h.1)
  have hP : va_P (dC, dI) classes [(h0, .inr (0, mF q 0))] H := hP
  have hD : va_D A [(h0, .inr (0, mF q 0))] := hD
  refine W.eq (g2 := F0 m 18 ls [.int 0]) rfl ?_
  refine lv_if_ne (tgt := 23) hx hb d_MM_file_18 (by decide) (fun h => absurd h (by decide)) (fun _ => ?_)
  refine lv_iconst (v := (-1)) hx hb d_MM_file_21 (by decide) ?_
  exact ax_iret hx hb hr hlocks hP hD hS () rfl [0] rfl (by decide) rfl (Nat.le_of_ble_eq_true rfl) (Nat.le_of_ble_eq_true rfl) d_MM_file_22
theorem d_MM_byteAt_0 : decode b_MM_byteAt 0 = .ok (.aload_n 0, 1) := by decide +kernel
theorem d_MM_byteAt_1 : decode b_MM_byteAt 1 = .ok (.iconst 0, 1) := by decide +kernel
theorem d_MM_byteAt_2 : decode b_MM_byteAt 2 = .ok (.putfield 343, 3) := by decide +kernel
theorem d_MM_byteAt_5 : decode b_MM_byteAt 5 = .ok (.iload_n 1, 1) := by decide +kernel
theorem d_MM_byteAt_6 : decode b_MM_byteAt 6 = .ok (.i2l, 1) := by decide +kernel
theorem d_MM_byteAt_7 : decode b_MM_byteAt 7 = .ok (.lconst 0, 1) := by decide +kernel
theorem d_MM_byteAt_8 : decode b_MM_byteAt 8 = .ok (.aload_n 0, 1) := by decide +kernel
theorem d_MM_byteAt_9 : decode b_MM_byteAt 9 = .ok (.getfield 410, 3) := by decide +kernel
theorem d_MM_byteAt_12 : decode b_MM_byteAt 12 = .ok (.iconst 1, 1) := by decide +kernel
theorem d_MM_byteAt_13 : decode b_MM_byteAt 13 = .ok (.isub, 1) := by decide +kernel
theorem d_MM_byteAt_14 : decode b_MM_byteAt 14 = .ok (.i2l, 1) := by decide +kernel
theorem d_MM_byteAt_15 : decode b_MM_byteAt 15 = .ok (.invokestatic 349, 3) := by decide +kernel
theorem d_MM_byteAt_18 : decode b_MM_byteAt 18 = .ok (.ifCond .eq 30, 3) := by decide +kernel
theorem d_MM_byteAt_48 : decode b_MM_byteAt 48 = .ok (.iconst (-1), 1) := by decide +kernel
theorem d_MM_byteAt_49 : decode b_MM_byteAt 49 = .ok (.ireturn, 1) := by decide +kernel
set_option maxHeartbeats 4000000 in
set_option maxRecDepth 100000 in
theorem c_MM_byteAt (l : Launch) (dC : Nat → ClassId) (dI : Nat → Nat → Nat) (ca : Nat → ClassId) (h0 : Nat) (q : Nat → Nat) (th : Int32) (f g i : Int32) : CT l classes (dC, dI) (mK dC dI ca) wm y_MM_byteAt b_MM_byteAt 5 (some (.int)) 1 25 0 0 [.ref h0, .int f, .int g, .int i] [(h0, .inr (0, mF q th))] (fun (v : Option Value) (_ : Unit) => v = some (.int (-1))) (fun (_ : Unit) => [(h0, .inr (0, mF q 0))]) := by
  refine ax_of (by decide) (Nat.le_of_ble_eq_true rfl) ?_
  intro p e s m below meth c A ls hAt hK hP hD hS hA hl
  obtain ⟨hx, hb, hr, hml, hown, hts, hlocks, hin⟩ := hAt
  have hl : lv_has ls 5 [(0, .ref h0), (1, .int f), (2, .int g), (3, .int i)] := hl
  refine lv_aload_n hx hb d_MM_byteAt_0 rfl (lv_at hl 0 rfl) ?_
  refine lv_iconst (v := 0) hx hb d_MM_byteAt_1 (by decide) ?_
  refine va_put (D := (dC, dI)) (ci := 0) (v := .int 0) (ty := .int) (C := R_MM) (T := F_MM) (N := 132) hx hb hts i_MM t_MM t_MM_ok n_MM hown hK.1 hP hD hS 0 rfl rfl 0 (by decide) (hts _ xm_73) (fun _ h9 => h9) rfl (by decide +kernel) rfl rfl (Nat.le_of_ble_eq_true rfl) d_MM_byteAt_2 (fun H locs hP hD hS => ?_)
  have hP : va_P (dC, dI) classes [(h0, .inr (0, mF q 0))] H := hP
  have hD : va_D A [(h0, .inr (0, mF q 0))] := hD
  refine lv_iload_n hx hb d_MM_byteAt_5 rfl (lv_at hl 1 rfl) ?_
  refine lv_i2l hx hb d_MM_byteAt_6 rfl ?_
  refine lv_lconst (v := 0) hx hb d_MM_byteAt_7 (by decide) ?_
  refine lv_aload_n hx hb d_MM_byteAt_8 rfl (lv_at hl 0 rfl) ?_
  refine va_get (D := (dC, dI)) (ci := 0) (v := .int 0) (C := R_MM) (T := F_MM) (N := 132) hx hb hts i_MM hown hK.1 hP 0 rfl rfl 8 (by decide) (hts _ xm_81) (fun _ h9 => h9) rfl d_MM_byteAt_9 ?_
  refine lv_iconst (v := 1) hx hb d_MM_byteAt_12 (by decide) ?_
  refine lv_isub hx hb d_MM_byteAt_13 ?_
  refine lv_topi (fun z e9 => ?_)
  obtain rfl : z = (-1) := by rw [e9]; decide
  refine lv_i2l (v := (-1)) hx hb d_MM_byteAt_14 (by decide) ?_
  refine ax_St (k := 3) (As := [.long (f.toInt64), .long 0, .long (-1)]) (rest := []) (wr := [(h0, .inr (0, mF q 0))]) rfl hx hb hml hown hts g_wm (mK_bl dC dI ca) (c_MM_in l dC dI ca (f.toInt64) 0 (-1)) xm_182 xm_183 xm_0 xm_184 (by decide +kernel) rfl (Nat.le_of_ble_eq_true rfl) (Nat.le_of_ble_eq_true rfl) hl.1 (Nat.le_of_ble_eq_true rfl) (mK_up hK) hP hD hS hA [] [0] rfl (by decide) rfl rfl (by decide) (by decide) (Nat.le_of_ble_eq_true rfl) (Nat.le_of_ble_eq_true rfl) d_MM_byteAt_15 (fun v _ H locs hp hP hD hS => ?_)
  obtain rfl : v = some (.int 0) := hp.elim (fun h => absurd h.2 in_no) (fun h => h.1)
  have hP : va_P (dC, dI) classes [(h0, .inr (0, mF q 0))] H := hP
  have hD : va_D A [(h0, .inr (0, mF q 0))] := hD
  refine W.eq (g2 := F0 m 18 ls [.int 0]) rfl ?_
  refine lv_if_eq (tgt := 48) hx hb d_MM_byteAt_18 (by decide) (fun _ => ?_) (fun h => absurd (by decide) h)
  refine lv_iconst (v := (-1)) hx hb d_MM_byteAt_48 (by decide) ?_
  exact ax_iret hx hb hr hlocks hP hD hS () rfl [0] rfl (by decide) rfl (Nat.le_of_ble_eq_true rfl) (Nat.le_of_ble_eq_true rfl) d_MM_byteAt_49
theorem d_MM_member_1_0 : decode b_MM_member_1 0 = .ok (.aload_n 0, 1) := by decide +kernel
theorem d_MM_member_1_1 : decode b_MM_member_1 1 = .ok (.iconst 0, 1) := by decide +kernel
theorem d_MM_member_1_2 : decode b_MM_member_1 2 = .ok (.putfield 343, 3) := by decide +kernel
theorem d_MM_member_1_5 : decode b_MM_member_1 5 = .ok (.aload_n 0, 1) := by decide +kernel
theorem d_MM_member_1_6 : decode b_MM_member_1 6 = .ok (.iload_n 1, 1) := by decide +kernel
theorem d_MM_member_1_7 : decode b_MM_member_1 7 = .ok (.iload_n 2, 1) := by decide +kernel
theorem d_MM_member_1_8 : decode b_MM_member_1 8 = .ok (.invokevirtual 1468, 3) := by decide +kernel
theorem d_MM_member_1_11 : decode b_MM_member_1 11 = .ok (.ifCond .ne 5, 3) := by decide +kernel
theorem d_MM_member_1_14 : decode b_MM_member_1 14 = .ok (.iconst (-1), 1) := by decide +kernel
theorem d_MM_member_1_15 : decode b_MM_member_1 15 = .ok (.ireturn, 1) := by decide +kernel
set_option maxHeartbeats 4000000 in
set_option maxRecDepth 100000 in
theorem c_MM_member_1 (l : Launch) (dC : Nat → ClassId) (dI : Nat → Nat → Nat) (ca : Nat → ClassId) (h0 : Nat) (q : Nat → Nat) (th : Int32) (f g i : Int32) : CT l classes (dC, dI) (mK dC dI ca) wm y_MM_member_1 b_MM_member_1 5 (some (.int)) 2 47 0 0 [.ref h0, .int f, .int g, .int i] [(h0, .inr (0, mF q th))] (fun (v : Option Value) (_ : Unit) => v = some (.int (-1))) (fun (_ : Unit) => [(h0, .inr (0, mF q 0))]) := by
  refine ax_of (by decide) (Nat.le_of_ble_eq_true rfl) ?_
  intro p e s m below meth c A ls hAt hK hP hD hS hA hl
  obtain ⟨hx, hb, hr, hml, hown, hts, hlocks, hin⟩ := hAt
  have hl : lv_has ls 5 [(0, .ref h0), (1, .int f), (2, .int g), (3, .int i)] := hl
  refine lv_aload_n hx hb d_MM_member_1_0 rfl (lv_at hl 0 rfl) ?_
  refine lv_iconst (v := 0) hx hb d_MM_member_1_1 (by decide) ?_
  refine va_put (D := (dC, dI)) (ci := 0) (v := .int 0) (ty := .int) (C := R_MM) (T := F_MM) (N := 132) hx hb hts i_MM t_MM t_MM_ok n_MM hown hK.1 hP hD hS 0 rfl rfl 0 (by decide) (hts _ xm_73) (fun _ h9 => h9) rfl (by decide +kernel) rfl rfl (Nat.le_of_ble_eq_true rfl) d_MM_member_1_2 (fun H locs hP hD hS => ?_)
  have hP : va_P (dC, dI) classes [(h0, .inr (0, mF q 0))] H := hP
  have hD : va_D A [(h0, .inr (0, mF q 0))] := hD
  refine lv_aload_n hx hb d_MM_member_1_5 rfl (lv_at hl 0 rfl) ?_
  refine lv_iload_n hx hb d_MM_member_1_6 rfl (lv_at hl 1 rfl) ?_
  refine lv_iload_n hx hb d_MM_member_1_7 rfl (lv_at hl 2 rfl) ?_
  refine ax_V (ci := 0) (q0 := 0) (k := 2) (As := [.int f, .int g]) (rest := []) (wr := []) rfl hx hb hml hown hts g_wm (mK_bl dC dI ca) (c_MM_isMember l dC dI ca h0 q 0 f g) xm_279 xm_280 xm_0 xm_281 xm_339 (by decide +kernel) rfl (Nat.le_of_ble_eq_true rfl) (Nat.le_of_ble_eq_true rfl) hl.1 (Nat.le_of_ble_eq_true rfl) (mK_up hK) hK.1 hP hD hS hA rfl rfl [0] [] rfl (by decide) rfl rfl (by decide) (by decide) (Nat.le_of_ble_eq_true rfl) (Nat.le_of_ble_eq_true rfl) d_MM_member_1_8 (fun v _ H locs hp hP hD hS => ?_)
  obtain rfl : v = some (.int 0) := hp
  have hP : va_P (dC, dI) classes [(h0, .inr (0, mF q 0))] H := hP
  have hD : va_D A [(h0, .inr (0, mF q 0))] := hD
  refine W.eq (g2 := F0 m 11 ls [.int 0]) rfl ?_
  refine lv_if_ne (tgt := 16) hx hb d_MM_member_1_11 (by decide) (fun h => absurd h (by decide)) (fun _ => ?_)
  refine lv_iconst (v := (-1)) hx hb d_MM_member_1_14 (by decide) ?_
  exact ax_iret hx hb hr hlocks hP hD hS () rfl [0] rfl (by decide) rfl (Nat.le_of_ble_eq_true rfl) (Nat.le_of_ble_eq_true rfl) d_MM_member_1_15
theorem d_MM_act_0_0 : decode b_MM_act_0 0 = .ok (.aload_n 0, 1) := by decide +kernel
theorem d_MM_act_0_1 : decode b_MM_act_0 1 = .ok (.iconst 0, 1) := by decide +kernel
theorem d_MM_act_0_2 : decode b_MM_act_0 2 = .ok (.putfield 343, 3) := by decide +kernel
theorem d_MM_act_0_5 : decode b_MM_act_0 5 = .ok (.aload_n 0, 1) := by decide +kernel
theorem d_MM_act_0_6 : decode b_MM_act_0 6 = .ok (.iload_n 1, 1) := by decide +kernel
theorem d_MM_act_0_7 : decode b_MM_act_0 7 = .ok (.iload_n 2, 1) := by decide +kernel
theorem d_MM_act_0_8 : decode b_MM_act_0 8 = .ok (.invokevirtual 1468, 3) := by decide +kernel
theorem d_MM_act_0_11 : decode b_MM_act_0 11 = .ok (.ifCond .eq 29, 3) := by decide +kernel
theorem d_MM_act_0_40 : decode b_MM_act_0 40 = .ok (.iconst (-1), 1) := by decide +kernel
theorem d_MM_act_0_41 : decode b_MM_act_0 41 = .ok (.ireturn, 1) := by decide +kernel
set_option maxHeartbeats 4000000 in
set_option maxRecDepth 100000 in
theorem c_MM_act_0 (l : Launch) (dC : Nat → ClassId) (dI : Nat → Nat → Nat) (ca : Nat → ClassId) (h0 : Nat) (q : Nat → Nat) (th : Int32) (f g i j : Int32) : CT l classes (dC, dI) (mK dC dI ca) wm y_MM_act_0 b_MM_act_0 7 (some (.int)) 2 47 0 0 [.ref h0, .int f, .int g, .int i, .int j] [(h0, .inr (0, mF q th))] (fun (v : Option Value) (_ : Unit) => v = some (.int (-1))) (fun (_ : Unit) => [(h0, .inr (0, mF q 0))]) := by
  refine ax_of (by decide) (Nat.le_of_ble_eq_true rfl) ?_
  intro p e s m below meth c A ls hAt hK hP hD hS hA hl
  obtain ⟨hx, hb, hr, hml, hown, hts, hlocks, hin⟩ := hAt
  have hl : lv_has ls 7 [(0, .ref h0), (1, .int f), (2, .int g), (3, .int i), (4, .int j)] := hl
  refine lv_aload_n hx hb d_MM_act_0_0 rfl (lv_at hl 0 rfl) ?_
  refine lv_iconst (v := 0) hx hb d_MM_act_0_1 (by decide) ?_
  refine va_put (D := (dC, dI)) (ci := 0) (v := .int 0) (ty := .int) (C := R_MM) (T := F_MM) (N := 132) hx hb hts i_MM t_MM t_MM_ok n_MM hown hK.1 hP hD hS 0 rfl rfl 0 (by decide) (hts _ xm_73) (fun _ h9 => h9) rfl (by decide +kernel) rfl rfl (Nat.le_of_ble_eq_true rfl) d_MM_act_0_2 (fun H locs hP hD hS => ?_)
  have hP : va_P (dC, dI) classes [(h0, .inr (0, mF q 0))] H := hP
  have hD : va_D A [(h0, .inr (0, mF q 0))] := hD
  refine lv_aload_n hx hb d_MM_act_0_5 rfl (lv_at hl 0 rfl) ?_
  refine lv_iload_n hx hb d_MM_act_0_6 rfl (lv_at hl 1 rfl) ?_
  refine lv_iload_n hx hb d_MM_act_0_7 rfl (lv_at hl 2 rfl) ?_
  refine ax_V (ci := 0) (q0 := 0) (k := 2) (As := [.int f, .int g]) (rest := []) (wr := []) rfl hx hb hml hown hts g_wm (mK_bl dC dI ca) (c_MM_isMember l dC dI ca h0 q 0 f g) xm_279 xm_280 xm_0 xm_281 xm_339 (by decide +kernel) rfl (Nat.le_of_ble_eq_true rfl) (Nat.le_of_ble_eq_true rfl) hl.1 (Nat.le_of_ble_eq_true rfl) (mK_up hK) hK.1 hP hD hS hA rfl rfl [0] [] rfl (by decide) rfl rfl (by decide) (by decide) (Nat.le_of_ble_eq_true rfl) (Nat.le_of_ble_eq_true rfl) d_MM_act_0_8 (fun v _ H locs hp hP hD hS => ?_)
  obtain rfl : v = some (.int 0) := hp
  have hP : va_P (dC, dI) classes [(h0, .inr (0, mF q 0))] H := hP
  have hD : va_D A [(h0, .inr (0, mF q 0))] := hD
  refine W.eq (g2 := F0 m 11 ls [.int 0]) rfl ?_
  refine lv_if_eq (tgt := 40) hx hb d_MM_act_0_11 (by decide) (fun _ => ?_) (fun h => absurd (by decide) h)
  refine lv_iconst (v := (-1)) hx hb d_MM_act_0_40 (by decide) ?_
  exact ax_iret hx hb hr hlocks hP hD hS () rfl [0] rfl (by decide) rfl (Nat.le_of_ble_eq_true rfl) (Nat.le_of_ble_eq_true rfl) d_MM_act_0_41
theorem d_MM_kind_0 : decode b_MM_kind 0 = .ok (.aload_n 0, 1) := by decide +kernel
theorem d_MM_kind_1 : decode b_MM_kind 1 = .ok (.iconst 0, 1) := by decide +kernel
theorem d_MM_kind_2 : decode b_MM_kind 2 = .ok (.putfield 343, 3) := by decide +kernel
theorem d_MM_kind_5 : decode b_MM_kind 5 = .ok (.aload_n 0, 1) := by decide +kernel
theorem d_MM_kind_6 : decode b_MM_kind 6 = .ok (.iload_n 1, 1) := by decide +kernel
theorem d_MM_kind_7 : decode b_MM_kind 7 = .ok (.iload_n 2, 1) := by decide +kernel
theorem d_MM_kind_8 : decode b_MM_kind 8 = .ok (.invokevirtual 1468, 3) := by decide +kernel
theorem d_MM_kind_11 : decode b_MM_kind 11 = .ok (.ifCond .eq 29, 3) := by decide +kernel
theorem d_MM_kind_40 : decode b_MM_kind 40 = .ok (.iconst (-1), 1) := by decide +kernel
theorem d_MM_kind_41 : decode b_MM_kind 41 = .ok (.ireturn, 1) := by decide +kernel
set_option maxHeartbeats 4000000 in
set_option maxRecDepth 100000 in
theorem c_MM_kind (l : Launch) (dC : Nat → ClassId) (dI : Nat → Nat → Nat) (ca : Nat → ClassId) (h0 : Nat) (q : Nat → Nat) (th : Int32) (f g i j : Int32) : CT l classes (dC, dI) (mK dC dI ca) wm y_MM_kind b_MM_kind 7 (some (.int)) 2 47 0 0 [.ref h0, .int f, .int g, .int i, .int j] [(h0, .inr (0, mF q th))] (fun (v : Option Value) (_ : Unit) => v = some (.int (-1))) (fun (_ : Unit) => [(h0, .inr (0, mF q 0))]) := by
  refine ax_of (by decide) (Nat.le_of_ble_eq_true rfl) ?_
  intro p e s m below meth c A ls hAt hK hP hD hS hA hl
  obtain ⟨hx, hb, hr, hml, hown, hts, hlocks, hin⟩ := hAt
  have hl : lv_has ls 7 [(0, .ref h0), (1, .int f), (2, .int g), (3, .int i), (4, .int j)] := hl
  refine lv_aload_n hx hb d_MM_kind_0 rfl (lv_at hl 0 rfl) ?_
  refine lv_iconst (v := 0) hx hb d_MM_kind_1 (by decide) ?_
  refine va_put (D := (dC, dI)) (ci := 0) (v := .int 0) (ty := .int) (C := R_MM) (T := F_MM) (N := 132) hx hb hts i_MM t_MM t_MM_ok n_MM hown hK.1 hP hD hS 0 rfl rfl 0 (by decide) (hts _ xm_73) (fun _ h9 => h9) rfl (by decide +kernel) rfl rfl (Nat.le_of_ble_eq_true rfl) d_MM_kind_2 (fun H locs hP hD hS => ?_)
  have hP : va_P (dC, dI) classes [(h0, .inr (0, mF q 0))] H := hP
  have hD : va_D A [(h0, .inr (0, mF q 0))] := hD
  refine lv_aload_n hx hb d_MM_kind_5 rfl (lv_at hl 0 rfl) ?_
  refine lv_iload_n hx hb d_MM_kind_6 rfl (lv_at hl 1 rfl) ?_
  refine lv_iload_n hx hb d_MM_kind_7 rfl (lv_at hl 2 rfl) ?_
  refine ax_V (ci := 0) (q0 := 0) (k := 2) (As := [.int f, .int g]) (rest := []) (wr := []) rfl hx hb hml hown hts g_wm (mK_bl dC dI ca) (c_MM_isMember l dC dI ca h0 q 0 f g) xm_279 xm_280 xm_0 xm_281 xm_339 (by decide +kernel) rfl (Nat.le_of_ble_eq_true rfl) (Nat.le_of_ble_eq_true rfl) hl.1 (Nat.le_of_ble_eq_true rfl) (mK_up hK) hK.1 hP hD hS hA rfl rfl [0] [] rfl (by decide) rfl rfl (by decide) (by decide) (Nat.le_of_ble_eq_true rfl) (Nat.le_of_ble_eq_true rfl) d_MM_kind_8 (fun v _ H locs hp hP hD hS => ?_)
  obtain rfl : v = some (.int 0) := hp
  have hP : va_P (dC, dI) classes [(h0, .inr (0, mF q 0))] H := hP
  have hD : va_D A [(h0, .inr (0, mF q 0))] := hD
  refine W.eq (g2 := F0 m 11 ls [.int 0]) rfl ?_
  refine lv_if_eq (tgt := 40) hx hb d_MM_kind_11 (by decide) (fun _ => ?_) (fun h => absurd (by decide) h)
  refine lv_iconst (v := (-1)) hx hb d_MM_kind_40 (by decide) ?_
  exact ax_iret hx hb hr hlocks hP hD hS () rfl [0] rfl (by decide) rfl (Nat.le_of_ble_eq_true rfl) (Nat.le_of_ble_eq_true rfl) d_MM_kind_41
theorem d_MM_block_0 : decode b_MM_block 0 = .ok (.aload_n 0, 1) := by decide +kernel
theorem d_MM_block_1 : decode b_MM_block 1 = .ok (.iconst 0, 1) := by decide +kernel
theorem d_MM_block_2 : decode b_MM_block 2 = .ok (.putfield 343, 3) := by decide +kernel
theorem d_MM_block_5 : decode b_MM_block 5 = .ok (.aload_n 0, 1) := by decide +kernel
theorem d_MM_block_6 : decode b_MM_block 6 = .ok (.iload_n 1, 1) := by decide +kernel
theorem d_MM_block_7 : decode b_MM_block 7 = .ok (.iload_n 2, 1) := by decide +kernel
theorem d_MM_block_8 : decode b_MM_block 8 = .ok (.invokevirtual 1468, 3) := by decide +kernel
theorem d_MM_block_11 : decode b_MM_block 11 = .ok (.ifCond .ne 5, 3) := by decide +kernel
theorem d_MM_block_14 : decode b_MM_block 14 = .ok (.iconst (-1), 1) := by decide +kernel
theorem d_MM_block_15 : decode b_MM_block 15 = .ok (.ireturn, 1) := by decide +kernel
set_option maxHeartbeats 4000000 in
set_option maxRecDepth 100000 in
theorem c_MM_block (l : Launch) (dC : Nat → ClassId) (dI : Nat → Nat → Nat) (ca : Nat → ClassId) (h0 : Nat) (q : Nat → Nat) (th : Int32) (f g i j : Int32) : CT l classes (dC, dI) (mK dC dI ca) wm y_MM_block b_MM_block 7 (some (.int)) 2 47 0 0 [.ref h0, .int f, .int g, .int i, .int j] [(h0, .inr (0, mF q th))] (fun (v : Option Value) (_ : Unit) => v = some (.int (-1))) (fun (_ : Unit) => [(h0, .inr (0, mF q 0))]) := by
  refine ax_of (by decide) (Nat.le_of_ble_eq_true rfl) ?_
  intro p e s m below meth c A ls hAt hK hP hD hS hA hl
  obtain ⟨hx, hb, hr, hml, hown, hts, hlocks, hin⟩ := hAt
  have hl : lv_has ls 7 [(0, .ref h0), (1, .int f), (2, .int g), (3, .int i), (4, .int j)] := hl
  refine lv_aload_n hx hb d_MM_block_0 rfl (lv_at hl 0 rfl) ?_
  refine lv_iconst (v := 0) hx hb d_MM_block_1 (by decide) ?_
  refine va_put (D := (dC, dI)) (ci := 0) (v := .int 0) (ty := .int) (C := R_MM) (T := F_MM) (N := 132) hx hb hts i_MM t_MM t_MM_ok n_MM hown hK.1 hP hD hS 0 rfl rfl 0 (by decide) (hts _ xm_73) (fun _ h9 => h9) rfl (by decide +kernel) rfl rfl (Nat.le_of_ble_eq_true rfl) d_MM_block_2 (fun H locs hP hD hS => ?_)
  have hP : va_P (dC, dI) classes [(h0, .inr (0, mF q 0))] H := hP
  have hD : va_D A [(h0, .inr (0, mF q 0))] := hD
  refine lv_aload_n hx hb d_MM_block_5 rfl (lv_at hl 0 rfl) ?_
  refine lv_iload_n hx hb d_MM_block_6 rfl (lv_at hl 1 rfl) ?_
  refine lv_iload_n hx hb d_MM_block_7 rfl (lv_at hl 2 rfl) ?_
  refine ax_V (ci := 0) (q0 := 0) (k := 2) (As := [.int f, .int g]) (rest := []) (wr := []) rfl hx hb hml hown hts g_wm (mK_bl dC dI ca) (c_MM_isMember l dC dI ca h0 q 0 f g) xm_279 xm_280 xm_0 xm_281 xm_339 (by decide +kernel) rfl (Nat.le_of_ble_eq_true rfl) (Nat.le_of_ble_eq_true rfl) hl.1 (Nat.le_of_ble_eq_true rfl) (mK_up hK) hK.1 hP hD hS hA rfl rfl [0] [] rfl (by decide) rfl rfl (by decide) (by decide) (Nat.le_of_ble_eq_true rfl) (Nat.le_of_ble_eq_true rfl) d_MM_block_8 (fun v _ H locs hp hP hD hS => ?_)
  obtain rfl : v = some (.int 0) := hp
  have hP : va_P (dC, dI) classes [(h0, .inr (0, mF q 0))] H := hP
  have hD : va_D A [(h0, .inr (0, mF q 0))] := hD
  refine W.eq (g2 := F0 m 11 ls [.int 0]) rfl ?_
  refine lv_if_ne (tgt := 16) hx hb d_MM_block_11 (by decide) (fun h => absurd h (by decide)) (fun _ => ?_)
  refine lv_iconst (v := (-1)) hx hb d_MM_block_14 (by decide) ?_
  exact ax_iret hx hb hr hlocks hP hD hS () rfl [0] rfl (by decide) rfl (Nat.le_of_ble_eq_true rfl) (Nat.le_of_ble_eq_true rfl) d_MM_block_15
theorem d_MM_text_0 : decode b_MM_text 0 = .ok (.aload_n 0, 1) := by decide +kernel
theorem d_MM_text_1 : decode b_MM_text 1 = .ok (.iconst 0, 1) := by decide +kernel
theorem d_MM_text_2 : decode b_MM_text 2 = .ok (.putfield 343, 3) := by decide +kernel
theorem d_MM_text_5 : decode b_MM_text 5 = .ok (.aload_n 0, 1) := by decide +kernel
theorem d_MM_text_6 : decode b_MM_text 6 = .ok (.iload_n 1, 1) := by decide +kernel
theorem d_MM_text_7 : decode b_MM_text 7 = .ok (.iload_n 2, 1) := by decide +kernel
theorem d_MM_text_8 : decode b_MM_text 8 = .ok (.invokevirtual 1468, 3) := by decide +kernel
theorem d_MM_text_11 : decode b_MM_text 11 = .ok (.ifCond .eq 20, 3) := by decide +kernel
theorem d_MM_text_31 : decode b_MM_text 31 = .ok (.iconst (-1), 1) := by decide +kernel
theorem d_MM_text_32 : decode b_MM_text 32 = .ok (.ireturn, 1) := by decide +kernel
set_option maxHeartbeats 4000000 in
set_option maxRecDepth 100000 in
theorem c_MM_text (l : Launch) (dC : Nat → ClassId) (dI : Nat → Nat → Nat) (ca : Nat → ClassId) (h0 : Nat) (q : Nat → Nat) (th : Int32) (f g i : Int32) : CT l classes (dC, dI) (mK dC dI ca) wm y_MM_text b_MM_text 5 (some (.int)) 2 47 0 0 [.ref h0, .int f, .int g, .int i] [(h0, .inr (0, mF q th))] (fun (v : Option Value) (_ : Unit) => v = some (.int (-1))) (fun (_ : Unit) => [(h0, .inr (0, mF q 0))]) := by
  refine ax_of (by decide) (Nat.le_of_ble_eq_true rfl) ?_
  intro p e s m below meth c A ls hAt hK hP hD hS hA hl
  obtain ⟨hx, hb, hr, hml, hown, hts, hlocks, hin⟩ := hAt
  have hl : lv_has ls 5 [(0, .ref h0), (1, .int f), (2, .int g), (3, .int i)] := hl
  refine lv_aload_n hx hb d_MM_text_0 rfl (lv_at hl 0 rfl) ?_
  refine lv_iconst (v := 0) hx hb d_MM_text_1 (by decide) ?_
  refine va_put (D := (dC, dI)) (ci := 0) (v := .int 0) (ty := .int) (C := R_MM) (T := F_MM) (N := 132) hx hb hts i_MM t_MM t_MM_ok n_MM hown hK.1 hP hD hS 0 rfl rfl 0 (by decide) (hts _ xm_73) (fun _ h9 => h9) rfl (by decide +kernel) rfl rfl (Nat.le_of_ble_eq_true rfl) d_MM_text_2 (fun H locs hP hD hS => ?_)
  have hP : va_P (dC, dI) classes [(h0, .inr (0, mF q 0))] H := hP
  have hD : va_D A [(h0, .inr (0, mF q 0))] := hD
  refine lv_aload_n hx hb d_MM_text_5 rfl (lv_at hl 0 rfl) ?_
  refine lv_iload_n hx hb d_MM_text_6 rfl (lv_at hl 1 rfl) ?_
  refine lv_iload_n hx hb d_MM_text_7 rfl (lv_at hl 2 rfl) ?_
  refine ax_V (ci := 0) (q0 := 0) (k := 2) (As := [.int f, .int g]) (rest := []) (wr := []) rfl hx hb hml hown hts g_wm (mK_bl dC dI ca) (c_MM_isMember l dC dI ca h0 q 0 f g) xm_279 xm_280 xm_0 xm_281 xm_339 (by decide +kernel) rfl (Nat.le_of_ble_eq_true rfl) (Nat.le_of_ble_eq_true rfl) hl.1 (Nat.le_of_ble_eq_true rfl) (mK_up hK) hK.1 hP hD hS hA rfl rfl [0] [] rfl (by decide) rfl rfl (by decide) (by decide) (Nat.le_of_ble_eq_true rfl) (Nat.le_of_ble_eq_true rfl) d_MM_text_8 (fun v _ H locs hp hP hD hS => ?_)
  obtain rfl : v = some (.int 0) := hp
  have hP : va_P (dC, dI) classes [(h0, .inr (0, mF q 0))] H := hP
  have hD : va_D A [(h0, .inr (0, mF q 0))] := hD
  refine W.eq (g2 := F0 m 11 ls [.int 0]) rfl ?_
  refine lv_if_eq (tgt := 31) hx hb d_MM_text_11 (by decide) (fun _ => ?_) (fun h => absurd (by decide) h)
  refine lv_iconst (v := (-1)) hx hb d_MM_text_31 (by decide) ?_
  exact ax_iret hx hb hr hlocks hP hD hS () rfl [0] rfl (by decide) rfl (Nat.le_of_ble_eq_true rfl) (Nat.le_of_ble_eq_true rfl) d_MM_text_32
theorem d_MM_pair_0 : decode b_MM_pair 0 = .ok (.aload_n 0, 1) := by decide +kernel
theorem d_MM_pair_1 : decode b_MM_pair 1 = .ok (.iconst 0, 1) := by decide +kernel
theorem d_MM_pair_2 : decode b_MM_pair 2 = .ok (.putfield 343, 3) := by decide +kernel
theorem d_MM_pair_5 : decode b_MM_pair 5 = .ok (.aload_n 0, 1) := by decide +kernel
theorem d_MM_pair_6 : decode b_MM_pair 6 = .ok (.iload_n 1, 1) := by decide +kernel
theorem d_MM_pair_7 : decode b_MM_pair 7 = .ok (.iload_n 2, 1) := by decide +kernel
theorem d_MM_pair_8 : decode b_MM_pair 8 = .ok (.invokevirtual 1468, 3) := by decide +kernel
theorem d_MM_pair_11 : decode b_MM_pair 11 = .ok (.ifCond .eq 19, 3) := by decide +kernel
theorem d_MM_pair_30 : decode b_MM_pair 30 = .ok (.iconst (-1), 1) := by decide +kernel
theorem d_MM_pair_31 : decode b_MM_pair 31 = .ok (.ireturn, 1) := by decide +kernel
set_option maxHeartbeats 4000000 in
set_option maxRecDepth 100000 in
theorem c_MM_pair (l : Launch) (dC : Nat → ClassId) (dI : Nat → Nat → Nat) (ca : Nat → ClassId) (h0 : Nat) (q : Nat → Nat) (th : Int32) (f g i : Int32) : CT l classes (dC, dI) (mK dC dI ca) wm y_MM_pair b_MM_pair 7 (some (.int)) 2 47 0 0 [.ref h0, .int f, .int g, .int i] [(h0, .inr (0, mF q th))] (fun (v : Option Value) (_ : Unit) => v = some (.int (-1))) (fun (_ : Unit) => [(h0, .inr (0, mF q 0))]) := by
  refine ax_of (by decide) (Nat.le_of_ble_eq_true rfl) ?_
  intro p e s m below meth c A ls hAt hK hP hD hS hA hl
  obtain ⟨hx, hb, hr, hml, hown, hts, hlocks, hin⟩ := hAt
  have hl : lv_has ls 7 [(0, .ref h0), (1, .int f), (2, .int g), (3, .int i)] := hl
  refine lv_aload_n hx hb d_MM_pair_0 rfl (lv_at hl 0 rfl) ?_
  refine lv_iconst (v := 0) hx hb d_MM_pair_1 (by decide) ?_
  refine va_put (D := (dC, dI)) (ci := 0) (v := .int 0) (ty := .int) (C := R_MM) (T := F_MM) (N := 132) hx hb hts i_MM t_MM t_MM_ok n_MM hown hK.1 hP hD hS 0 rfl rfl 0 (by decide) (hts _ xm_73) (fun _ h9 => h9) rfl (by decide +kernel) rfl rfl (Nat.le_of_ble_eq_true rfl) d_MM_pair_2 (fun H locs hP hD hS => ?_)
  have hP : va_P (dC, dI) classes [(h0, .inr (0, mF q 0))] H := hP
  have hD : va_D A [(h0, .inr (0, mF q 0))] := hD
  refine lv_aload_n hx hb d_MM_pair_5 rfl (lv_at hl 0 rfl) ?_
  refine lv_iload_n hx hb d_MM_pair_6 rfl (lv_at hl 1 rfl) ?_
  refine lv_iload_n hx hb d_MM_pair_7 rfl (lv_at hl 2 rfl) ?_
  refine ax_V (ci := 0) (q0 := 0) (k := 2) (As := [.int f, .int g]) (rest := []) (wr := []) rfl hx hb hml hown hts g_wm (mK_bl dC dI ca) (c_MM_isMember l dC dI ca h0 q 0 f g) xm_279 xm_280 xm_0 xm_281 xm_339 (by decide +kernel) rfl (Nat.le_of_ble_eq_true rfl) (Nat.le_of_ble_eq_true rfl) hl.1 (Nat.le_of_ble_eq_true rfl) (mK_up hK) hK.1 hP hD hS hA rfl rfl [0] [] rfl (by decide) rfl rfl (by decide) (by decide) (Nat.le_of_ble_eq_true rfl) (Nat.le_of_ble_eq_true rfl) d_MM_pair_8 (fun v _ H locs hp hP hD hS => ?_)
  obtain rfl : v = some (.int 0) := hp
  have hP : va_P (dC, dI) classes [(h0, .inr (0, mF q 0))] H := hP
  have hD : va_D A [(h0, .inr (0, mF q 0))] := hD
  refine W.eq (g2 := F0 m 11 ls [.int 0]) rfl ?_
  refine lv_if_eq (tgt := 30) hx hb d_MM_pair_11 (by decide) (fun _ => ?_) (fun h => absurd (by decide) h)
  refine lv_iconst (v := (-1)) hx hb d_MM_pair_30 (by decide) ?_
  exact ax_iret hx hb hr hlocks hP hD hS () rfl [0] rfl (by decide) rfl (Nat.le_of_ble_eq_true rfl) (Nat.le_of_ble_eq_true rfl) d_MM_pair_31
theorem d_MM_alike_0 : decode b_MM_alike 0 = .ok (.aload_n 0, 1) := by decide +kernel
theorem d_MM_alike_1 : decode b_MM_alike 1 = .ok (.iload_n 1, 1) := by decide +kernel
theorem d_MM_alike_2 : decode b_MM_alike 2 = .ok (.iload_n 2, 1) := by decide +kernel
theorem d_MM_alike_3 : decode b_MM_alike 3 = .ok (.iload_n 3, 1) := by decide +kernel
theorem d_MM_alike_4 : decode b_MM_alike 4 = .ok (.invokevirtual 1471, 3) := by decide +kernel
theorem d_MM_alike_7 : decode b_MM_alike 7 = .ok (.istore 4, 2) := by decide +kernel
theorem d_MM_alike_9 : decode b_MM_alike 9 = .ok (.iload 4, 2) := by decide +kernel
theorem d_MM_alike_11 : decode b_MM_alike 11 = .ok (.ifCond .ge 5, 3) := by decide +kernel
theorem d_MM_alike_14 : decode b_MM_alike 14 = .ok (.iconst (-1), 1) := by decide +kernel
theorem d_MM_alike_15 : decode b_MM_alike 15 = .ok (.ireturn, 1) := by decide +kernel
set_option maxHeartbeats 4000000 in
set_option maxRecDepth 100000 in
theorem c_MM_alike (l : Launch) (dC : Nat → ClassId) (dI : Nat → Nat → Nat) (ca : Nat → ClassId) (h0 : Nat) (q : Nat → Nat) (th : Int32) (f g i : Int32) : CT l classes (dC, dI) (mK dC dI ca) wm y_MM_alike b_MM_alike 7 (some (.int)) 3 73 0 0 [.ref h0, .int f, .int g, .int i] [(h0, .inr (0, mF q th))] (fun (v : Option Value) (_ : Unit) => v = some (.int (-1))) (fun (_ : Unit) => [(h0, .inr (0, mF q 0))]) := by
  refine ax_of (by decide) (Nat.le_of_ble_eq_true rfl) ?_
  intro p e s m below meth c A ls hAt hK hP hD hS hA hl
  obtain ⟨hx, hb, hr, hml, hown, hts, hlocks, hin⟩ := hAt
  have hl : lv_has ls 7 [(0, .ref h0), (1, .int f), (2, .int g), (3, .int i)] := hl
  refine lv_aload_n hx hb d_MM_alike_0 rfl (lv_at hl 0 rfl) ?_
  refine lv_iload_n hx hb d_MM_alike_1 rfl (lv_at hl 1 rfl) ?_
  refine lv_iload_n hx hb d_MM_alike_2 rfl (lv_at hl 2 rfl) ?_
  refine lv_iload_n hx hb d_MM_alike_3 rfl (lv_at hl 3 rfl) ?_
  refine ax_V (ci := 0) (q0 := 0) (k := 3) (As := [.int f, .int g, .int i]) (rest := []) (wr := []) rfl hx hb hml hown hts g_wm (mK_bl dC dI ca) (c_MM_pair l dC dI ca h0 q th f g i) xm_285 xm_276 xm_0 xm_278 xm_277 (by decide +kernel) rfl (Nat.le_of_ble_eq_true rfl) (Nat.le_of_ble_eq_true rfl) hl.1 (Nat.le_of_ble_eq_true rfl) (mK_up hK) hK.1 hP hD hS hA rfl rfl [0] [] rfl (by decide) rfl rfl (by decide) (by decide) (Nat.le_of_ble_eq_true rfl) (Nat.le_of_ble_eq_true rfl) d_MM_alike_4 (fun v _ H locs hp hP hD hS => ?_)
  obtain rfl : v = some (.int (-1)) := hp
  have hP : va_P (dC, dI) classes [(h0, .inr (0, mF q 0))] H := hP
  have hD : va_D A [(h0, .inr (0, mF q 0))] := hD
  refine W.eq (g2 := F0 m 7 ls [.int (-1)]) rfl ?_
  refine lv_istore (lv' := [(4, .int (-1)), (0, .ref h0), (1, .int f), (2, .int g), (3, .int i)]) hx hb d_MM_alike_7 hl (by decide) rfl (fun ls hl => ?_)
  refine lv_iload hx hb d_MM_alike_9 (lv_at hl 0 rfl) ?_
  refine lv_if_ge (tgt := 16) hx hb d_MM_alike_11 (by decide) (fun h => absurd h (by decide)) (fun _ => ?_)
  refine lv_iconst (v := (-1)) hx hb d_MM_alike_14 (by decide) ?_
  exact ax_iret hx hb hr hlocks hP hD hS () rfl [0] rfl (by decide) rfl (Nat.le_of_ble_eq_true rfl) (Nat.le_of_ble_eq_true rfl) d_MM_alike_15
