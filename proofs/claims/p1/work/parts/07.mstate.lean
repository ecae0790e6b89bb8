theorem sw_5 (x : Int32) : x = 0 ∨ x = 1 ∨ x = 2 ∨ x = 3 ∨ x = 4 ∨ x = 5 ∨ (x.toInt < 0 ∨ 5 < x.toInt) := by
  by_cases h0 : x = 0
  · exact Or.inl h0
  by_cases h1 : x = 1
  · exact Or.inr (Or.inl h1)
  by_cases h2 : x = 2
  · exact Or.inr (Or.inr (Or.inl h2))
  by_cases h3 : x = 3
  · exact Or.inr (Or.inr (Or.inr (Or.inl h3)))
  by_cases h4 : x = 4
  · exact Or.inr (Or.inr (Or.inr (Or.inr (Or.inl h4))))
  by_cases h5 : x = 5
  · exact Or.inr (Or.inr (Or.inr (Or.inr (Or.inr (Or.inl h5)))))
  have e0 : x.toInt ≠ 0 := fun h => h0 (Int32.toInt_inj.mp (h.trans (by decide)))
  have e1 : x.toInt ≠ 1 := fun h => h1 (Int32.toInt_inj.mp (h.trans (by decide)))
  have e2 : x.toInt ≠ 2 := fun h => h2 (Int32.toInt_inj.mp (h.trans (by decide)))
  have e3 : x.toInt ≠ 3 := fun h => h3 (Int32.toInt_inj.mp (h.trans (by decide)))
  have e4 : x.toInt ≠ 4 := fun h => h4 (Int32.toInt_inj.mp (h.trans (by decide)))
  have e5 : x.toInt ≠ 5 := fun h => h5 (Int32.toInt_inj.mp (h.trans (by decide)))
  exact Or.inr (Or.inr (Or.inr (Or.inr (Or.inr (Or.inr (by omega))))))
theorem sw_7 (x : Int32) : x = 0 ∨ x = 1 ∨ x = 2 ∨ x = 3 ∨ x = 4 ∨ x = 5 ∨ x = 6 ∨ x = 7 ∨ (x.toInt < 0 ∨ 7 < x.toInt) := by
  by_cases h0 : x = 0
  · exact Or.inl h0
  by_cases h1 : x = 1
  · exact Or.inr (Or.inl h1)
  by_cases h2 : x = 2
  · exact Or.inr (Or.inr (Or.inl h2))
  by_cases h3 : x = 3
  · exact Or.inr (Or.inr (Or.inr (Or.inl h3)))
  by_cases h4 : x = 4
  · exact Or.inr (Or.inr (Or.inr (Or.inr (Or.inl h4))))
  by_cases h5 : x = 5
  · exact Or.inr (Or.inr (Or.inr (Or.inr (Or.inr (Or.inl h5)))))
  by_cases h6 : x = 6
  · exact Or.inr (Or.inr (Or.inr (Or.inr (Or.inr (Or.inr (Or.inl h6))))))
  by_cases h7 : x = 7
  · exact Or.inr (Or.inr (Or.inr (Or.inr (Or.inr (Or.inr (Or.inr (Or.inl h7)))))))
  have e0 : x.toInt ≠ 0 := fun h => h0 (Int32.toInt_inj.mp (h.trans (by decide)))
  have e1 : x.toInt ≠ 1 := fun h => h1 (Int32.toInt_inj.mp (h.trans (by decide)))
  have e2 : x.toInt ≠ 2 := fun h => h2 (Int32.toInt_inj.mp (h.trans (by decide)))
  have e3 : x.toInt ≠ 3 := fun h => h3 (Int32.toInt_inj.mp (h.trans (by decide)))
  have e4 : x.toInt ≠ 4 := fun h => h4 (Int32.toInt_inj.mp (h.trans (by decide)))
  have e5 : x.toInt ≠ 5 := fun h => h5 (Int32.toInt_inj.mp (h.trans (by decide)))
  have e6 : x.toInt ≠ 6 := fun h => h6 (Int32.toInt_inj.mp (h.trans (by decide)))
  have e7 : x.toInt ≠ 7 := fun h => h7 (Int32.toInt_inj.mp (h.trans (by decide)))
  exact Or.inr (Or.inr (Or.inr (Or.inr (Or.inr (Or.inr (Or.inr (Or.inr (by omega))))))))
/-- what state answers of a side where nothing has run -/
def stV (i : Int32) : Int64 := if i = 6 ∨ i = 7 ∨ i = 8 then -1 else 0
theorem st8 {i : Int32} (h : 0 ≤ i.toInt64 ∧ i.toInt64 ≤ 8) (h7 : i.toInt < 0 ∨ 7 < i.toInt) : i = 8 := by
  have h1 := Int64.le_iff_toInt_le.mp h.1
  have h2 := Int64.le_iff_toInt_le.mp h.2
  rw [Int32.toInt_toInt64] at h1 h2
  have e1 : (0 : Int64).toInt = 0 := by decide
  have e2 : (8 : Int64).toInt = 8 := by decide
  have e3 : (8 : Int32).toInt = 8 := by decide
  exact Int32.toInt_inj.mp (by omega)
/-- what count answers of a fresh object -/
def cnV (i : Int32) : Int32 := if i = 0 ∨ i = 1 ∨ i = 2 ∨ i = 3 ∨ i = 4 ∨ i = 5 then 0 else -1
theorem cn_out {i : Int32} (h : i.toInt < 0 ∨ 5 < i.toInt) : cnV i = -1 := by
  unfold cnV
  refine if_neg (fun h2 => ?_)
  rcases h2 with rfl | rfl | rfl | rfl | rfl | rfl <;> revert h <;> decide
theorem d_MM_state_0 : decode b_MM_state 0 = .ok (.iload_n 1, 1) := by decide +kernel
theorem d_MM_state_1 : decode b_MM_state 1 = .ok (.i2l, 1) := by decide +kernel
theorem d_MM_state_2 : decode b_MM_state 2 = .ok (.lconst 0, 1) := by decide +kernel
theorem d_MM_state_3 : decode b_MM_state 3 = .ok (.lconst 1, 1) := by decide +kernel
theorem d_MM_state_4 : decode b_MM_state 4 = .ok (.invokestatic 349, 3) := by decide +kernel
theorem d_MM_state_7 : decode b_MM_state 7 = .ok (.ifCond .eq 15, 3) := by decide +kernel
theorem d_MM_state_10 : decode b_MM_state 10 = .ok (.iload_n 2, 1) := by decide +kernel
theorem d_MM_state_11 : decode b_MM_state 11 = .ok (.i2l, 1) := by decide +kernel
theorem d_MM_state_12 : decode b_MM_state 12 = .ok (.lconst 0, 1) := by decide +kernel
theorem d_MM_state_13 : decode b_MM_state 13 = .ok (.ldc2_w 347, 3) := by decide +kernel
theorem d_MM_state_16 : decode b_MM_state 16 = .ok (.invokestatic 349, 3) := by decide +kernel
theorem d_MM_state_19 : decode b_MM_state 19 = .ok (.ifCond .ne 10, 3) := by decide +kernel
theorem d_MM_state_22 : decode b_MM_state 22 = .ok (.aload_n 0, 1) := by decide +kernel
theorem d_MM_state_23 : decode b_MM_state 23 = .ok (.iconst 1, 1) := by decide +kernel
theorem d_MM_state_24 : decode b_MM_state 24 = .ok (.putfield 343, 3) := by decide +kernel
theorem d_MM_state_27 : decode b_MM_state 27 = .ok (.lconst 0, 1) := by decide +kernel
theorem d_MM_state_28 : decode b_MM_state 28 = .ok (.lreturn, 1) := by decide +kernel
theorem d_MM_state_29 : decode b_MM_state 29 = .ok (.aload_n 0, 1) := by decide +kernel
theorem d_MM_state_30 : decode b_MM_state 30 = .ok (.iconst 0, 1) := by decide +kernel
theorem d_MM_state_31 : decode b_MM_state 31 = .ok (.putfield 343, 3) := by decide +kernel
theorem d_MM_state_34 : decode b_MM_state 34 = .ok (.bipush 60, 2) := by decide +kernel
theorem d_MM_state_36 : decode b_MM_state 36 = .ok (.iload_n 1, 1) := by decide +kernel
theorem d_MM_state_37 : decode b_MM_state 37 = .ok (.imul, 1) := by decide +kernel
theorem d_MM_state_38 : decode b_MM_state 38 = .ok (.aload_n 0, 1) := by decide +kernel
theorem d_MM_state_39 : decode b_MM_state 39 = .ok (.getfield 318, 3) := by decide +kernel
theorem d_MM_state_42 : decode b_MM_state 42 = .ok (.iload_n 1, 1) := by decide +kernel
theorem d_MM_state_43 : decode b_MM_state 43 = .ok (.iaload, 1) := by decide +kernel
theorem d_MM_state_44 : decode b_MM_state 44 = .ok (.iadd, 1) := by decide +kernel
theorem d_MM_state_45 : decode b_MM_state 45 = .ok (.iconst 1, 1) := by decide +kernel
theorem d_MM_state_46 : decode b_MM_state 46 = .ok (.isub, 1) := by decide +kernel
theorem d_MM_state_47 : decode b_MM_state 47 = .ok (.istore_n 3, 1) := by decide +kernel
theorem d_MM_state_48 : decode b_MM_state 48 = .ok (.aload_n 0, 1) := by decide +kernel
theorem d_MM_state_49 : decode b_MM_state 49 = .ok (.getfield 283, 3) := by decide +kernel
theorem d_MM_state_52 : decode b_MM_state 52 = .ok (.iload_n 1, 1) := by decide +kernel
theorem d_MM_state_53 : decode b_MM_state 53 = .ok (.iaload, 1) := by decide +kernel
theorem d_MM_state_54 : decode b_MM_state 54 = .ok (.iconst 1, 1) := by decide +kernel
theorem d_MM_state_55 : decode b_MM_state 55 = .ok (.if_icmp .ne 7, 3) := by decide +kernel
theorem d_MM_state_62 : decode b_MM_state 62 = .ok (.iconst 0, 1) := by decide +kernel
theorem d_MM_state_63 : decode b_MM_state 63 = .ok (.istore 4, 2) := by decide +kernel
theorem d_MM_state_65 : decode b_MM_state 65 = .ok (.iload_n 2, 1) := by decide +kernel
theorem d_MM_state_66 : decode b_MM_state 66 = .ok (.tableswitch 138 0 7 #[46, 54, 61, 69, 76, 83, 100, 119], 46) := by decide +kernel
theorem d_MM_state_112 : decode b_MM_state 112 = .ok (.aload_n 0, 1) := by decide +kernel
theorem d_MM_state_113 : decode b_MM_state 113 = .ok (.getfield 283, 3) := by decide +kernel
theorem d_MM_state_116 : decode b_MM_state 116 = .ok (.iload_n 1, 1) := by decide +kernel
theorem d_MM_state_117 : decode b_MM_state 117 = .ok (.iaload, 1) := by decide +kernel
theorem d_MM_state_118 : decode b_MM_state 118 = .ok (.i2l, 1) := by decide +kernel
theorem d_MM_state_119 : decode b_MM_state 119 = .ok (.lreturn, 1) := by decide +kernel
theorem d_MM_state_120 : decode b_MM_state 120 = .ok (.aload_n 0, 1) := by decide +kernel
theorem d_MM_state_121 : decode b_MM_state 121 = .ok (.getfield 286, 3) := by decide +kernel
theorem d_MM_state_124 : decode b_MM_state 124 = .ok (.iload_n 1, 1) := by decide +kernel
theorem d_MM_state_125 : decode b_MM_state 125 = .ok (.laload, 1) := by decide +kernel
theorem d_MM_state_126 : decode b_MM_state 126 = .ok (.lreturn, 1) := by decide +kernel
theorem d_MM_state_127 : decode b_MM_state 127 = .ok (.aload_n 0, 1) := by decide +kernel
theorem d_MM_state_128 : decode b_MM_state 128 = .ok (.getfield 290, 3) := by decide +kernel
theorem d_MM_state_131 : decode b_MM_state 131 = .ok (.iload_n 1, 1) := by decide +kernel
theorem d_MM_state_132 : decode b_MM_state 132 = .ok (.iaload, 1) := by decide +kernel
theorem d_MM_state_133 : decode b_MM_state 133 = .ok (.i2l, 1) := by decide +kernel
theorem d_MM_state_134 : decode b_MM_state 134 = .ok (.lreturn, 1) := by decide +kernel
theorem d_MM_state_135 : decode b_MM_state 135 = .ok (.aload_n 0, 1) := by decide +kernel
theorem d_MM_state_136 : decode b_MM_state 136 = .ok (.getfield 293, 3) := by decide +kernel
theorem d_MM_state_139 : decode b_MM_state 139 = .ok (.iload_n 1, 1) := by decide +kernel
theorem d_MM_state_140 : decode b_MM_state 140 = .ok (.laload, 1) := by decide +kernel
theorem d_MM_state_141 : decode b_MM_state 141 = .ok (.lreturn, 1) := by decide +kernel
theorem d_MM_state_142 : decode b_MM_state 142 = .ok (.aload_n 0, 1) := by decide +kernel
theorem d_MM_state_143 : decode b_MM_state 143 = .ok (.getfield 296, 3) := by decide +kernel
theorem d_MM_state_146 : decode b_MM_state 146 = .ok (.iload_n 1, 1) := by decide +kernel
theorem d_MM_state_147 : decode b_MM_state 147 = .ok (.laload, 1) := by decide +kernel
theorem d_MM_state_148 : decode b_MM_state 148 = .ok (.lreturn, 1) := by decide +kernel
theorem d_MM_state_149 : decode b_MM_state 149 = .ok (.iload 4, 2) := by decide +kernel
theorem d_MM_state_151 : decode b_MM_state 151 = .ok (.ifCond .eq 13, 3) := by decide +kernel
theorem d_MM_state_164 : decode b_MM_state 164 = .ok (.lconst 0, 1) := by decide +kernel
theorem d_MM_state_165 : decode b_MM_state 165 = .ok (.lreturn, 1) := by decide +kernel
theorem d_MM_state_166 : decode b_MM_state 166 = .ok (.iload 4, 2) := by decide +kernel
theorem d_MM_state_168 : decode b_MM_state 168 = .ok (.ifCond .eq 13, 3) := by decide +kernel
theorem d_MM_state_181 : decode b_MM_state 181 = .ok (.ldc2_w 1474, 3) := by decide +kernel
theorem d_MM_state_184 : decode b_MM_state 184 = .ok (.lreturn, 1) := by decide +kernel
theorem d_MM_state_185 : decode b_MM_state 185 = .ok (.iload 4, 2) := by decide +kernel
theorem d_MM_state_187 : decode b_MM_state 187 = .ok (.ifCond .eq 13, 3) := by decide +kernel
theorem d_MM_state_200 : decode b_MM_state 200 = .ok (.ldc2_w 1474, 3) := by decide +kernel
theorem d_MM_state_203 : decode b_MM_state 203 = .ok (.lreturn, 1) := by decide +kernel
theorem d_MM_state_204 : decode b_MM_state 204 = .ok (.iload 4, 2) := by decide +kernel
theorem d_MM_state_206 : decode b_MM_state 206 = .ok (.ifCond .eq 13, 3) := by decide +kernel
theorem d_MM_state_219 : decode b_MM_state 219 = .ok (.ldc2_w 1474, 3) := by decide +kernel
theorem d_MM_state_222 : decode b_MM_state 222 = .ok (.lreturn, 1) := by decide +kernel
set_option maxHeartbeats 4000000 in
set_option maxRecDepth 100000 in
theorem c_MM_state (l : Launch) (dC : Nat → ClassId) (dI : Nat → Nat → Nat) (ca : Nat → ClassId) (h0 : Nat) (q : Nat → Nat) (th : Int32) (s0 : Int32) (i : Int32) : CT l classes (dC, dI) (mK dC dI ca) wm y_MM_state b_MM_state 5 (some (.long)) 1 25 0 0 [.ref h0, .int s0, .int i] [(h0, .inr (0, mF q th)), ((q 110), .inl (ca 1, 2, .inl (fun _ => 0))), ((q 111), .inl (ca 2, 2, .inr (.inl (fun _ => 0)))), ((q 112), .inl (ca 1, 2, .inl (fun _ => 0))), ((q 113), .inl (ca 2, 2, .inr (.inl (fun _ => 0)))), ((q 114), .inl (ca 2, 2, .inr (.inl (fun _ => 0)))), ((q 122), .inl (ca 1, 2, .inl (fun _ => 0)))] (fun (v : Option Value) (u : Int32) => (u = 0 ∧ ((0 ≤ s0.toInt64 ∧ s0.toInt64 ≤ 1) ∧ (0 ≤ i.toInt64 ∧ i.toInt64 ≤ 8)) ∧ v = some (.long (stV i))) ∨ (u = 1 ∧ ¬ ((0 ≤ s0.toInt64 ∧ s0.toInt64 ≤ 1) ∧ (0 ≤ i.toInt64 ∧ i.toInt64 ≤ 8)))) (fun (u : Int32) => [(h0, .inr (0, mF q u))]) := by
  refine ax_of (by decide) (Nat.le_of_ble_eq_true rfl) ?_
  intro p e s m below meth c A ls hAt hK hP hD hS hA hl
  obtain ⟨hx, hb, hr, hml, hown, hts, hlocks, hin⟩ := hAt
  have hl : lv_has ls 5 [(0, .ref h0), (1, .int s0), (2, .int i)] := hl
  refine lv_iload_n hx hb d_MM_state_0 rfl (lv_at hl 1 rfl) ?_
  refine lv_i2l hx hb d_MM_state_1 rfl ?_
  refine lv_lconst (v := 0) hx hb d_MM_state_2 (by decide) ?_
  refine lv_lconst (v := 1) hx hb d_MM_state_3 (by decide) ?_
  refine ax_St (k := 3) (As := [.long (s0.toInt64), .long 0, .long 1]) (rest := []) (wr := [(h0, .inr (0, mF q th)), ((q 110), .inl (ca 1, 2, .inl (fun _ => 0))), ((q 111), .inl (ca 2, 2, .inr (.inl (fun _ => 0)))), ((q 112), .inl (ca 1, 2, .inl (fun _ => 0))), ((q 113), .inl (ca 2, 2, .inr (.inl (fun _ => 0)))), ((q 114), .inl (ca 2, 2, .inr (.inl (fun _ => 0)))), ((q 122), .inl (ca 1, 2, .inl (fun _ => 0)))]) rfl hx hb hml hown hts g_wm (mK_bl dC dI ca) (c_MM_in l dC dI ca s0.toInt64 0 1) xm_182 xm_183 xm_0 xm_184 (by decide +kernel) rfl (Nat.le_of_ble_eq_true rfl) (Nat.le_of_ble_eq_true rfl) hl.1 (Nat.le_of_ble_eq_true rfl) (mK_up hK) hP hD hS hA [] [0, 1, 2, 3, 4, 5, 6] rfl (by decide) rfl rfl (by decide) (by decide) (Nat.le_of_ble_eq_true rfl) (Nat.le_of_ble_eq_true rfl) d_MM_state_4 (fun v _ H locs hp hP hD hS => ?_)
  rcases hp with ⟨rfl, hc_1⟩ | ⟨rfl, hc_1⟩
  · have h9 := True.intro
    have hP : va_P (dC, dI) classes [(h0, .inr (0, mF q th)), ((q 110), .inl (ca 1, 2, .inl (fun _ => 0))), ((q 111), .inl (ca 2, 2, .inr (.inl (fun _ => 0)))), ((q 112), .inl (ca 1, 2, .inl (fun _ => 0))), ((q 113), .inl (ca 2, 2, .inr (.inl (fun _ => 0)))), ((q 114), .inl (ca 2, 2, .inr (.inl (fun _ => 0)))), ((q 122), .inl (ca 1, 2, .inl (fun _ => 0)))] H := hP
    have hD : va_D A [(h0, .inr (0, mF q th)), ((q 110), .inl (ca 1, 2, .inl (fun _ => 0))), ((q 111), .inl (ca 2, 2, .inr (.inl (fun _ => 0)))), ((q 112), .inl (ca 1, 2, .inl (fun _ => 0))), ((q 113), .inl (ca 2, 2, .inr (.inl (fun _ => 0)))), ((q 114), .inl (ca 2, 2, .inr (.inl (fun _ => 0)))), ((q 122), .inl (ca 1, 2, .inl (fun _ => 0)))] := hD
    refine W.eq (g2 := F0 m 7 ls [.int 1]) rfl ?_
    refine lv_if_eq (tgt := 22) hx hb d_MM_state_7 (by decide) (fun h => absurd h (by decide)) (fun _ => ?_)
    refine lv_iload_n hx hb d_MM_state_10 rfl (lv_at hl 2 rfl) ?_
    refine lv_i2l hx hb d_MM_state_11 rfl ?_
    refine lv_lconst (v := 0) hx hb d_MM_state_12 (by decide) ?_
    refine lv_ldc2 (v := 8) hx hb hown (hts _ xm_181) d_MM_state_13 ?_
    refine ax_St (k := 3) (As := [.long (i.toInt64), .long 0, .long 8]) (rest := []) (wr := [(h0, .inr (0, mF q th)), ((q 110), .inl (ca 1, 2, .inl (fun _ => 0))), ((q 111), .inl (ca 2, 2, .inr (.inl (fun _ => 0)))), ((q 112), .inl (ca 1, 2, .inl (fun _ => 0))), ((q 113), .inl (ca 2, 2, .inr (.inl (fun _ => 0)))), ((q 114), .inl (ca 2, 2, .inr (.inl (fun _ => 0)))), ((q 122), .inl (ca 1, 2, .inl (fun _ => 0)))]) rfl hx hb hml hown hts g_wm (mK_bl dC dI ca) (c_MM_in l dC dI ca i.toInt64 0 8) xm_182 xm_183 xm_0 xm_184 (by decide +kernel) rfl (Nat.le_of_ble_eq_true rfl) (Nat.le_of_ble_eq_true rfl) hl.1 (Nat.le_of_ble_eq_true rfl) (mK_up hK) hP hD hS hA [] [0, 1, 2, 3, 4, 5, 6] rfl (by decide) rfl rfl (by decide) (by decide) (Nat.le_of_ble_eq_true rfl) (Nat.le_of_ble_eq_true rfl) d_MM_state_16 (fun v _ H locs hp hP hD hS => ?_)
    rcases hp with ⟨rfl, hc_2⟩ | ⟨rfl, hc_2⟩
    · have h9 := True.intro
      have hP : va_P (dC, dI) classes [(h0, .inr (0, mF q th)), ((q 110), .inl (ca 1, 2, .inl (fun _ => 0))), ((q 111), .inl (ca 2, 2, .inr (.inl (fun _ => 0)))), ((q 112), .inl (ca 1, 2, .inl (fun _ => 0))), ((q 113), .inl (ca 2, 2, .inr (.inl (fun _ => 0)))), ((q 114), .inl (ca 2, 2, .inr (.inl (fun _ => 0)))), ((q 122), .inl (ca 1, 2, .inl (fun _ => 0)))] H := hP
      have hD : va_D A [(h0, .inr (0, mF q th)), ((q 110), .inl (ca 1, 2, .inl (fun _ => 0))), ((q 111), .inl (ca 2, 2, .inr (.inl (fun _ => 0)))), ((q 112), .inl (ca 1, 2, .inl (fun _ => 0))), ((q 113), .inl (ca 2, 2, .inr (.inl (fun _ => 0)))), ((q 114), .inl (ca 2, 2, .inr (.inl (fun _ => 0)))), ((q 122), .inl (ca 1, 2, .inl (fun _ => 0)))] := hD
      refine W.eq (g2 := F0 m 19 ls [.int 1]) rfl ?_
      refine lv_if_ne (tgt := 29) hx hb d_MM_state_19 (by decide) (fun _ => ?_) (fun h => absurd h (by decide))
      refine lv_aload_n hx hb d_MM_state_29 rfl (lv_at hl 0 rfl) ?_
      refine lv_iconst (v := 0) hx hb d_MM_state_30 (by decide) ?_
      refine va_put (D := (dC, dI)) (ci := 0) (v := .int 0) (ty := .int) (C := R_MM) (T := F_MM) (N := 132) hx hb hts i_MM t_MM t_MM_ok n_MM hown hK.1 hP hD hS 0 rfl rfl 0 (by decide) (hts _ xm_73) (fun _ h9 => h9) rfl (by decide +kernel) rfl rfl (Nat.le_of_ble_eq_true rfl) d_MM_state_31 (fun H locs hP hD hS => ?_)
      have hP : va_P (dC, dI) classes [(h0, .inr (0, mF q 0)), ((q 110), .inl (ca 1, 2, .inl (fun _ => 0))), ((q 111), .inl (ca 2, 2, .inr (.inl (fun _ => 0)))), ((q 112), .inl (ca 1, 2, .inl (fun _ => 0))), ((q 113), .inl (ca 2, 2, .inr (.inl (fun _ => 0)))), ((q 114), .inl (ca 2, 2, .inr (.inl (fun _ => 0)))), ((q 122), .inl (ca 1, 2, .inl (fun _ => 0)))] H := hP
      have hD : va_D A [(h0, .inr (0, mF q 0)), ((q 110), .inl (ca 1, 2, .inl (fun _ => 0))), ((q 111), .inl (ca 2, 2, .inr (.inl (fun _ => 0)))), ((q 112), .inl (ca 1, 2, .inl (fun _ => 0))), ((q 113), .inl (ca 2, 2, .inr (.inl (fun _ => 0)))), ((q 114), .inl (ca 2, 2, .inr (.inl (fun _ => 0)))), ((q 122), .inl (ca 1, 2, .inl (fun _ => 0)))] := hD
      refine lv_bipush (v := 60) hx hb d_MM_state_34 (by decide +kernel) ?_
      refine lv_iload_n hx hb d_MM_state_36 rfl (lv_at hl 1 rfl) ?_
      refine lv_imul hx hb d_MM_state_37 ?_
      refine lv_aload_n hx hb d_MM_state_38 rfl (lv_at hl 0 rfl) ?_
      refine va_get (D := (dC, dI)) (ci := 0) (v := .ref (q 122)) (C := R_MM) (T := F_MM) (N := 132) hx hb hts i_MM hown hK.1 hP 0 rfl rfl 122 (by decide) (hts _ xm_164) (fun _ h9 => h9) rfl d_MM_state_39 ?_
      refine lv_iload_n hx hb d_MM_state_42 rfl (lv_at hl 1 rfl) ?_
      refine va_iald hx hb hK.1 hP 6 1 rfl rfl (vp_in2 hc_1) d_MM_state_43 ?_
      refine W.eq (g2 := F0 m 44 ls [.int 0, .int (60 * s0)]) rfl ?_
      refine lv_iadd hx hb d_MM_state_44 ?_
      refine lv_iconst (v := 1) hx hb d_MM_state_45 (by decide) ?_
      refine lv_isub hx hb d_MM_state_46 ?_
      refine lv_istore_n (lv' := [(3, .int (((60 * s0) + 0) - 1)), (0, .ref h0), (1, .int s0), (2, .int i)]) hx hb d_MM_state_47 rfl hl (by decide) rfl (fun ls hl => ?_)
      refine lv_aload_n hx hb d_MM_state_48 rfl (lv_at hl 1 rfl) ?_
      refine va_get (D := (dC, dI)) (ci := 0) (v := .ref (q 110)) (C := R_MM) (T := F_MM) (N := 132) hx hb hts i_MM hown hK.1 hP 0 rfl rfl 110 (by decide) (hts _ xm_152) (fun _ h9 => h9) rfl d_MM_state_49 ?_
      refine lv_iload_n hx hb d_MM_state_52 rfl (lv_at hl 2 rfl) ?_
      refine va_iald hx hb hK.1 hP 1 1 rfl rfl (vp_in2 hc_1) d_MM_state_53 ?_
      refine W.eq (g2 := F0 m 54 ls [.int 0]) rfl ?_
      refine lv_iconst (v := 1) hx hb d_MM_state_54 (by decide) ?_
      refine lv_icmp_ne (tgt := 62) hx hb d_MM_state_55 (by decide) (fun _ => ?_) (fun h => absurd h (by decide))
      refine lv_iconst (v := 0) hx hb d_MM_state_62 (by decide) ?_
      refine lv_istore (lv' := [(4, .int 0), (3, .int (((60 * s0) + 0) - 1)), (0, .ref h0), (1, .int s0), (2, .int i)]) hx hb d_MM_state_63 hl (by decide) rfl (fun ls hl => ?_)
      refine lv_iload_n hx hb d_MM_state_65 rfl (lv_at hl 4 rfl) ?_
      rcases sw_7 i with rfl | rfl | rfl | rfl | rfl | rfl | rfl | rfl | c_3
      · have h9 := True.intro
        refine lv_tableIn (tgt := 112) hx hb d_MM_state_66 (by decide) (by decide) rfl (by decide) ?_
        refine lv_aload_n hx hb d_MM_state_112 rfl (lv_at hl 2 rfl) ?_
        refine va_get (D := (dC, dI)) (ci := 0) (v := .ref (q 110)) (C := R_MM) (T := F_MM) (N := 132) hx hb hts i_MM hown hK.1 hP 0 rfl rfl 110 (by decide) (hts _ xm_152) (fun _ h9 => h9) rfl d_MM_state_113 ?_
        refine lv_iload_n hx hb d_MM_state_116 rfl (lv_at hl 3 rfl) ?_
        refine va_iald hx hb hK.1 hP 1 1 rfl rfl (vp_in2 hc_1) d_MM_state_117 ?_
        refine W.eq (g2 := F0 m 118 ls [.int 0]) rfl ?_
        refine lv_i2l (v := 0) hx hb d_MM_state_118 (by decide) ?_
        exact ax_lret hx hb hr hlocks hP hD hS 0 (Or.inl ⟨rfl, ⟨hc_1, hc_2⟩, rfl⟩) [0] rfl (by decide) rfl (Nat.le_of_ble_eq_true rfl) (Nat.le_of_ble_eq_true rfl) d_MM_state_119
      · have h9 := True.intro
        refine lv_tableIn (tgt := 120) hx hb d_MM_state_66 (by decide) (by decide) rfl (by decide) ?_
        refine lv_aload_n hx hb d_MM_state_120 rfl (lv_at hl 2 rfl) ?_
        refine va_get (D := (dC, dI)) (ci := 0) (v := .ref (q 111)) (C := R_MM) (T := F_MM) (N := 132) hx hb hts i_MM hown hK.1 hP 0 rfl rfl 111 (by decide) (hts _ xm_153) (fun _ h9 => h9) rfl d_MM_state_121 ?_
        refine lv_iload_n hx hb d_MM_state_124 rfl (lv_at hl 3 rfl) ?_
        refine va_lald hx hb hK.1 hP 2 2 rfl rfl (vp_in2 hc_1) d_MM_state_125 ?_
        refine W.eq (g2 := F0 m 126 ls [.long 0]) rfl ?_
        exact ax_lret hx hb hr hlocks hP hD hS 0 (Or.inl ⟨rfl, ⟨hc_1, hc_2⟩, rfl⟩) [0] rfl (by decide) rfl (Nat.le_of_ble_eq_true rfl) (Nat.le_of_ble_eq_true rfl) d_MM_state_126
      · have h9 := True.intro
        refine lv_tableIn (tgt := 127) hx hb d_MM_state_66 (by decide) (by decide) rfl (by decide) ?_
        refine lv_aload_n hx hb d_MM_state_127 rfl (lv_at hl 2 rfl) ?_
        refine va_get (D := (dC, dI)) (ci := 0) (v := .ref (q 112)) (C := R_MM) (T := F_MM) (N := 132) hx hb hts i_MM hown hK.1 hP 0 rfl rfl 112 (by decide) (hts _ xm_154) (fun _ h9 => h9) rfl d_MM_state_128 ?_
        refine lv_iload_n hx hb d_MM_state_131 rfl (lv_at hl 3 rfl) ?_
        refine va_iald hx hb hK.1 hP 3 1 rfl rfl (vp_in2 hc_1) d_MM_state_132 ?_
        refine W.eq (g2 := F0 m 133 ls [.int 0]) rfl ?_
        refine lv_i2l (v := 0) hx hb d_MM_state_133 (by decide) ?_
        exact ax_lret hx hb hr hlocks hP hD hS 0 (Or.inl ⟨rfl, ⟨hc_1, hc_2⟩, rfl⟩) [0] rfl (by decide) rfl (Nat.le_of_ble_eq_true rfl) (Nat.le_of_ble_eq_true rfl) d_MM_state_134
      · have h9 := True.intro
        refine lv_tableIn (tgt := 135) hx hb d_MM_state_66 (by decide) (by decide) rfl (by decide) ?_
        refine lv_aload_n hx hb d_MM_state_135 rfl (lv_at hl 2 rfl) ?_
        refine va_get (D := (dC, dI)) (ci := 0) (v := .ref (q 113)) (C := R_MM) (T := F_MM) (N := 132) hx hb hts i_MM hown hK.1 hP 0 rfl rfl 113 (by decide) (hts _ xm_155) (fun _ h9 => h9) rfl d_MM_state_136 ?_
        refine lv_iload_n hx hb d_MM_state_139 rfl (lv_at hl 3 rfl) ?_
        refine va_lald hx hb hK.1 hP 4 2 rfl rfl (vp_in2 hc_1) d_MM_state_140 ?_
        refine W.eq (g2 := F0 m 141 ls [.long 0]) rfl ?_
        exact ax_lret hx hb hr hlocks hP hD hS 0 (Or.inl ⟨rfl, ⟨hc_1, hc_2⟩, rfl⟩) [0] rfl (by decide) rfl (Nat.le_of_ble_eq_true rfl) (Nat.le_of_ble_eq_true rfl) d_MM_state_141
      · have h9 := True.intro
        refine lv_tableIn (tgt := 142) hx hb d_MM_state_66 (by decide) (by decide) rfl (by decide) ?_
        refine lv_aload_n hx hb d_MM_state_142 rfl (lv_at hl 2 rfl) ?_
        refine va_get (D := (dC, dI)) (ci := 0) (v := .ref (q 114)) (C := R_MM) (T := F_MM) (N := 132) hx hb hts i_MM hown hK.1 hP 0 rfl rfl 114 (by decide) (hts _ xm_156) (fun _ h9 => h9) rfl d_MM_state_143 ?_
        refine lv_iload_n hx hb d_MM_state_146 rfl (lv_at hl 3 rfl) ?_
        refine va_lald hx hb hK.1 hP 5 2 rfl rfl (vp_in2 hc_1) d_MM_state_147 ?_
        refine W.eq (g2 := F0 m 148 ls [.long 0]) rfl ?_
        exact ax_lret hx hb hr hlocks hP hD hS 0 (Or.inl ⟨rfl, ⟨hc_1, hc_2⟩, rfl⟩) [0] rfl (by decide) rfl (Nat.le_of_ble_eq_true rfl) (Nat.le_of_ble_eq_true rfl) d_MM_state_148
      · have h9 := True.intro
        refine lv_tableIn (tgt := 149) hx hb d_MM_state_66 (by decide) (by decide) rfl (by decide) ?_
        refine lv_iload hx hb d_MM_state_149 (lv_at hl 0 rfl) ?_
        refine lv_if_eq (tgt := 164) hx hb d_MM_state_151 (by decide) (fun _ => ?_) (fun h => absurd (by decide) h)
        refine lv_lconst (v := 0) hx hb d_MM_state_164 (by decide) ?_
        exact ax_lret hx hb hr hlocks hP hD hS 0 (Or.inl ⟨rfl, ⟨hc_1, hc_2⟩, rfl⟩) [0] rfl (by decide) rfl (Nat.le_of_ble_eq_true rfl) (Nat.le_of_ble_eq_true rfl) d_MM_state_165
      · have h9 := True.intro
        refine lv_tableIn (tgt := 166) hx hb d_MM_state_66 (by decide) (by decide) rfl (by decide) ?_
        refine lv_iload hx hb d_MM_state_166 (lv_at hl 0 rfl) ?_
        refine lv_if_eq (tgt := 181) hx hb d_MM_state_168 (by decide) (fun _ => ?_) (fun h => absurd (by decide) h)
        refine lv_ldc2 (v := (-1)) hx hb hown (hts _ xm_263) d_MM_state_181 ?_
        exact ax_lret hx hb hr hlocks hP hD hS 0 (Or.inl ⟨rfl, ⟨hc_1, hc_2⟩, rfl⟩) [0] rfl (by decide) rfl (Nat.le_of_ble_eq_true rfl) (Nat.le_of_ble_eq_true rfl) d_MM_state_184
      · have h9 := True.intro
        refine lv_tableIn (tgt := 185) hx hb d_MM_state_66 (by decide) (by decide) rfl (by decide) ?_
        refine lv_iload hx hb d_MM_state_185 (lv_at hl 0 rfl) ?_
        refine lv_if_eq (tgt := 200) hx hb d_MM_state_187 (by decide) (fun _ => ?_) (fun h => absurd (by decide) h)
        refine lv_ldc2 (v := (-1)) hx hb hown (hts _ xm_263) d_MM_state_200 ?_
        exact ax_lret hx hb hr hlocks hP hD hS 0 (Or.inl ⟨rfl, ⟨hc_1, hc_2⟩, rfl⟩) [0] rfl (by decide) rfl (Nat.le_of_ble_eq_true rfl) (Nat.le_of_ble_eq_true rfl) d_MM_state_203
      · have h9 := True.intro
        refine lv_tableOut (tgt := 204) hx hb d_MM_state_66 c_3 (by decide) ?_
        refine lv_iload hx hb d_MM_state_204 (lv_at hl 0 rfl) ?_
        refine lv_if_eq (tgt := 219) hx hb d_MM_state_206 (by decide) (fun _ => ?_) (fun h => absurd (by decide) h)
        refine lv_ldc2 (v := (-1)) hx hb hown (hts _ xm_263) d_MM_state_219 ?_
        exact ax_lret hx hb hr hlocks hP hD hS 0 (Or.inl ⟨rfl, ⟨hc_1, hc_2⟩, by rw [st8 hc_2 c_3]; rfl⟩) [0] rfl (by decide) rfl (Nat.le_of_ble_eq_true rfl) (Nat.le_of_ble_eq_true rfl) d_MM_state_222
    · have h9 := True.intro
      have hP : va_P (dC, dI) classes [(h0, .inr (0, mF q th)), ((q 110), .inl (ca 1, 2, .inl (fun _ => 0))), ((q 111), .inl (ca 2, 2, .inr (.inl (fun _ => 0)))), ((q 112), .inl (ca 1, 2, .inl (fun _ => 0))), ((q 113), .inl (ca 2, 2, .inr (.inl (fun _ => 0)))), ((q 114), .inl (ca 2, 2, .inr (.inl (fun _ => 0)))), ((q 122), .inl (ca 1, 2, .inl (fun _ => 0)))] H := hP
      have hD : va_D A [(h0, .inr (0, mF q th)), ((q 110), .inl (ca 1, 2, .inl (fun _ => 0))), ((q 111), .inl (ca 2, 2, .inr (.inl (fun _ => 0)))), ((q 112), .inl (ca 1, 2, .inl (fun _ => 0))), ((q 113), .inl (ca 2, 2, .inr (.inl (fun _ => 0)))), ((q 114), .inl (ca 2, 2, .inr (.inl (fun _ => 0)))), ((q 122), .inl (ca 1, 2, .inl (fun _ => 0)))] := hD
      refine W.eq (g2 := F0 m 19 ls [.int 0]) rfl ?_
      refine lv_if_ne (tgt := 29) hx hb d_MM_state_19 (by decide) (fun h => absurd h (by decide)) (fun _ => ?_)
      refine lv_aload_n hx hb d_MM_state_22 rfl (lv_at hl 0 rfl) ?_
      refine lv_iconst (v := 1) hx hb d_MM_state_23 (by decide) ?_
      refine va_put (D := (dC, dI)) (ci := 0) (v := .int 1) (ty := .int) (C := R_MM) (T := F_MM) (N := 132) hx hb hts i_MM t_MM t_MM_ok n_MM hown hK.1 hP hD hS 0 rfl rfl 0 (by decide) (hts _ xm_73) (fun _ h9 => h9) rfl (by decide +kernel) rfl rfl (Nat.le_of_ble_eq_true rfl) d_MM_state_24 (fun H locs hP hD hS => ?_)
      have hP : va_P (dC, dI) classes [(h0, .inr (0, mF q 1)), ((q 110), .inl (ca 1, 2, .inl (fun _ => 0))), ((q 111), .inl (ca 2, 2, .inr (.inl (fun _ => 0)))), ((q 112), .inl (ca 1, 2, .inl (fun _ => 0))), ((q 113), .inl (ca 2, 2, .inr (.inl (fun _ => 0)))), ((q 114), .inl (ca 2, 2, .inr (.inl (fun _ => 0)))), ((q 122), .inl (ca 1, 2, .inl (fun _ => 0)))] H := hP
      have hD : va_D A [(h0, .inr (0, mF q 1)), ((q 110), .inl (ca 1, 2, .inl (fun _ => 0))), ((q 111), .inl (ca 2, 2, .inr (.inl (fun _ => 0)))), ((q 112), .inl (ca 1, 2, .inl (fun _ => 0))), ((q 113), .inl (ca 2, 2, .inr (.inl (fun _ => 0)))), ((q 114), .inl (ca 2, 2, .inr (.inl (fun _ => 0)))), ((q 122), .inl (ca 1, 2, .inl (fun _ => 0)))] := hD
      refine lv_lconst (v := 0) hx hb d_MM_state_27 (by decide) ?_
      exact ax_lret hx hb hr hlocks hP hD hS 1 (Or.inr ⟨rfl, fun h => hc_2 h.2⟩) [0] rfl (by decide) rfl (Nat.le_of_ble_eq_true rfl) (Nat.le_of_ble_eq_true rfl) d_MM_state_28
  · have h9 := True.intro
    have hP : va_P (dC, dI) classes [(h0, .inr (0, mF q th)), ((q 110), .inl (ca 1, 2, .inl (fun _ => 0))), ((q 111), .inl (ca 2, 2, .inr (.inl (fun _ => 0)))), ((q 112), .inl (ca 1, 2, .inl (fun _ => 0))), ((q 113), .inl (ca 2, 2, .inr (.inl (fun _ => 0)))), ((q 114), .inl (ca 2, 2, .inr (.inl (fun _ => 0)))), ((q 122), .inl (ca 1, 2, .inl (fun _ => 0)))] H := hP
    have hD : va_D A [(h0, .inr (0, mF q th)), ((q 110), .inl (ca 1, 2, .inl (fun _ => 0))), ((q 111), .inl (ca 2, 2, .inr (.inl (fun _ => 0)))), ((q 112), .inl (ca 1, 2, .inl (fun _ => 0))), ((q 113), .inl (ca 2, 2, .inr (.inl (fun _ => 0)))), ((q 114), .inl (ca 2, 2, .inr (.inl (fun _ => 0)))), ((q 122), .inl (ca 1, 2, .inl (fun _ => 0)))] := hD
    refine W.eq (g2 := F0 m 7 ls [.int 0]) rfl ?_
    refine lv_if_eq (tgt := 22) hx hb d_MM_state_7 (by decide) (fun _ => ?_) (fun h => absurd (by decide) h)
    refine lv_aload_n hx hb d_MM_state_22 rfl (lv_at hl 0 rfl) ?_
    refine lv_iconst (v := 1) hx hb d_MM_state_23 (by decide) ?_
    refine va_put (D := (dC, dI)) (ci := 0) (v := .int 1) (ty := .int) (C := R_MM) (T := F_MM) (N := 132) hx hb hts i_MM t_MM t_MM_ok n_MM hown hK.1 hP hD hS 0 rfl rfl 0 (by decide) (hts _ xm_73) (fun _ h9 => h9) rfl (by decide +kernel) rfl rfl (Nat.le_of_ble_eq_true rfl) d_MM_state_24 (fun H locs hP hD hS => ?_)
    have hP : va_P (dC, dI) classes [(h0, .inr (0, mF q 1)), ((q 110), .inl (ca 1, 2, .inl (fun _ => 0))), ((q 111), .inl (ca 2, 2, .inr (.inl (fun _ => 0)))), ((q 112), .inl (ca 1, 2, .inl (fun _ => 0))), ((q 113), .inl (ca 2, 2, .inr (.inl (fun _ => 0)))), ((q 114), .inl (ca 2, 2, .inr (.inl (fun _ => 0)))), ((q 122), .inl (ca 1, 2, .inl (fun _ => 0)))] H := hP
    have hD : va_D A [(h0, .inr (0, mF q 1)), ((q 110), .inl (ca 1, 2, .inl (fun _ => 0))), ((q 111), .inl (ca 2, 2, .inr (.inl (fun _ => 0)))), ((q 112), .inl (ca 1, 2, .inl (fun _ => 0))), ((q 113), .inl (ca 2, 2, .inr (.inl (fun _ => 0)))), ((q 114), .inl (ca 2, 2, .inr (.inl (fun _ => 0)))), ((q 122), .inl (ca 1, 2, .inl (fun _ => 0)))] := hD
    refine lv_lconst (v := 0) hx hb d_MM_state_27 (by decide) ?_
    exact ax_lret hx hb hr hlocks hP hD hS 1 (Or.inr ⟨rfl, fun h => hc_1 h.1⟩) [0] rfl (by decide) rfl (Nat.le_of_ble_eq_true rfl) (Nat.le_of_ble_eq_true rfl) d_MM_state_28
theorem d_MM_count_0 : decode b_MM_count 0 = .ok (.aload_n 0, 1) := by decide +kernel
theorem d_MM_count_1 : decode b_MM_count 1 = .ok (.iconst 0, 1) := by decide +kernel
theorem d_MM_count_2 : decode b_MM_count 2 = .ok (.putfield 343, 3) := by decide +kernel
theorem d_MM_count_5 : decode b_MM_count 5 = .ok (.iconst 0, 1) := by decide +kernel
theorem d_MM_count_6 : decode b_MM_count 6 = .ok (.istore_n 2, 1) := by decide +kernel
theorem d_MM_count_7 : decode b_MM_count 7 = .ok (.iconst 0, 1) := by decide +kernel
theorem d_MM_count_8 : decode b_MM_count 8 = .ok (.istore_n 3, 1) := by decide +kernel
theorem d_MM_count_9 : decode b_MM_count 9 = .ok (.iload_n 3, 1) := by decide +kernel
theorem d_MM_count_10 : decode b_MM_count 10 = .ok (.aload_n 0, 1) := by decide +kernel
theorem d_MM_count_11 : decode b_MM_count 11 = .ok (.getfield 410, 3) := by decide +kernel
theorem d_MM_count_14 : decode b_MM_count 14 = .ok (.if_icmp .ge 29, 3) := by decide +kernel
theorem d_MM_count_43 : decode b_MM_count 43 = .ok (.iload_n 1, 1) := by decide +kernel
theorem d_MM_count_44 : decode b_MM_count 44 = .ok (.tableswitch 74 0 5 #[40, 48, 53, 60, 67, 72], 40) := by decide +kernel
theorem d_MM_count_84 : decode b_MM_count 84 = .ok (.aload_n 0, 1) := by decide +kernel
theorem d_MM_count_85 : decode b_MM_count 85 = .ok (.getfield 19, 3) := by decide +kernel
theorem d_MM_count_88 : decode b_MM_count 88 = .ok (.getfield 353, 3) := by decide +kernel
theorem d_MM_count_91 : decode b_MM_count 91 = .ok (.ireturn, 1) := by decide +kernel
theorem d_MM_count_92 : decode b_MM_count 92 = .ok (.aload_n 0, 1) := by decide +kernel
theorem d_MM_count_93 : decode b_MM_count 93 = .ok (.getfield 410, 3) := by decide +kernel
theorem d_MM_count_96 : decode b_MM_count 96 = .ok (.ireturn, 1) := by decide +kernel
theorem d_MM_count_97 : decode b_MM_count 97 = .ok (.aload_n 0, 1) := by decide +kernel
theorem d_MM_count_98 : decode b_MM_count 98 = .ok (.getfield 302, 3) := by decide +kernel
theorem d_MM_count_101 : decode b_MM_count 101 = .ok (.iconst 0, 1) := by decide +kernel
theorem d_MM_count_102 : decode b_MM_count 102 = .ok (.iaload, 1) := by decide +kernel
theorem d_MM_count_103 : decode b_MM_count 103 = .ok (.ireturn, 1) := by decide +kernel
theorem d_MM_count_104 : decode b_MM_count 104 = .ok (.aload_n 0, 1) := by decide +kernel
theorem d_MM_count_105 : decode b_MM_count 105 = .ok (.getfield 302, 3) := by decide +kernel
theorem d_MM_count_108 : decode b_MM_count 108 = .ok (.iconst 1, 1) := by decide +kernel
theorem d_MM_count_109 : decode b_MM_count 109 = .ok (.iaload, 1) := by decide +kernel
theorem d_MM_count_110 : decode b_MM_count 110 = .ok (.ireturn, 1) := by decide +kernel
theorem d_MM_count_111 : decode b_MM_count 111 = .ok (.aload_n 0, 1) := by decide +kernel
theorem d_MM_count_112 : decode b_MM_count 112 = .ok (.getfield 1488, 3) := by decide +kernel
theorem d_MM_count_115 : decode b_MM_count 115 = .ok (.ireturn, 1) := by decide +kernel
theorem d_MM_count_116 : decode b_MM_count 116 = .ok (.iload_n 2, 1) := by decide +kernel
theorem d_MM_count_117 : decode b_MM_count 117 = .ok (.ireturn, 1) := by decide +kernel
theorem d_MM_count_118 : decode b_MM_count 118 = .ok (.iconst (-1), 1) := by decide +kernel
theorem d_MM_count_119 : decode b_MM_count 119 = .ok (.ireturn, 1) := by decide +kernel
set_option maxHeartbeats 4000000 in
set_option maxRecDepth 100000 in
theorem c_MM_count (l : Launch) (dC : Nat → ClassId) (dI : Nat → Nat → Nat) (ca : Nat → ClassId) (h0 : Nat) (q : Nat → Nat) (th : Int32) (qa : Nat) (i : Int32) : CT l classes (dC, dI) (mK dC dI ca) wm y_MM_count b_MM_count 4 (some (.int)) 0 0 0 0 [.ref h0, .int i] [(h0, .inr (0, mF q th)), ((q 2), .inr (2, [.ref qa, .int 0])), ((q 117), .inl (ca 1, 2, .inl (fun _ => 0)))] (fun (v : Option Value) (_ : Unit) => v = some (.int (cnV i))) (fun (_ : Unit) => [(h0, .inr (0, mF q 0))]) := by
  refine ax_of (by decide) (Nat.le_of_ble_eq_true rfl) ?_
  intro p e s m below meth c A ls hAt hK hP hD hS hA hl
  obtain ⟨hx, hb, hr, hml, hown, hts, hlocks, hin⟩ := hAt
  have hl : lv_has ls 4 [(0, .ref h0), (1, .int i)] := hl
  refine lv_aload_n hx hb d_MM_count_0 rfl (lv_at hl 0 rfl) ?_
  refine lv_iconst (v := 0) hx hb d_MM_count_1 (by decide) ?_
  refine va_put (D := (dC, dI)) (ci := 0) (v := .int 0) (ty := .int) (C := R_MM) (T := F_MM) (N := 132) hx hb hts i_MM t_MM t_MM_ok n_MM hown hK.1 hP hD hS 0 rfl rfl 0 (by decide) (hts _ xm_73) (fun _ h9 => h9) rfl (by decide +kernel) rfl rfl (Nat.le_of_ble_eq_true rfl) d_MM_count_2 (fun H locs hP hD hS => ?_)
  have hP : va_P (dC, dI) classes [(h0, .inr (0, mF q 0)), ((q 2), .inr (2, [.ref qa, .int 0])), ((q 117), .inl (ca 1, 2, .inl (fun _ => 0)))] H := hP
  have hD : va_D A [(h0, .inr (0, mF q 0)), ((q 2), .inr (2, [.ref qa, .int 0])), ((q 117), .inl (ca 1, 2, .inl (fun _ => 0)))] := hD
  refine lv_iconst (v := 0) hx hb d_MM_count_5 (by decide) ?_
  refine lv_istore_n (lv' := [(2, .int 0), (0, .ref h0), (1, .int i)]) hx hb d_MM_count_6 rfl hl (by decide) rfl (fun ls hl => ?_)
  refine lv_iconst (v := 0) hx hb d_MM_count_7 (by decide) ?_
  refine lv_istore_n (lv' := [(3, .int 0), (2, .int 0), (0, .ref h0), (1, .int i)]) hx hb d_MM_count_8 rfl hl (by decide) rfl (fun ls hl => ?_)
  refine lv_iload_n hx hb d_MM_count_9 rfl (lv_at hl 0 rfl) ?_
  refine lv_aload_n hx hb d_MM_count_10 rfl (lv_at hl 2 rfl) ?_
  refine va_get (D := (dC, dI)) (ci := 0) (v := .int 0) (C := R_MM) (T := F_MM) (N := 132) hx hb hts i_MM hown hK.1 hP 0 rfl rfl 8 (by decide) (hts _ xm_81) (fun _ h9 => h9) rfl d_MM_count_11 ?_
  refine lv_icmp_ge (tgt := 43) hx hb d_MM_count_14 (by decide) (fun _ => ?_) (fun h => absurd (by decide) h)
  refine lv_iload_n hx hb d_MM_count_43 rfl (lv_at hl 3 rfl) ?_
  rcases sw_5 i with rfl | rfl | rfl | rfl | rfl | rfl | c_1
  · have h9 := True.intro
    refine lv_tableIn (tgt := 84) hx hb d_MM_count_44 (by decide) (by decide) rfl (by decide) ?_
    refine lv_aload_n hx hb d_MM_count_84 rfl (lv_at hl 2 rfl) ?_
    refine va_get (D := (dC, dI)) (ci := 0) (v := .ref (q 2)) (C := R_MM) (T := F_MM) (N := 132) hx hb hts i_MM hown hK.1 hP 0 rfl rfl 2 (by decide) (hts _ xm_75) (fun _ h9 => h9) rfl d_MM_count_85 ?_
    refine va_getN (D := (dC, dI)) (ci := 2) (v := .int 0) (C := R_MB) (T := F_MB) (N := 2) hx hb hts i_MB hown hK.1 hP 1 rfl rfl 1 (by decide) (va_Nw.use rfl (hK.2.1 _ zm_6)) (fun _ h9 => h9) rfl d_MM_count_88 ?_
    exact ax_iret hx hb hr hlocks hP hD hS () rfl [0] rfl (by decide) rfl (Nat.le_of_ble_eq_true rfl) (Nat.le_of_ble_eq_true rfl) d_MM_count_91
  · have h9 := True.intro
    refine lv_tableIn (tgt := 92) hx hb d_MM_count_44 (by decide) (by decide) rfl (by decide) ?_
    refine lv_aload_n hx hb d_MM_count_92 rfl (lv_at hl 2 rfl) ?_
    refine va_get (D := (dC, dI)) (ci := 0) (v := .int 0) (C := R_MM) (T := F_MM) (N := 132) hx hb hts i_MM hown hK.1 hP 0 rfl rfl 8 (by decide) (hts _ xm_81) (fun _ h9 => h9) rfl d_MM_count_93 ?_
    exact ax_iret hx hb hr hlocks hP hD hS () rfl [0] rfl (by decide) rfl (Nat.le_of_ble_eq_true rfl) (Nat.le_of_ble_eq_true rfl) d_MM_count_96
  · have h9 := True.intro
    refine lv_tableIn (tgt := 97) hx hb d_MM_count_44 (by decide) (by decide) rfl (by decide) ?_
    refine lv_aload_n hx hb d_MM_count_97 rfl (lv_at hl 2 rfl) ?_
    refine va_get (D := (dC, dI)) (ci := 0) (v := .ref (q 117)) (C := R_MM) (T := F_MM) (N := 132) hx hb hts i_MM hown hK.1 hP 0 rfl rfl 117 (by decide) (hts _ xm_159) (fun _ h9 => h9) rfl d_MM_count_98 ?_
    refine lv_iconst (v := 0) hx hb d_MM_count_101 (by decide) ?_
    refine va_iald hx hb hK.1 hP 2 1 rfl rfl (by unfold vp_in; decide) d_MM_count_102 ?_
    refine W.eq (g2 := F0 m 103 ls [.int 0]) rfl ?_
    exact ax_iret hx hb hr hlocks hP hD hS () rfl [0] rfl (by decide) rfl (Nat.le_of_ble_eq_true rfl) (Nat.le_of_ble_eq_true rfl) d_MM_count_103
  · have h9 := True.intro
    refine lv_tableIn (tgt := 104) hx hb d_MM_count_44 (by decide) (by decide) rfl (by decide) ?_
    refine lv_aload_n hx hb d_MM_count_104 rfl (lv_at hl 2 rfl) ?_
    refine va_get (D := (dC, dI)) (ci := 0) (v := .ref (q 117)) (C := R_MM) (T := F_MM) (N := 132) hx hb hts i_MM hown hK.1 hP 0 rfl rfl 117 (by decide) (hts _ xm_159) (fun _ h9 => h9) rfl d_MM_count_105 ?_
    refine lv_iconst (v := 1) hx hb d_MM_count_108 (by decide) ?_
    refine va_iald hx hb hK.1 hP 2 1 rfl rfl (by unfold vp_in; decide) d_MM_count_109 ?_
    refine W.eq (g2 := F0 m 110 ls [.int 0]) rfl ?_
    exact ax_iret hx hb hr hlocks hP hD hS () rfl [0] rfl (by decide) rfl (Nat.le_of_ble_eq_true rfl) (Nat.le_of_ble_eq_true rfl) d_MM_count_110
  · have h9 := True.intro
    refine lv_tableIn (tgt := 111) hx hb d_MM_count_44 (by decide) (by decide) rfl (by decide) ?_
    refine lv_aload_n hx hb d_MM_count_111 rfl (lv_at hl 2 rfl) ?_
    refine va_get (D := (dC, dI)) (ci := 0) (v := .int 0) (C := R_MM) (T := F_MM) (N := 132) hx hb hts i_MM hown hK.1 hP 0 rfl rfl 115 (by decide) (hts _ xm_157) (fun _ h9 => h9) rfl d_MM_count_112 ?_
    exact ax_iret hx hb hr hlocks hP hD hS () rfl [0] rfl (by decide) rfl (Nat.le_of_ble_eq_true rfl) (Nat.le_of_ble_eq_true rfl) d_MM_count_115
  · have h9 := True.intro
    refine lv_tableIn (tgt := 116) hx hb d_MM_count_44 (by decide) (by decide) rfl (by decide) ?_
    refine lv_iload_n hx hb d_MM_count_116 rfl (lv_at hl 1 rfl) ?_
    exact ax_iret hx hb hr hlocks hP hD hS () rfl [0] rfl (by decide) rfl (Nat.le_of_ble_eq_true rfl) (Nat.le_of_ble_eq_true rfl) d_MM_count_117
  · have h9 := True.intro
    refine lv_tableOut (tgt := 118) hx hb d_MM_count_44 c_1 (by decide) ?_
    refine lv_iconst (v := (-1)) hx hb d_MM_count_118 (by decide) ?_
    exact ax_iret hx hb hr hlocks hP hD hS () (by rw [cn_out c_1]) [0] rfl (by decide) rfl (Nat.le_of_ble_eq_true rfl) (Nat.le_of_ble_eq_true rfl) d_MM_count_119
theorem d_MM_settles_0 : decode b_MM_settles 0 = .ok (.iconst 0, 1) := by decide +kernel
theorem d_MM_settles_1 : decode b_MM_settles 1 = .ok (.istore_n 1, 1) := by decide +kernel
theorem d_MM_settles_2 : decode b_MM_settles 2 = .ok (.iload_n 1, 1) := by decide +kernel
theorem d_MM_settles_3 : decode b_MM_settles 3 = .ok (.iconst 2, 1) := by decide +kernel
theorem d_MM_settles_4 : decode b_MM_settles 4 = .ok (.if_icmp .ge 143, 3) := by decide +kernel
theorem d_MM_settles_7 : decode b_MM_settles 7 = .ok (.aload_n 0, 1) := by decide +kernel
theorem d_MM_settles_8 : decode b_MM_settles 8 = .ok (.getfield 283, 3) := by decide +kernel
theorem d_MM_settles_11 : decode b_MM_settles 11 = .ok (.iload_n 1, 1) := by decide +kernel
theorem d_MM_settles_12 : decode b_MM_settles 12 = .ok (.iconst 0, 1) := by decide +kernel
theorem d_MM_settles_13 : decode b_MM_settles 13 = .ok (.iastore, 1) := by decide +kernel
theorem d_MM_settles_14 : decode b_MM_settles 14 = .ok (.aload_n 0, 1) := by decide +kernel
theorem d_MM_settles_15 : decode b_MM_settles 15 = .ok (.getfield 286, 3) := by decide +kernel
theorem d_MM_settles_18 : decode b_MM_settles 18 = .ok (.iload_n 1, 1) := by decide +kernel
theorem d_MM_settles_19 : decode b_MM_settles 19 = .ok (.lconst 0, 1) := by decide +kernel
theorem d_MM_settles_20 : decode b_MM_settles 20 = .ok (.lastore, 1) := by decide +kernel
theorem d_MM_settles_21 : decode b_MM_settles 21 = .ok (.aload_n 0, 1) := by decide +kernel
theorem d_MM_settles_22 : decode b_MM_settles 22 = .ok (.getfield 290, 3) := by decide +kernel
theorem d_MM_settles_25 : decode b_MM_settles 25 = .ok (.iload_n 1, 1) := by decide +kernel
theorem d_MM_settles_26 : decode b_MM_settles 26 = .ok (.iconst 0, 1) := by decide +kernel
theorem d_MM_settles_27 : decode b_MM_settles 27 = .ok (.iastore, 1) := by decide +kernel
theorem d_MM_settles_28 : decode b_MM_settles 28 = .ok (.aload_n 0, 1) := by decide +kernel
theorem d_MM_settles_29 : decode b_MM_settles 29 = .ok (.getfield 293, 3) := by decide +kernel
theorem d_MM_settles_32 : decode b_MM_settles 32 = .ok (.iload_n 1, 1) := by decide +kernel
theorem d_MM_settles_33 : decode b_MM_settles 33 = .ok (.lconst 0, 1) := by decide +kernel
theorem d_MM_settles_34 : decode b_MM_settles 34 = .ok (.lastore, 1) := by decide +kernel
theorem d_MM_settles_35 : decode b_MM_settles 35 = .ok (.aload_n 0, 1) := by decide +kernel
theorem d_MM_settles_36 : decode b_MM_settles 36 = .ok (.getfield 296, 3) := by decide +kernel
theorem d_MM_settles_39 : decode b_MM_settles 39 = .ok (.iload_n 1, 1) := by decide +kernel
theorem d_MM_settles_40 : decode b_MM_settles 40 = .ok (.lconst 0, 1) := by decide +kernel
theorem d_MM_settles_41 : decode b_MM_settles 41 = .ok (.lastore, 1) := by decide +kernel
theorem d_MM_settles_42 : decode b_MM_settles 42 = .ok (.aload_n 0, 1) := by decide +kernel
theorem d_MM_settles_43 : decode b_MM_settles 43 = .ok (.getfield 302, 3) := by decide +kernel
theorem d_MM_settles_46 : decode b_MM_settles 46 = .ok (.iload_n 1, 1) := by decide +kernel
theorem d_MM_settles_47 : decode b_MM_settles 47 = .ok (.iconst 0, 1) := by decide +kernel
theorem d_MM_settles_48 : decode b_MM_settles 48 = .ok (.iastore, 1) := by decide +kernel
theorem d_MM_settles_49 : decode b_MM_settles 49 = .ok (.aload_n 0, 1) := by decide +kernel
theorem d_MM_settles_50 : decode b_MM_settles 50 = .ok (.getfield 305, 3) := by decide +kernel
theorem d_MM_settles_53 : decode b_MM_settles 53 = .ok (.iload_n 1, 1) := by decide +kernel
theorem d_MM_settles_54 : decode b_MM_settles 54 = .ok (.iconst 0, 1) := by decide +kernel
theorem d_MM_settles_55 : decode b_MM_settles 55 = .ok (.iastore, 1) := by decide +kernel
theorem d_MM_settles_56 : decode b_MM_settles 56 = .ok (.aload_n 0, 1) := by decide +kernel
theorem d_MM_settles_57 : decode b_MM_settles 57 = .ok (.getfield 318, 3) := by decide +kernel
theorem d_MM_settles_60 : decode b_MM_settles 60 = .ok (.iload_n 1, 1) := by decide +kernel
theorem d_MM_settles_61 : decode b_MM_settles 61 = .ok (.iconst 0, 1) := by decide +kernel
theorem d_MM_settles_62 : decode b_MM_settles 62 = .ok (.iastore, 1) := by decide +kernel
theorem d_MM_settles_63 : decode b_MM_settles 63 = .ok (.iconst 0, 1) := by decide +kernel
theorem d_MM_settles_64 : decode b_MM_settles 64 = .ok (.istore_n 2, 1) := by decide +kernel
theorem d_MM_settles_65 : decode b_MM_settles 65 = .ok (.iload_n 2, 1) := by decide +kernel
theorem d_MM_settles_66 : decode b_MM_settles 66 = .ok (.aload_n 0, 1) := by decide +kernel
theorem d_MM_settles_67 : decode b_MM_settles 67 = .ok (.getfield 410, 3) := by decide +kernel
theorem d_MM_settles_70 : decode b_MM_settles 70 = .ok (.if_icmp .ge 71, 3) := by decide +kernel
theorem d_MM_settles_141 : decode b_MM_settles 141 = .ok (.iinc 1 1, 3) := by decide +kernel
theorem d_MM_settles_144 : decode b_MM_settles 144 = .ok (.goto (-142), 3) := by decide +kernel
theorem d_MM_settles_147 : decode b_MM_settles 147 = .ok (.return_, 1) := by decide +kernel
set_option maxHeartbeats 4000000 in
set_option maxRecDepth 100000 in
theorem c_MM_settles (l : Launch) (dC : Nat → ClassId) (dI : Nat → Nat → Nat) (ca : Nat → ClassId) (h0 : Nat) (q : Nat → Nat) (th : Int32) : CT l classes (dC, dI) (mK dC dI ca) wm y_MM_settles b_MM_settles 4 none 0 0 0 0 [.ref h0] [(h0, .inr (0, mF q th)), ((q 110), .inl (ca 1, 2, .inl (fun _ => 0))), ((q 111), .inl (ca 2, 2, .inr (.inl (fun _ => 0)))), ((q 112), .inl (ca 1, 2, .inl (fun _ => 0))), ((q 113), .inl (ca 2, 2, .inr (.inl (fun _ => 0)))), ((q 114), .inl (ca 2, 2, .inr (.inl (fun _ => 0)))), ((q 117), .inl (ca 1, 2, .inl (fun _ => 0))), ((q 118), .inl (ca 1, 2, .inl (fun _ => 0))), ((q 122), .inl (ca 1, 2, .inl (fun _ => 0)))] (fun (v : Option Value) (_ : Unit) => v = none) (fun (_ : Unit) => [(h0, .inr (0, mF q th))]) := by
  refine ax_of (by decide) (Nat.le_of_ble_eq_true rfl) ?_
  intro p e s m below meth c A ls hAt hK hP hD hS hA hl
  obtain ⟨hx, hb, hr, hml, hown, hts, hlocks, hin⟩ := hAt
  have hl : lv_has ls 4 [(0, .ref h0)] := hl
  refine lv_iconst (v := 0) hx hb d_MM_settles_0 (by decide) ?_
  refine lv_istore_n (lv' := [(1, .int 0), (0, .ref h0)]) hx hb d_MM_settles_1 rfl hl (by decide) rfl (fun ls hl => ?_)
  refine lv_iload_n hx hb d_MM_settles_2 rfl (lv_at hl 0 rfl) ?_
  refine lv_iconst (v := 2) hx hb d_MM_settles_3 (by decide) ?_
  refine lv_icmp_ge (tgt := 147) hx hb d_MM_settles_4 (by decide) (fun h => absurd h (by decide)) (fun _ => ?_)
  refine lv_aload_n hx hb d_MM_settles_7 rfl (lv_at hl 1 rfl) ?_
  refine va_get (D := (dC, dI)) (ci := 0) (v := .ref (q 110)) (C := R_MM) (T := F_MM) (N := 132) hx hb hts i_MM hown hK.1 hP 0 rfl rfl 110 (by decide) (hts _ xm_152) (fun _ h9 => h9) rfl d_MM_settles_8 ?_
  refine lv_iload_n hx hb d_MM_settles_11 rfl (lv_at hl 0 rfl) ?_
  refine lv_iconst (v := 0) hx hb d_MM_settles_12 (by decide) ?_
  refine va_iast hx hb hK.1 hP hD hS 1 1 rfl rfl (by unfold vp_in; decide) d_MM_settles_13 (fun H locs hP hD hS => ?_)
  have hP : va_P (dC, dI) classes [(h0, .inr (0, mF q th)), ((q 110), .inl (ca 1, 2, .inl (upd (fun _ => 0) 0 0))), ((q 111), .inl (ca 2, 2, .inr (.inl (fun _ => 0)))), ((q 112), .inl (ca 1, 2, .inl (fun _ => 0))), ((q 113), .inl (ca 2, 2, .inr (.inl (fun _ => 0)))), ((q 114), .inl (ca 2, 2, .inr (.inl (fun _ => 0)))), ((q 117), .inl (ca 1, 2, .inl (fun _ => 0))), ((q 118), .inl (ca 1, 2, .inl (fun _ => 0))), ((q 122), .inl (ca 1, 2, .inl (fun _ => 0)))] H := hP
  have hD : va_D A [(h0, .inr (0, mF q th)), ((q 110), .inl (ca 1, 2, .inl (upd (fun _ => 0) 0 0))), ((q 111), .inl (ca 2, 2, .inr (.inl (fun _ => 0)))), ((q 112), .inl (ca 1, 2, .inl (fun _ => 0))), ((q 113), .inl (ca 2, 2, .inr (.inl (fun _ => 0)))), ((q 114), .inl (ca 2, 2, .inr (.inl (fun _ => 0)))), ((q 117), .inl (ca 1, 2, .inl (fun _ => 0))), ((q 118), .inl (ca 1, 2, .inl (fun _ => 0))), ((q 122), .inl (ca 1, 2, .inl (fun _ => 0)))] := hD
  refine lv_aload_n hx hb d_MM_settles_14 rfl (lv_at hl 1 rfl) ?_
  refine va_get (D := (dC, dI)) (ci := 0) (v := .ref (q 111)) (C := R_MM) (T := F_MM) (N := 132) hx hb hts i_MM hown hK.1 hP 0 rfl rfl 111 (by decide) (hts _ xm_153) (fun _ h9 => h9) rfl d_MM_settles_15 ?_
  refine lv_iload_n hx hb d_MM_settles_18 rfl (lv_at hl 0 rfl) ?_
  refine lv_lconst (v := 0) hx hb d_MM_settles_19 (by decide) ?_
  refine va_last hx hb hK.1 hP hD hS 2 2 rfl rfl (by unfold vp_in; decide) d_MM_settles_20 (fun H locs hP hD hS => ?_)
  have hP : va_P (dC, dI) classes [(h0, .inr (0, mF q th)), ((q 110), .inl (ca 1, 2, .inl (upd (fun _ => 0) 0 0))), ((q 111), .inl (ca 2, 2, .inr (.inl (vp_updL (fun _ => 0) 0 0)))), ((q 112), .inl (ca 1, 2, .inl (fun _ => 0))), ((q 113), .inl (ca 2, 2, .inr (.inl (fun _ => 0)))), ((q 114), .inl (ca 2, 2, .inr (.inl (fun _ => 0)))), ((q 117), .inl (ca 1, 2, .inl (fun _ => 0))), ((q 118), .inl (ca 1, 2, .inl (fun _ => 0))), ((q 122), .inl (ca 1, 2, .inl (fun _ => 0)))] H := hP
  have hD : va_D A [(h0, .inr (0, mF q th)), ((q 110), .inl (ca 1, 2, .inl (upd (fun _ => 0) 0 0))), ((q 111), .inl (ca 2, 2, .inr (.inl (vp_updL (fun _ => 0) 0 0)))), ((q 112), .inl (ca 1, 2, .inl (fun _ => 0))), ((q 113), .inl (ca 2, 2, .inr (.inl (fun _ => 0)))), ((q 114), .inl (ca 2, 2, .inr (.inl (fun _ => 0)))), ((q 117), .inl (ca 1, 2, .inl (fun _ => 0))), ((q 118), .inl (ca 1, 2, .inl (fun _ => 0))), ((q 122), .inl (ca 1, 2, .inl (fun _ => 0)))] := hD
  refine lv_aload_n hx hb d_MM_settles_21 rfl (lv_at hl 1 rfl) ?_
  refine va_get (D := (dC, dI)) (ci := 0) (v := .ref (q 112)) (C := R_MM) (T := F_MM) (N := 132) hx hb hts i_MM hown hK.1 hP 0 rfl rfl 112 (by decide) (hts _ xm_154) (fun _ h9 => h9) rfl d_MM_settles_22 ?_
  refine lv_iload_n hx hb d_MM_settles_25 rfl (lv_at hl 0 rfl) ?_
  refine lv_iconst (v := 0) hx hb d_MM_settles_26 (by decide) ?_
  refine va_iast hx hb hK.1 hP hD hS 3 1 rfl rfl (by unfold vp_in; decide) d_MM_settles_27 (fun H locs hP hD hS => ?_)
  have hP : va_P (dC, dI) classes [(h0, .inr (0, mF q th)), ((q 110), .inl (ca 1, 2, .inl (upd (fun _ => 0) 0 0))), ((q 111), .inl (ca 2, 2, .inr (.inl (vp_updL (fun _ => 0) 0 0)))), ((q 112), .inl (ca 1, 2, .inl (upd (fun _ => 0) 0 0))), ((q 113), .inl (ca 2, 2, .inr (.inl (fun _ => 0)))), ((q 114), .inl (ca 2, 2, .inr (.inl (fun _ => 0)))), ((q 117), .inl (ca 1, 2, .inl (fun _ => 0))), ((q 118), .inl (ca 1, 2, .inl (fun _ => 0))), ((q 122), .inl (ca 1, 2, .inl (fun _ => 0)))] H := hP
  have hD : va_D A [(h0, .inr (0, mF q th)), ((q 110), .inl (ca 1, 2, .inl (upd (fun _ => 0) 0 0))), ((q 111), .inl (ca 2, 2, .inr (.inl (vp_updL (fun _ => 0) 0 0)))), ((q 112), .inl (ca 1, 2, .inl (upd (fun _ => 0) 0 0))), ((q 113), .inl (ca 2, 2, .inr (.inl (fun _ => 0)))), ((q 114), .inl (ca 2, 2, .inr (.inl (fun _ => 0)))), ((q 117), .inl (ca 1, 2, .inl (fun _ => 0))), ((q 118), .inl (ca 1, 2, .inl (fun _ => 0))), ((q 122), .inl (ca 1, 2, .inl (fun _ => 0)))] := hD
  refine lv_aload_n hx hb d_MM_settles_28 rfl (lv_at hl 1 rfl) ?_
  refine va_get (D := (dC, dI)) (ci := 0) (v := .ref (q 113)) (C := R_MM) (T := F_MM) (N := 132) hx hb hts i_MM hown hK.1 hP 0 rfl rfl 113 (by decide) (hts _ xm_155) (fun _ h9 => h9) rfl d_MM_settles_29 ?_
  refine lv_iload_n hx hb d_MM_settles_32 rfl (lv_at hl 0 rfl) ?_
  refine lv_lconst (v := 0) hx hb d_MM_settles_33 (by decide) ?_
  refine va_last hx hb hK.1 hP hD hS 4 2 rfl rfl (by unfold vp_in; decide) d_MM_settles_34 (fun H locs hP hD hS => ?_)
  have hP : va_P (dC, dI) classes [(h0, .inr (0, mF q th)), ((q 110), .inl (ca 1, 2, .inl (upd (fun _ => 0) 0 0))), ((q 111), .inl (ca 2, 2, .inr (.inl (vp_updL (fun _ => 0) 0 0)))), ((q 112), .inl (ca 1, 2, .inl (upd (fun _ => 0) 0 0))), ((q 113), .inl (ca 2, 2, .inr (.inl (vp_updL (fun _ => 0) 0 0)))), ((q 114), .inl (ca 2, 2, .inr (.inl (fun _ => 0)))), ((q 117), .inl (ca 1, 2, .inl (fun _ => 0))), ((q 118), .inl (ca 1, 2, .inl (fun _ => 0))), ((q 122), .inl (ca 1, 2, .inl (fun _ => 0)))] H := hP
  have hD : va_D A [(h0, .inr (0, mF q th)), ((q 110), .inl (ca 1, 2, .inl (upd (fun _ => 0) 0 0))), ((q 111), .inl (ca 2, 2, .inr (.inl (vp_updL (fun _ => 0) 0 0)))), ((q 112), .inl (ca 1, 2, .inl (upd (fun _ => 0) 0 0))), ((q 113), .inl (ca 2, 2, .inr (.inl (vp_updL (fun _ => 0) 0 0)))), ((q 114), .inl (ca 2, 2, .inr (.inl (fun _ => 0)))), ((q 117), .inl (ca 1, 2, .inl (fun _ => 0))), ((q 118), .inl (ca 1, 2, .inl (fun _ => 0))), ((q 122), .inl (ca 1, 2, .inl (fun _ => 0)))] := hD
  refine lv_aload_n hx hb d_MM_settles_35 rfl (lv_at hl 1 rfl) ?_
  refine va_get (D := (dC, dI)) (ci := 0) (v := .ref (q 114)) (C := R_MM) (T := F_MM) (N := 132) hx hb hts i_MM hown hK.1 hP 0 rfl rfl 114 (by decide) (hts _ xm_156) (fun _ h9 => h9) rfl d_MM_settles_36 ?_
  refine lv_iload_n hx hb d_MM_settles_39 rfl (lv_at hl 0 rfl) ?_
  refine lv_lconst (v := 0) hx hb d_MM_settles_40 (by decide) ?_
  refine va_last hx hb hK.1 hP hD hS 5 2 rfl rfl (by unfold vp_in; decide) d_MM_settles_41 (fun H locs hP hD hS => ?_)
  have hP : va_P (dC, dI) classes [(h0, .inr (0, mF q th)), ((q 110), .inl (ca 1, 2, .inl (upd (fun _ => 0) 0 0))), ((q 111), .inl (ca 2, 2, .inr (.inl (vp_updL (fun _ => 0) 0 0)))), ((q 112), .inl (ca 1, 2, .inl (upd (fun _ => 0) 0 0))), ((q 113), .inl (ca 2, 2, .inr (.inl (vp_updL (fun _ => 0) 0 0)))), ((q 114), .inl (ca 2, 2, .inr (.inl (vp_updL (fun _ => 0) 0 0)))), ((q 117), .inl (ca 1, 2, .inl (fun _ => 0))), ((q 118), .inl (ca 1, 2, .inl (fun _ => 0))), ((q 122), .inl (ca 1, 2, .inl (fun _ => 0)))] H := hP
  have hD : va_D A [(h0, .inr (0, mF q th)), ((q 110), .inl (ca 1, 2, .inl (upd (fun _ => 0) 0 0))), ((q 111), .inl (ca 2, 2, .inr (.inl (vp_updL (fun _ => 0) 0 0)))), ((q 112), .inl (ca 1, 2, .inl (upd (fun _ => 0) 0 0))), ((q 113), .inl (ca 2, 2, .inr (.inl (vp_updL (fun _ => 0) 0 0)))), ((q 114), .inl (ca 2, 2, .inr (.inl (vp_updL (fun _ => 0) 0 0)))), ((q 117), .inl (ca 1, 2, .inl (fun _ => 0))), ((q 118), .inl (ca 1, 2, .inl (fun _ => 0))), ((q 122), .inl (ca 1, 2, .inl (fun _ => 0)))] := hD
  refine lv_aload_n hx hb d_MM_settles_42 rfl (lv_at hl 1 rfl) ?_
  refine va_get (D := (dC, dI)) (ci := 0) (v := .ref (q 117)) (C := R_MM) (T := F_MM) (N := 132) hx hb hts i_MM hown hK.1 hP 0 rfl rfl 117 (by decide) (hts _ xm_159) (fun _ h9 => h9) rfl d_MM_settles_43 ?_
  refine lv_iload_n hx hb d_MM_settles_46 rfl (lv_at hl 0 rfl) ?_
  refine lv_iconst (v := 0) hx hb d_MM_settles_47 (by decide) ?_
  refine va_iast hx hb hK.1 hP hD hS 6 1 rfl rfl (by unfold vp_in; decide) d_MM_settles_48 (fun H locs hP hD hS => ?_)
  have hP : va_P (dC, dI) classes [(h0, .inr (0, mF q th)), ((q 110), .inl (ca 1, 2, .inl (upd (fun _ => 0) 0 0))), ((q 111), .inl (ca 2, 2, .inr (.inl (vp_updL (fun _ => 0) 0 0)))), ((q 112), .inl (ca 1, 2, .inl (upd (fun _ => 0) 0 0))), ((q 113), .inl (ca 2, 2, .inr (.inl (vp_updL (fun _ => 0) 0 0)))), ((q 114), .inl (ca 2, 2, .inr (.inl (vp_updL (fun _ => 0) 0 0)))), ((q 117), .inl (ca 1, 2, .inl (upd (fun _ => 0) 0 0))), ((q 118), .inl (ca 1, 2, .inl (fun _ => 0))), ((q 122), .inl (ca 1, 2, .inl (fun _ => 0)))] H := hP
  have hD : va_D A [(h0, .inr (0, mF q th)), ((q 110), .inl (ca 1, 2, .inl (upd (fun _ => 0) 0 0))), ((q 111), .inl (ca 2, 2, .inr (.inl (vp_updL (fun _ => 0) 0 0)))), ((q 112), .inl (ca 1, 2, .inl (upd (fun _ => 0) 0 0))), ((q 113), .inl (ca 2, 2, .inr (.inl (vp_updL (fun _ => 0) 0 0)))), ((q 114), .inl (ca 2, 2, .inr (.inl (vp_updL (fun _ => 0) 0 0)))), ((q 117), .inl (ca 1, 2, .inl (upd (fun _ => 0) 0 0))), ((q 118), .inl (ca 1, 2, .inl (fun _ => 0))), ((q 122), .inl (ca 1, 2, .inl (fun _ => 0)))] := hD
  refine lv_aload_n hx hb d_MM_settles_49 rfl (lv_at hl 1 rfl) ?_
  refine va_get (D := (dC, dI)) (ci := 0) (v := .ref (q 118)) (C := R_MM) (T := F_MM) (N := 132) hx hb hts i_MM hown hK.1 hP 0 rfl rfl 118 (by decide) (hts _ xm_160) (fun _ h9 => h9) rfl d_MM_settles_50 ?_
  refine lv_iload_n hx hb d_MM_settles_53 rfl (lv_at hl 0 rfl) ?_
  refine lv_iconst (v := 0) hx hb d_MM_settles_54 (by decide) ?_
  refine va_iast hx hb hK.1 hP hD hS 7 1 rfl rfl (by unfold vp_in; decide) d_MM_settles_55 (fun H locs hP hD hS => ?_)
  have hP : va_P (dC, dI) classes [(h0, .inr (0, mF q th)), ((q 110), .inl (ca 1, 2, .inl (upd (fun _ => 0) 0 0))), ((q 111), .inl (ca 2, 2, .inr (.inl (vp_updL (fun _ => 0) 0 0)))), ((q 112), .inl (ca 1, 2, .inl (upd (fun _ => 0) 0 0))), ((q 113), .inl (ca 2, 2, .inr (.inl (vp_updL (fun _ => 0) 0 0)))), ((q 114), .inl (ca 2, 2, .inr (.inl (vp_updL (fun _ => 0) 0 0)))), ((q 117), .inl (ca 1, 2, .inl (upd (fun _ => 0) 0 0))), ((q 118), .inl (ca 1, 2, .inl (upd (fun _ => 0) 0 0))), ((q 122), .inl (ca 1, 2, .inl (fun _ => 0)))] H := hP
  have hD : va_D A [(h0, .inr (0, mF q th)), ((q 110), .inl (ca 1, 2, .inl (upd (fun _ => 0) 0 0))), ((q 111), .inl (ca 2, 2, .inr (.inl (vp_updL (fun _ => 0) 0 0)))), ((q 112), .inl (ca 1, 2, .inl (upd (fun _ => 0) 0 0))), ((q 113), .inl (ca 2, 2, .inr (.inl (vp_updL (fun _ => 0) 0 0)))), ((q 114), .inl (ca 2, 2, .inr (.inl (vp_updL (fun _ => 0) 0 0)))), ((q 117), .inl (ca 1, 2, .inl (upd (fun _ => 0) 0 0))), ((q 118), .inl (ca 1, 2, .inl (upd (fun _ => 0) 0 0))), ((q 122), .inl (ca 1, 2, .inl (fun _ => 0)))] := hD
  refine lv_aload_n hx hb d_MM_settles_56 rfl (lv_at hl 1 rfl) ?_
  refine va_get (D := (dC, dI)) (ci := 0) (v := .ref (q 122)) (C := R_MM) (T := F_MM) (N := 132) hx hb hts i_MM hown hK.1 hP 0 rfl rfl 122 (by decide) (hts _ xm_164) (fun _ h9 => h9) rfl d_MM_settles_57 ?_
  refine lv_iload_n hx hb d_MM_settles_60 rfl (lv_at hl 0 rfl) ?_
  refine lv_iconst (v := 0) hx hb d_MM_settles_61 (by decide) ?_
  refine va_iast hx hb hK.1 hP hD hS 8 1 rfl rfl (by unfold vp_in; decide) d_MM_settles_62 (fun H locs hP hD hS => ?_)
  have hP : va_P (dC, dI) classes [(h0, .inr (0, mF q th)), ((q 110), .inl (ca 1, 2, .inl (upd (fun _ => 0) 0 0))), ((q 111), .inl (ca 2, 2, .inr (.inl (vp_updL (fun _ => 0) 0 0)))), ((q 112), .inl (ca 1, 2, .inl (upd (fun _ => 0) 0 0))), ((q 113), .inl (ca 2, 2, .inr (.inl (vp_updL (fun _ => 0) 0 0)))), ((q 114), .inl (ca 2, 2, .inr (.inl (vp_updL (fun _ => 0) 0 0)))), ((q 117), .inl (ca 1, 2, .inl (upd (fun _ => 0) 0 0))), ((q 118), .inl (ca 1, 2, .inl (upd (fun _ => 0) 0 0))), ((q 122), .inl (ca 1, 2, .inl (upd (fun _ => 0) 0 0)))] H := hP
  have hD : va_D A [(h0, .inr (0, mF q th)), ((q 110), .inl (ca 1, 2, .inl (upd (fun _ => 0) 0 0))), ((q 111), .inl (ca 2, 2, .inr (.inl (vp_updL (fun _ => 0) 0 0)))), ((q 112), .inl (ca 1, 2, .inl (upd (fun _ => 0) 0 0))), ((q 113), .inl (ca 2, 2, .inr (.inl (vp_updL (fun _ => 0) 0 0)))), ((q 114), .inl (ca 2, 2, .inr (.inl (vp_updL (fun _ => 0) 0 0)))), ((q 117), .inl (ca 1, 2, .inl (upd (fun _ => 0) 0 0))), ((q 118), .inl (ca 1, 2, .inl (upd (fun _ => 0) 0 0))), ((q 122), .inl (ca 1, 2, .inl (upd (fun _ => 0) 0 0)))] := hD
  refine lv_iconst (v := 0) hx hb d_MM_settles_63 (by decide) ?_
  refine lv_istore_n (lv' := [(2, .int 0), (1, .int 0), (0, .ref h0)]) hx hb d_MM_settles_64 rfl hl (by decide) rfl (fun ls hl => ?_)
  refine lv_iload_n hx hb d_MM_settles_65 rfl (lv_at hl 0 rfl) ?_
  refine lv_aload_n hx hb d_MM_settles_66 rfl (lv_at hl 2 rfl) ?_
  refine va_get (D := (dC, dI)) (ci := 0) (v := .int 0) (C := R_MM) (T := F_MM) (N := 132) hx hb hts i_MM hown hK.1 hP 0 rfl rfl 8 (by decide) (hts _ xm_81) (fun _ h9 => h9) rfl d_MM_settles_67 ?_
  refine lv_icmp_ge (tgt := 141) hx hb d_MM_settles_70 (by decide) (fun _ => ?_) (fun h => absurd (by decide) h)
  refine lv_iinc (v := 1) (lv' := [(1, .int 1), (2, .int 0), (0, .ref h0)]) hx hb d_MM_settles_141 hl (k := 1) rfl (by decide) (by decide) rfl (fun ls hl => ?_)
  refine lv_goto (tgt := 2) hx hb d_MM_settles_144 (by decide) ?_
  refine lv_iload_n hx hb d_MM_settles_2 rfl (lv_at hl 0 rfl) ?_
  refine lv_iconst (v := 2) hx hb d_MM_settles_3 (by decide) ?_
  refine lv_icmp_ge (tgt := 147) hx hb d_MM_settles_4 (by decide) (fun h => absurd h (by decide)) (fun _ => ?_)
  refine lv_aload_n hx hb d_MM_settles_7 rfl (lv_at hl 2 rfl) ?_
  refine va_get (D := (dC, dI)) (ci := 0) (v := .ref (q 110)) (C := R_MM) (T := F_MM) (N := 132) hx hb hts i_MM hown hK.1 hP 0 rfl rfl 110 (by decide) (hts _ xm_152) (fun _ h9 => h9) rfl d_MM_settles_8 ?_
  refine lv_iload_n hx hb d_MM_settles_11 rfl (lv_at hl 0 rfl) ?_
  refine lv_iconst (v := 0) hx hb d_MM_settles_12 (by decide) ?_
  refine va_iast hx hb hK.1 hP hD hS 1 1 rfl rfl (by unfold vp_in; decide) d_MM_settles_13 (fun H locs hP hD hS => ?_)
  have hP : va_P (dC, dI) classes [(h0, .inr (0, mF q th)), ((q 110), .inl (ca 1, 2, .inl (upd (upd (fun _ => 0) 0 0) 1 0))), ((q 111), .inl (ca 2, 2, .inr (.inl (vp_updL (fun _ => 0) 0 0)))), ((q 112), .inl (ca 1, 2, .inl (upd (fun _ => 0) 0 0))), ((q 113), .inl (ca 2, 2, .inr (.inl (vp_updL (fun _ => 0) 0 0)))), ((q 114), .inl (ca 2, 2, .inr (.inl (vp_updL (fun _ => 0) 0 0)))), ((q 117), .inl (ca 1, 2, .inl (upd (fun _ => 0) 0 0))), ((q 118), .inl (ca 1, 2, .inl (upd (fun _ => 0) 0 0))), ((q 122), .inl (ca 1, 2, .inl (upd (fun _ => 0) 0 0)))] H := hP
  have hD : va_D A [(h0, .inr (0, mF q th)), ((q 110), .inl (ca 1, 2, .inl (upd (upd (fun _ => 0) 0 0) 1 0))), ((q 111), .inl (ca 2, 2, .inr (.inl (vp_updL (fun _ => 0) 0 0)))), ((q 112), .inl (ca 1, 2, .inl (upd (fun _ => 0) 0 0))), ((q 113), .inl (ca 2, 2, .inr (.inl (vp_updL (fun _ => 0) 0 0)))), ((q 114), .inl (ca 2, 2, .inr (.inl (vp_updL (fun _ => 0) 0 0)))), ((q 117), .inl (ca 1, 2, .inl (upd (fun _ => 0) 0 0))), ((q 118), .inl (ca 1, 2, .inl (upd (fun _ => 0) 0 0))), ((q 122), .inl (ca 1, 2, .inl (upd (fun _ => 0) 0 0)))] := hD
  refine lv_aload_n hx hb d_MM_settles_14 rfl (lv_at hl 2 rfl) ?_
  refine va_get (D := (dC, dI)) (ci := 0) (v := .ref (q 111)) (C := R_MM) (T := F_MM) (N := 132) hx hb hts i_MM hown hK.1 hP 0 rfl rfl 111 (by decide) (hts _ xm_153) (fun _ h9 => h9) rfl d_MM_settles_15 ?_
  refine lv_iload_n hx hb d_MM_settles_18 rfl (lv_at hl 0 rfl) ?_
  refine lv_lconst (v := 0) hx hb d_MM_settles_19 (by decide) ?_
  refine va_last hx hb hK.1 hP hD hS 2 2 rfl rfl (by unfold vp_in; decide) d_MM_settles_20 (fun H locs hP hD hS => ?_)
  have hP : va_P (dC, dI) classes [(h0, .inr (0, mF q th)), ((q 110), .inl (ca 1, 2, .inl (upd (upd (fun _ => 0) 0 0) 1 0))), ((q 111), .inl (ca 2, 2, .inr (.inl (vp_updL (vp_updL (fun _ => 0) 0 0) 1 0)))), ((q 112), .inl (ca 1, 2, .inl (upd (fun _ => 0) 0 0))), ((q 113), .inl (ca 2, 2, .inr (.inl (vp_updL (fun _ => 0) 0 0)))), ((q 114), .inl (ca 2, 2, .inr (.inl (vp_updL (fun _ => 0) 0 0)))), ((q 117), .inl (ca 1, 2, .inl (upd (fun _ => 0) 0 0))), ((q 118), .inl (ca 1, 2, .inl (upd (fun _ => 0) 0 0))), ((q 122), .inl (ca 1, 2, .inl (upd (fun _ => 0) 0 0)))] H := hP
  have hD : va_D A [(h0, .inr (0, mF q th)), ((q 110), .inl (ca 1, 2, .inl (upd (upd (fun _ => 0) 0 0) 1 0))), ((q 111), .inl (ca 2, 2, .inr (.inl (vp_updL (vp_updL (fun _ => 0) 0 0) 1 0)))), ((q 112), .inl (ca 1, 2, .inl (upd (fun _ => 0) 0 0))), ((q 113), .inl (ca 2, 2, .inr (.inl (vp_updL (fun _ => 0) 0 0)))), ((q 114), .inl (ca 2, 2, .inr (.inl (vp_updL (fun _ => 0) 0 0)))), ((q 117), .inl (ca 1, 2, .inl (upd (fun _ => 0) 0 0))), ((q 118), .inl (ca 1, 2, .inl (upd (fun _ => 0) 0 0))), ((q 122), .inl (ca 1, 2, .inl (upd (fun _ => 0) 0 0)))] := hD
  refine lv_aload_n hx hb d_MM_settles_21 rfl (lv_at hl 2 rfl) ?_
  refine va_get (D := (dC, dI)) (ci := 0) (v := .ref (q 112)) (C := R_MM) (T := F_MM) (N := 132) hx hb hts i_MM hown hK.1 hP 0 rfl rfl 112 (by decide) (hts _ xm_154) (fun _ h9 => h9) rfl d_MM_settles_22 ?_
  refine lv_iload_n hx hb d_MM_settles_25 rfl (lv_at hl 0 rfl) ?_
  refine lv_iconst (v := 0) hx hb d_MM_settles_26 (by decide) ?_
  refine va_iast hx hb hK.1 hP hD hS 3 1 rfl rfl (by unfold vp_in; decide) d_MM_settles_27 (fun H locs hP hD hS => ?_)
  have hP : va_P (dC, dI) classes [(h0, .inr (0, mF q th)), ((q 110), .inl (ca 1, 2, .inl (upd (upd (fun _ => 0) 0 0) 1 0))), ((q 111), .inl (ca 2, 2, .inr (.inl (vp_updL (vp_updL (fun _ => 0) 0 0) 1 0)))), ((q 112), .inl (ca 1, 2, .inl (upd (upd (fun _ => 0) 0 0) 1 0))), ((q 113), .inl (ca 2, 2, .inr (.inl (vp_updL (fun _ => 0) 0 0)))), ((q 114), .inl (ca 2, 2, .inr (.inl (vp_updL (fun _ => 0) 0 0)))), ((q 117), .inl (ca 1, 2, .inl (upd (fun _ => 0) 0 0))), ((q 118), .inl (ca 1, 2, .inl (upd (fun _ => 0) 0 0))), ((q 122), .inl (ca 1, 2, .inl (upd (fun _ => 0) 0 0)))] H := hP
  have hD : va_D A [(h0, .inr (0, mF q th)), ((q 110), .inl (ca 1, 2, .inl (upd (upd (fun _ => 0) 0 0) 1 0))), ((q 111), .inl (ca 2, 2, .inr (.inl (vp_updL (vp_updL (fun _ => 0) 0 0) 1 0)))), ((q 112), .inl (ca 1, 2, .inl (upd (upd (fun _ => 0) 0 0) 1 0))), ((q 113), .inl (ca 2, 2, .inr (.inl (vp_updL (fun _ => 0) 0 0)))), ((q 114), .inl (ca 2, 2, .inr (.inl (vp_updL (fun _ => 0) 0 0)))), ((q 117), .inl (ca 1, 2, .inl (upd (fun _ => 0) 0 0))), ((q 118), .inl (ca 1, 2, .inl (upd (fun _ => 0) 0 0))), ((q 122), .inl (ca 1, 2, .inl (upd (fun _ => 0) 0 0)))] := hD
  refine lv_aload_n hx hb d_MM_settles_28 rfl (lv_at hl 2 rfl) ?_
  refine va_get (D := (dC, dI)) (ci := 0) (v := .ref (q 113)) (C := R_MM) (T := F_MM) (N := 132) hx hb hts i_MM hown hK.1 hP 0 rfl rfl 113 (by decide) (hts _ xm_155) (fun _ h9 => h9) rfl d_MM_settles_29 ?_
  refine lv_iload_n hx hb d_MM_settles_32 rfl (lv_at hl 0 rfl) ?_
  refine lv_lconst (v := 0) hx hb d_MM_settles_33 (by decide) ?_
  refine va_last hx hb hK.1 hP hD hS 4 2 rfl rfl (by unfold vp_in; decide) d_MM_settles_34 (fun H locs hP hD hS => ?_)
  have hP : va_P (dC, dI) classes [(h0, .inr (0, mF q th)), ((q 110), .inl (ca 1, 2, .inl (upd (upd (fun _ => 0) 0 0) 1 0))), ((q 111), .inl (ca 2, 2, .inr (.inl (vp_updL (vp_updL (fun _ => 0) 0 0) 1 0)))), ((q 112), .inl (ca 1, 2, .inl (upd (upd (fun _ => 0) 0 0) 1 0))), ((q 113), .inl (ca 2, 2, .inr (.inl (vp_updL (vp_updL (fun _ => 0) 0 0) 1 0)))), ((q 114), .inl (ca 2, 2, .inr (.inl (vp_updL (fun _ => 0) 0 0)))), ((q 117), .inl (ca 1, 2, .inl (upd (fun _ => 0) 0 0))), ((q 118), .inl (ca 1, 2, .inl (upd (fun _ => 0) 0 0))), ((q 122), .inl (ca 1, 2, .inl (upd (fun _ => 0) 0 0)))] H := hP
  have hD : va_D A [(h0, .inr (0, mF q th)), ((q 110), .inl (ca 1, 2, .inl (upd (upd (fun _ => 0) 0 0) 1 0))), ((q 111), .inl (ca 2, 2, .inr (.inl (vp_updL (vp_updL (fun _ => 0) 0 0) 1 0)))), ((q 112), .inl (ca 1, 2, .inl (upd (upd (fun _ => 0) 0 0) 1 0))), ((q 113), .inl (ca 2, 2, .inr (.inl (vp_updL (vp_updL (fun _ => 0) 0 0) 1 0)))), ((q 114), .inl (ca 2, 2, .inr (.inl (vp_updL (fun _ => 0) 0 0)))), ((q 117), .inl (ca 1, 2, .inl (upd (fun _ => 0) 0 0))), ((q 118), .inl (ca 1, 2, .inl (upd (fun _ => 0) 0 0))), ((q 122), .inl (ca 1, 2, .inl (upd (fun _ => 0) 0 0)))] := hD
  refine lv_aload_n hx hb d_MM_settles_35 rfl (lv_at hl 2 rfl) ?_
  refine va_get (D := (dC, dI)) (ci := 0) (v := .ref (q 114)) (C := R_MM) (T := F_MM) (N := 132) hx hb hts i_MM hown hK.1 hP 0 rfl rfl 114 (by decide) (hts _ xm_156) (fun _ h9 => h9) rfl d_MM_settles_36 ?_
  refine lv_iload_n hx hb d_MM_settles_39 rfl (lv_at hl 0 rfl) ?_
  refine lv_lconst (v := 0) hx hb d_MM_settles_40 (by decide) ?_
  refine va_last hx hb hK.1 hP hD hS 5 2 rfl rfl (by unfold vp_in; decide) d_MM_settles_41 (fun H locs hP hD hS => ?_)
  have hP : va_P (dC, dI) classes [(h0, .inr (0, mF q th)), ((q 110), .inl (ca 1, 2, .inl (upd (upd (fun _ => 0) 0 0) 1 0))), ((q 111), .inl (ca 2, 2, .inr (.inl (vp_updL (vp_updL (fun _ => 0) 0 0) 1 0)))), ((q 112), .inl (ca 1, 2, .inl (upd (upd (fun _ => 0) 0 0) 1 0))), ((q 113), .inl (ca 2, 2, .inr (.inl (vp_updL (vp_updL (fun _ => 0) 0 0) 1 0)))), ((q 114), .inl (ca 2, 2, .inr (.inl (vp_updL (vp_updL (fun _ => 0) 0 0) 1 0)))), ((q 117), .inl (ca 1, 2, .inl (upd (fun _ => 0) 0 0))), ((q 118), .inl (ca 1, 2, .inl (upd (fun _ => 0) 0 0))), ((q 122), .inl (ca 1, 2, .inl (upd (fun _ => 0) 0 0)))] H := hP
  have hD : va_D A [(h0, .inr (0, mF q th)), ((q 110), .inl (ca 1, 2, .inl (upd (upd (fun _ => 0) 0 0) 1 0))), ((q 111), .inl (ca 2, 2, .inr (.inl (vp_updL (vp_updL (fun _ => 0) 0 0) 1 0)))), ((q 112), .inl (ca 1, 2, .inl (upd (upd (fun _ => 0) 0 0) 1 0))), ((q 113), .inl (ca 2, 2, .inr (.inl (vp_updL (vp_updL (fun _ => 0) 0 0) 1 0)))), ((q 114), .inl (ca 2, 2, .inr (.inl (vp_updL (vp_updL (fun _ => 0) 0 0) 1 0)))), ((q 117), .inl (ca 1, 2, .inl (upd (fun _ => 0) 0 0))), ((q 118), .inl (ca 1, 2, .inl (upd (fun _ => 0) 0 0))), ((q 122), .inl (ca 1, 2, .inl (upd (fun _ => 0) 0 0)))] := hD
  refine lv_aload_n hx hb d_MM_settles_42 rfl (lv_at hl 2 rfl) ?_
  refine va_get (D := (dC, dI)) (ci := 0) (v := .ref (q 117)) (C := R_MM) (T := F_MM) (N := 132) hx hb hts i_MM hown hK.1 hP 0 rfl rfl 117 (by decide) (hts _ xm_159) (fun _ h9 => h9) rfl d_MM_settles_43 ?_
  refine lv_iload_n hx hb d_MM_settles_46 rfl (lv_at hl 0 rfl) ?_
  refine lv_iconst (v := 0) hx hb d_MM_settles_47 (by decide) ?_
  refine va_iast hx hb hK.1 hP hD hS 6 1 rfl rfl (by unfold vp_in; decide) d_MM_settles_48 (fun H locs hP hD hS => ?_)
  have hP : va_P (dC, dI) classes [(h0, .inr (0, mF q th)), ((q 110), .inl (ca 1, 2, .inl (upd (upd (fun _ => 0) 0 0) 1 0))), ((q 111), .inl (ca 2, 2, .inr (.inl (vp_updL (vp_updL (fun _ => 0) 0 0) 1 0)))), ((q 112), .inl (ca 1, 2, .inl (upd (upd (fun _ => 0) 0 0) 1 0))), ((q 113), .inl (ca 2, 2, .inr (.inl (vp_updL (vp_updL (fun _ => 0) 0 0) 1 0)))), ((q 114), .inl (ca 2, 2, .inr (.inl (vp_updL (vp_updL (fun _ => 0) 0 0) 1 0)))), ((q 117), .inl (ca 1, 2, .inl (upd (upd (fun _ => 0) 0 0) 1 0))), ((q 118), .inl (ca 1, 2, .inl (upd (fun _ => 0) 0 0))), ((q 122), .inl (ca 1, 2, .inl (upd (fun _ => 0) 0 0)))] H := hP
  have hD : va_D A [(h0, .inr (0, mF q th)), ((q 110), .inl (ca 1, 2, .inl (upd (upd (fun _ => 0) 0 0) 1 0))), ((q 111), .inl (ca 2, 2, .inr (.inl (vp_updL (vp_updL (fun _ => 0) 0 0) 1 0)))), ((q 112), .inl (ca 1, 2, .inl (upd (upd (fun _ => 0) 0 0) 1 0))), ((q 113), .inl (ca 2, 2, .inr (.inl (vp_updL (vp_updL (fun _ => 0) 0 0) 1 0)))), ((q 114), .inl (ca 2, 2, .inr (.inl (vp_updL (vp_updL (fun _ => 0) 0 0) 1 0)))), ((q 117), .inl (ca 1, 2, .inl (upd (upd (fun _ => 0) 0 0) 1 0))), ((q 118), .inl (ca 1, 2, .inl (upd (fun _ => 0) 0 0))), ((q 122), .inl (ca 1, 2, .inl (upd (fun _ => 0) 0 0)))] := hD
  refine lv_aload_n hx hb d_MM_settles_49 rfl (lv_at hl 2 rfl) ?_
  refine va_get (D := (dC, dI)) (ci := 0) (v := .ref (q 118)) (C := R_MM) (T := F_MM) (N := 132) hx hb hts i_MM hown hK.1 hP 0 rfl rfl 118 (by decide) (hts _ xm_160) (fun _ h9 => h9) rfl d_MM_settles_50 ?_
  refine lv_iload_n hx hb d_MM_settles_53 rfl (lv_at hl 0 rfl) ?_
  refine lv_iconst (v := 0) hx hb d_MM_settles_54 (by decide) ?_
  refine va_iast hx hb hK.1 hP hD hS 7 1 rfl rfl (by unfold vp_in; decide) d_MM_settles_55 (fun H locs hP hD hS => ?_)
  have hP : va_P (dC, dI) classes [(h0, .inr (0, mF q th)), ((q 110), .inl (ca 1, 2, .inl (upd (upd (fun _ => 0) 0 0) 1 0))), ((q 111), .inl (ca 2, 2, .inr (.inl (vp_updL (vp_updL (fun _ => 0) 0 0) 1 0)))), ((q 112), .inl (ca 1, 2, .inl (upd (upd (fun _ => 0) 0 0) 1 0))), ((q 113), .inl (ca 2, 2, .inr (.inl (vp_updL (vp_updL (fun _ => 0) 0 0) 1 0)))), ((q 114), .inl (ca 2, 2, .inr (.inl (vp_updL (vp_updL (fun _ => 0) 0 0) 1 0)))), ((q 117), .inl (ca 1, 2, .inl (upd (upd (fun _ => 0) 0 0) 1 0))), ((q 118), .inl (ca 1, 2, .inl (upd (upd (fun _ => 0) 0 0) 1 0))), ((q 122), .inl (ca 1, 2, .inl (upd (fun _ => 0) 0 0)))] H := hP
  have hD : va_D A [(h0, .inr (0, mF q th)), ((q 110), .inl (ca 1, 2, .inl (upd (upd (fun _ => 0) 0 0) 1 0))), ((q 111), .inl (ca 2, 2, .inr (.inl (vp_updL (vp_updL (fun _ => 0) 0 0) 1 0)))), ((q 112), .inl (ca 1, 2, .inl (upd (upd (fun _ => 0) 0 0) 1 0))), ((q 113), .inl (ca 2, 2, .inr (.inl (vp_updL (vp_updL (fun _ => 0) 0 0) 1 0)))), ((q 114), .inl (ca 2, 2, .inr (.inl (vp_updL (vp_updL (fun _ => 0) 0 0) 1 0)))), ((q 117), .inl (ca 1, 2, .inl (upd (upd (fun _ => 0) 0 0) 1 0))), ((q 118), .inl (ca 1, 2, .inl (upd (upd (fun _ => 0) 0 0) 1 0))), ((q 122), .inl (ca 1, 2, .inl (upd (fun _ => 0) 0 0)))] := hD
  refine lv_aload_n hx hb d_MM_settles_56 rfl (lv_at hl 2 rfl) ?_
  refine va_get (D := (dC, dI)) (ci := 0) (v := .ref (q 122)) (C := R_MM) (T := F_MM) (N := 132) hx hb hts i_MM hown hK.1 hP 0 rfl rfl 122 (by decide) (hts _ xm_164) (fun _ h9 => h9) rfl d_MM_settles_57 ?_
  refine lv_iload_n hx hb d_MM_settles_60 rfl (lv_at hl 0 rfl) ?_
  refine lv_iconst (v := 0) hx hb d_MM_settles_61 (by decide) ?_
  refine va_iast hx hb hK.1 hP hD hS 8 1 rfl rfl (by unfold vp_in; decide) d_MM_settles_62 (fun H locs hP hD hS => ?_)
  have hP : va_P (dC, dI) classes [(h0, .inr (0, mF q th)), ((q 110), .inl (ca 1, 2, .inl (upd (upd (fun _ => 0) 0 0) 1 0))), ((q 111), .inl (ca 2, 2, .inr (.inl (vp_updL (vp_updL (fun _ => 0) 0 0) 1 0)))), ((q 112), .inl (ca 1, 2, .inl (upd (upd (fun _ => 0) 0 0) 1 0))), ((q 113), .inl (ca 2, 2, .inr (.inl (vp_updL (vp_updL (fun _ => 0) 0 0) 1 0)))), ((q 114), .inl (ca 2, 2, .inr (.inl (vp_updL (vp_updL (fun _ => 0) 0 0) 1 0)))), ((q 117), .inl (ca 1, 2, .inl (upd (upd (fun _ => 0) 0 0) 1 0))), ((q 118), .inl (ca 1, 2, .inl (upd (upd (fun _ => 0) 0 0) 1 0))), ((q 122), .inl (ca 1, 2, .inl (upd (upd (fun _ => 0) 0 0) 1 0)))] H := hP
  have hD : va_D A [(h0, .inr (0, mF q th)), ((q 110), .inl (ca 1, 2, .inl (upd (upd (fun _ => 0) 0 0) 1 0))), ((q 111), .inl (ca 2, 2, .inr (.inl (vp_updL (vp_updL (fun _ => 0) 0 0) 1 0)))), ((q 112), .inl (ca 1, 2, .inl (upd (upd (fun _ => 0) 0 0) 1 0))), ((q 113), .inl (ca 2, 2, .inr (.inl (vp_updL (vp_updL (fun _ => 0) 0 0) 1 0)))), ((q 114), .inl (ca 2, 2, .inr (.inl (vp_updL (vp_updL (fun _ => 0) 0 0) 1 0)))), ((q 117), .inl (ca 1, 2, .inl (upd (upd (fun _ => 0) 0 0) 1 0))), ((q 118), .inl (ca 1, 2, .inl (upd (upd (fun _ => 0) 0 0) 1 0))), ((q 122), .inl (ca 1, 2, .inl (upd (upd (fun _ => 0) 0 0) 1 0)))] := hD
  refine lv_iconst (v := 0) hx hb d_MM_settles_63 (by decide) ?_
  refine lv_istore_n (lv' := [(2, .int 0), (1, .int 1), (0, .ref h0)]) hx hb d_MM_settles_64 rfl hl (by decide) rfl (fun ls hl => ?_)
  refine lv_iload_n hx hb d_MM_settles_65 rfl (lv_at hl 0 rfl) ?_
  refine lv_aload_n hx hb d_MM_settles_66 rfl (lv_at hl 2 rfl) ?_
  refine va_get (D := (dC, dI)) (ci := 0) (v := .int 0) (C := R_MM) (T := F_MM) (N := 132) hx hb hts i_MM hown hK.1 hP 0 rfl rfl 8 (by decide) (hts _ xm_81) (fun _ h9 => h9) rfl d_MM_settles_67 ?_
  refine lv_icmp_ge (tgt := 141) hx hb d_MM_settles_70 (by decide) (fun _ => ?_) (fun h => absurd (by decide) h)
  refine lv_iinc (v := 2) (lv' := [(1, .int 2), (2, .int 0), (0, .ref h0)]) hx hb d_MM_settles_141 hl (k := 1) rfl (by decide) (by decide) rfl (fun ls hl => ?_)
  refine lv_goto (tgt := 2) hx hb d_MM_settles_144 (by decide) ?_
  refine lv_iload_n hx hb d_MM_settles_2 rfl (lv_at hl 0 rfl) ?_
  refine lv_iconst (v := 2) hx hb d_MM_settles_3 (by decide) ?_
  refine lv_icmp_ge (tgt := 147) hx hb d_MM_settles_4 (by decide) (fun _ => ?_) (fun h => absurd (by decide) h)
  exact ax_vret hx hb hr hlocks hP hD hS () rfl [0] rfl (by decide) rfl (Nat.le_of_ble_eq_true rfl) (Nat.le_of_ble_eq_true rfl) d_MM_settles_147
theorem d_MM_settle_0 : decode b_MM_settle 0 = .ok (.aload_n 0, 1) := by decide +kernel
theorem d_MM_settle_1 : decode b_MM_settle 1 = .ok (.iconst 0, 1) := by decide +kernel
theorem d_MM_settle_2 : decode b_MM_settle 2 = .ok (.putfield 343, 3) := by decide +kernel
theorem d_MM_settle_5 : decode b_MM_settle 5 = .ok (.aload_n 0, 1) := by decide +kernel
theorem d_MM_settle_6 : decode b_MM_settle 6 = .ok (.invokevirtual 438, 3) := by decide +kernel
theorem d_MM_settle_9 : decode b_MM_settle 9 = .ok (.return_, 1) := by decide +kernel
set_option maxHeartbeats 4000000 in
set_option maxRecDepth 100000 in
theorem c_MM_settle (l : Launch) (dC : Nat → ClassId) (dI : Nat → Nat → Nat) (ca : Nat → ClassId) (h0 : Nat) (q : Nat → Nat) (th : Int32) : CT l classes (dC, dI) (mK dC dI ca) wm y_MM_settle b_MM_settle 1 none 1 23 0 0 [.ref h0] [(h0, .inr (0, mF q th)), ((q 110), .inl (ca 1, 2, .inl (fun _ => 0))), ((q 111), .inl (ca 2, 2, .inr (.inl (fun _ => 0)))), ((q 112), .inl (ca 1, 2, .inl (fun _ => 0))), ((q 113), .inl (ca 2, 2, .inr (.inl (fun _ => 0)))), ((q 114), .inl (ca 2, 2, .inr (.inl (fun _ => 0)))), ((q 117), .inl (ca 1, 2, .inl (fun _ => 0))), ((q 118), .inl (ca 1, 2, .inl (fun _ => 0))), ((q 122), .inl (ca 1, 2, .inl (fun _ => 0)))] (fun (v : Option Value) (_ : Unit) => v = none) (fun (_ : Unit) => [(h0, .inr (0, mF q 0))]) := by
  refine ax_of (by decide) (Nat.le_of_ble_eq_true rfl) ?_
  intro p e s m below meth c A ls hAt hK hP hD hS hA hl
  obtain ⟨hx, hb, hr, hml, hown, hts, hlocks, hin⟩ := hAt
  have hl : lv_has ls 1 [(0, .ref h0)] := hl
  refine lv_aload_n hx hb d_MM_settle_0 rfl (lv_at hl 0 rfl) ?_
  refine lv_iconst (v := 0) hx hb d_MM_settle_1 (by decide) ?_
  refine va_put (D := (dC, dI)) (ci := 0) (v := .int 0) (ty := .int) (C := R_MM) (T := F_MM) (N := 132) hx hb hts i_MM t_MM t_MM_ok n_MM hown hK.1 hP hD hS 0 rfl rfl 0 (by decide) (hts _ xm_73) (fun _ h9 => h9) rfl (by decide +kernel) rfl rfl (Nat.le_of_ble_eq_true rfl) d_MM_settle_2 (fun H locs hP hD hS => ?_)
  have hP : va_P (dC, dI) classes [(h0, .inr (0, mF q 0)), ((q 110), .inl (ca 1, 2, .inl (fun _ => 0))), ((q 111), .inl (ca 2, 2, .inr (.inl (fun _ => 0)))), ((q 112), .inl (ca 1, 2, .inl (fun _ => 0))), ((q 113), .inl (ca 2, 2, .inr (.inl (fun _ => 0)))), ((q 114), .inl (ca 2, 2, .inr (.inl (fun _ => 0)))), ((q 117), .inl (ca 1, 2, .inl (fun _ => 0))), ((q 118), .inl (ca 1, 2, .inl (fun _ => 0))), ((q 122), .inl (ca 1, 2, .inl (fun _ => 0)))] H := hP
  have hD : va_D A [(h0, .inr (0, mF q 0)), ((q 110), .inl (ca 1, 2, .inl (fun _ => 0))), ((q 111), .inl (ca 2, 2, .inr (.inl (fun _ => 0)))), ((q 112), .inl (ca 1, 2, .inl (fun _ => 0))), ((q 113), .inl (ca 2, 2, .inr (.inl (fun _ => 0)))), ((q 114), .inl (ca 2, 2, .inr (.inl (fun _ => 0)))), ((q 117), .inl (ca 1, 2, .inl (fun _ => 0))), ((q 118), .inl (ca 1, 2, .inl (fun _ => 0))), ((q 122), .inl (ca 1, 2, .inl (fun _ => 0)))] := hD
  refine lv_aload_n hx hb d_MM_settle_5 rfl (lv_at hl 0 rfl) ?_
  refine ax_V (ci := 0) (q0 := 0) (k := 0) (As := []) (rest := []) (wr := []) rfl hx hb hml hown hts g_wm (mK_bl dC dI ca) (c_MM_settles l dC dI ca h0 q 0) xm_260 xm_261 xm_0 xm_262 xm_340 (by decide +kernel) rfl (Nat.le_of_ble_eq_true rfl) (Nat.le_of_ble_eq_true rfl) hl.1 (Nat.le_of_ble_eq_true rfl) (mK_up hK) hK.1 hP hD hS hA rfl rfl [0, 1, 2, 3, 4, 5, 6, 7, 8] [] rfl (by decide) rfl rfl (by decide) (by decide) (Nat.le_of_ble_eq_true rfl) (Nat.le_of_ble_eq_true rfl) d_MM_settle_6 (fun v _ H locs hp hP hD hS => ?_)
  obtain rfl : v = none := hp
  have hP : va_P (dC, dI) classes [(h0, .inr (0, mF q 0))] H := hP
  have hD : va_D A [(h0, .inr (0, mF q 0))] := hD
  refine W.eq (g2 := F0 m 9 ls []) rfl ?_
  exact ax_vret hx hb hr hlocks hP hD hS () rfl [0] rfl (by decide) rfl (Nat.le_of_ble_eq_true rfl) (Nat.le_of_ble_eq_true rfl) d_MM_settle_9
