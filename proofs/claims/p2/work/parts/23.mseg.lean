set_option maxHeartbeats 4000000 in
set_option maxRecDepth 100000 in
theorem mi_1 {p : Program} {l : Launch} {e : Env} {s : State} {m : MethodId} {args : Array Value} {below : List Frame} {meth : Method} {c : Code} {H : Heap} {locs : List Loc} {Q : State → Prop} {dC : Nat → ClassId} {dI : Nat → Nat → Nat} {ca : Nat → ClassId} {A : Nat → Prop} {ls : Array Slot} {h0 : Nat} {sa : Nat → Nat} (M : mC p s m args meth c dC dI ca A ls h0) (hks : ∀ (i : Nat) (z : Nat × String), strs[i]? = some z → vk_R R_MM z.1 z.2 (sa i) s ∧ va_Any "java/lang/String" s s.heap (sa i) ∧ sa i ≠ h0) (hnA : ∀ (i : Nat) (z : Nat × String), strs[i]? = some z → ¬ A (sa i)) {fs_1 : List Value} {q_1 : Nat} {q_2 : List Value} (hP : va_P (dC, dI) classes ((h0, .inr (0, fs_1)) :: [(q_1, .inr (1, q_2))]) H) (hD : va_D A ((h0, .inr (0, fs_1)) :: [(q_1, .inr (1, q_2))])) (hS : va_S A s.heap H locs) (hlen : fs_1.length = 132)
    (kk : ∀ (q_3 q_5 q_7 q_9 q_11 q_12 q_4 : Nat) (H : Heap) (locs : List Loc), ((((((fs_1.set 2 (.ref q_3)).set 3 (.ref q_5)).set 4 (.ref q_7)).set 5 (.ref q_9)).set 9 (.ref q_11)).set 10 (.ref q_12)).length = 132 → va_P (dC, dI) classes ((h0, .inr (0, (((((fs_1.set 2 (.ref q_3)).set 3 (.ref q_5)).set 4 (.ref q_7)).set 5 (.ref q_9)).set 9 (.ref q_11)).set 10 (.ref q_12))) :: [(q_1, .inr (1, q_2)), (q_3, .inr (2, [.ref q_4, .int 0])), (q_4, .inl (ca 0, 16, .inl (fun _ => 0)))]) H → va_D A ((h0, .inr (0, (((((fs_1.set 2 (.ref q_3)).set 3 (.ref q_5)).set 4 (.ref q_7)).set 5 (.ref q_9)).set 9 (.ref q_11)).set 10 (.ref q_12))) :: [(q_1, .inr (1, q_2)), (q_3, .inr (2, [.ref q_4, .int 0])), (q_4, .inl (ca 0, 16, .inl (fun _ => 0)))]) → va_S A s.heap H locs → W p l e ({ frames := 7, cells := 166, slots := 640022, locals := 100 }) s m args below meth c H locs 11 200 Q (F0 m 80 ls [])) :
    W p l e ({ frames := 7, cells := 166, slots := 640022, locals := 100 }) s m args below meth c H locs 1 8 Q (F0 m 15 ls []) := by
  obtain ⟨hx, hb, hml, hown, hts, hin, hK, hA, hl⟩ := id M
  refine lv_aload_n hx hb d_MM_init_15 rfl (lv_at hl 0 rfl) ?_
  refine m_new M (wt := [(q_1, .inr (1, q_2))]) (ci := 2) (C := R_MB) (T := F_MB) (N := 2) (f0 := [.null, .int 0]) hP hD hS i_MB t_MB_ok xm_25 xm_26 xm_2 rfl (by decide +kernel) (Nat.le_of_ble_eq_true rfl) (Nat.le_of_ble_eq_true rfl) d_MM_init_16 d_MM_init_19 ?_
  clear hP hD hS
  intro q_3 H hP hD hS
  replace hP : va_P (dC, dI) classes [(h0, .inr (0, fs_1)), (q_1, .inr (1, q_2)), (q_3, .inr (2, [.null, .int 0]))] H := hP
  replace hD : va_D A [(h0, .inr (0, fs_1)), (q_1, .inr (1, q_2)), (q_3, .inr (2, [.null, .int 0]))] := hD
  refine W.widen (k := 2) (n := 10) (Nat.le_of_ble_eq_true rfl) (Nat.le_of_ble_eq_true rfl) ?_
  refine ax_IN (k := 0) (As := []) (rest := [.ref q_3, .ref h0]) (wr := [(h0, .inr (0, fs_1)), (q_1, .inr (1, q_2))]) rfl hx hb hml hown hts g_wm (mK_bl dC dI ca) (c_MB_init l dC dI ca q_3) rfl (hK.2.1 _ zm_3) xm_27 xm_2 xm_28 (by decide +kernel) rfl (Nat.le_of_ble_eq_true rfl) (Nat.le_of_ble_eq_true rfl) hl.1 (Nat.le_of_ble_eq_true rfl) (mK_up hK) hP hD hS hA [2] [0, 1] rfl (by decide) rfl rfl (by decide) (by decide) (Nat.le_of_ble_eq_true rfl) (Nat.le_of_ble_eq_true rfl) d_MM_init_20 ?_
  clear hP hD hS
  intro v q_4 H locs hp hP hD hS
  obtain rfl : v = none := hp
  replace hP : va_P (dC, dI) classes [(h0, .inr (0, fs_1)), (q_1, .inr (1, q_2)), (q_3, .inr (2, [.ref q_4, .int 0])), (q_4, .inl (ca 0, 16, .inl (fun _ => 0)))] H := hP
  replace hD : va_D A [(h0, .inr (0, fs_1)), (q_1, .inr (1, q_2)), (q_3, .inr (2, [.ref q_4, .int 0])), (q_4, .inl (ca 0, 16, .inl (fun _ => 0)))] := hD
  refine W.eq (g2 := F0 m 23 ls [.ref q_3, .ref h0]) rfl ?_
  refine W.widen (k := 3) (n := 26) (Nat.le_of_ble_eq_true rfl) (Nat.le_of_ble_eq_true rfl) ?_
  refine m_put M (fs := fs_1) (wt := [(q_1, .inr (1, q_2)), (q_3, .inr (2, [.ref q_4, .int 0])), (q_4, .inl (ca 0, 16, .inl (fun _ => 0)))]) (k := 2) (ty := .object "SourceBackModel$Bytes") hP hD hS hlen (by decide) xm_75 rfl rfl (by decide +kernel) rfl rfl d_MM_init_23 ?_
  clear hP hD hS hlen
  intro H locs hlen hP hD hS
  obtain ⟨fs_2, e_2⟩ : ∃ z, z = fs_1.set 2 (.ref q_3) := ⟨_, rfl⟩
  rw [← e_2] at hP hD hlen
  replace hP : va_P (dC, dI) classes [(h0, .inr (0, fs_2)), (q_1, .inr (1, q_2)), (q_3, .inr (2, [.ref q_4, .int 0])), (q_4, .inl (ca 0, 16, .inl (fun _ => 0)))] H := hP
  replace hD : va_D A [(h0, .inr (0, fs_2)), (q_1, .inr (1, q_2)), (q_3, .inr (2, [.ref q_4, .int 0])), (q_4, .inl (ca 0, 16, .inl (fun _ => 0)))] := hD
  refine lv_aload_n hx hb d_MM_init_26 rfl (lv_at hl 0 rfl) ?_
  refine m_new M (wt := [(q_1, .inr (1, q_2)), (q_3, .inr (2, [.ref q_4, .int 0])), (q_4, .inl (ca 0, 16, .inl (fun _ => 0)))]) (ci := 2) (C := R_MB) (T := F_MB) (N := 2) (f0 := [.null, .int 0]) hP hD hS i_MB t_MB_ok xm_25 xm_26 xm_2 rfl (by decide +kernel) (Nat.le_of_ble_eq_true rfl) (Nat.le_of_ble_eq_true rfl) d_MM_init_27 d_MM_init_30 ?_
  clear hP hD hS
  intro q_5 H hP hD hS
  replace hP : va_P (dC, dI) classes [(h0, .inr (0, fs_2)), (q_1, .inr (1, q_2)), (q_3, .inr (2, [.ref q_4, .int 0])), (q_4, .inl (ca 0, 16, .inl (fun _ => 0))), (q_5, .inr (2, [.null, .int 0]))] H := hP
  replace hD : va_D A [(h0, .inr (0, fs_2)), (q_1, .inr (1, q_2)), (q_3, .inr (2, [.ref q_4, .int 0])), (q_4, .inl (ca 0, 16, .inl (fun _ => 0))), (q_5, .inr (2, [.null, .int 0]))] := hD
  refine W.widen (k := 4) (n := 28) (Nat.le_of_ble_eq_true rfl) (Nat.le_of_ble_eq_true rfl) ?_
  refine ax_IN (k := 0) (As := []) (rest := [.ref q_5, .ref h0]) (wr := [(h0, .inr (0, fs_2)), (q_1, .inr (1, q_2)), (q_3, .inr (2, [.ref q_4, .int 0])), (q_4, .inl (ca 0, 16, .inl (fun _ => 0)))]) rfl hx hb hml hown hts g_wm (mK_bl dC dI ca) (c_MB_init l dC dI ca q_5) rfl (hK.2.1 _ zm_3) xm_27 xm_2 xm_28 (by decide +kernel) rfl (Nat.le_of_ble_eq_true rfl) (Nat.le_of_ble_eq_true rfl) hl.1 (Nat.le_of_ble_eq_true rfl) (mK_up hK) hP hD hS hA [4] [0, 1, 2, 3] rfl (by decide) rfl rfl (by decide) (by decide) (Nat.le_of_ble_eq_true rfl) (Nat.le_of_ble_eq_true rfl) d_MM_init_31 ?_
  clear hP hD hS
  intro v q_6 H locs hp hP hD hS
  obtain rfl : v = none := hp
  replace hP : va_P (dC, dI) classes [(h0, .inr (0, fs_2)), (q_1, .inr (1, q_2)), (q_3, .inr (2, [.ref q_4, .int 0])), (q_4, .inl (ca 0, 16, .inl (fun _ => 0))), (q_5, .inr (2, [.ref q_6, .int 0])), (q_6, .inl (ca 0, 16, .inl (fun _ => 0)))] H := hP
  replace hD : va_D A [(h0, .inr (0, fs_2)), (q_1, .inr (1, q_2)), (q_3, .inr (2, [.ref q_4, .int 0])), (q_4, .inl (ca 0, 16, .inl (fun _ => 0))), (q_5, .inr (2, [.ref q_6, .int 0])), (q_6, .inl (ca 0, 16, .inl (fun _ => 0)))] := hD
  refine W.eq (g2 := F0 m 34 ls [.ref q_5, .ref h0]) rfl ?_
  refine W.widen (k := 5) (n := 44) (Nat.le_of_ble_eq_true rfl) (Nat.le_of_ble_eq_true rfl) ?_
  replace hP := hP.sub (ws' := [(h0, .inr (0, fs_2)), (q_1, .inr (1, q_2)), (q_3, .inr (2, [.ref q_4, .int 0])), (q_4, .inl (ca 0, 16, .inl (fun _ => 0)))]) [0, 1, 2, 3] rfl
  replace hD := hD.sub (ws' := [(h0, .inr (0, fs_2)), (q_1, .inr (1, q_2)), (q_3, .inr (2, [.ref q_4, .int 0])), (q_4, .inl (ca 0, 16, .inl (fun _ => 0)))]) [0, 1, 2, 3] (by decide) rfl
  refine m_put M (fs := fs_2) (wt := [(q_1, .inr (1, q_2)), (q_3, .inr (2, [.ref q_4, .int 0])), (q_4, .inl (ca 0, 16, .inl (fun _ => 0)))]) (k := 3) (ty := .object "SourceBackModel$Bytes") hP hD hS hlen (by decide) xm_76 rfl rfl (by decide +kernel) rfl rfl d_MM_init_34 ?_
  clear hP hD hS hlen
  intro H locs hlen hP hD hS
  obtain ⟨fs_3, e_3⟩ : ∃ z, z = fs_2.set 3 (.ref q_5) := ⟨_, rfl⟩
  rw [← e_3] at hP hD hlen
  replace hP : va_P (dC, dI) classes [(h0, .inr (0, fs_3)), (q_1, .inr (1, q_2)), (q_3, .inr (2, [.ref q_4, .int 0])), (q_4, .inl (ca 0, 16, .inl (fun _ => 0)))] H := hP
  replace hD : va_D A [(h0, .inr (0, fs_3)), (q_1, .inr (1, q_2)), (q_3, .inr (2, [.ref q_4, .int 0])), (q_4, .inl (ca 0, 16, .inl (fun _ => 0)))] := hD
  refine lv_aload_n hx hb d_MM_init_37 rfl (lv_at hl 0 rfl) ?_
  refine m_new M (wt := [(q_1, .inr (1, q_2)), (q_3, .inr (2, [.ref q_4, .int 0])), (q_4, .inl (ca 0, 16, .inl (fun _ => 0)))]) (ci := 3) (C := R_MI) (T := F_MI) (N := 2) (f0 := [.null, .int 0]) hP hD hS i_MI t_MI_ok xm_32 xm_33 xm_3 rfl (by decide +kernel) (Nat.le_of_ble_eq_true rfl) (Nat.le_of_ble_eq_true rfl) d_MM_init_38 d_MM_init_41 ?_
  clear hP hD hS
  intro q_7 H hP hD hS
  replace hP : va_P (dC, dI) classes [(h0, .inr (0, fs_3)), (q_1, .inr (1, q_2)), (q_3, .inr (2, [.ref q_4, .int 0])), (q_4, .inl (ca 0, 16, .inl (fun _ => 0))), (q_7, .inr (3, [.null, .int 0]))] H := hP
  replace hD : va_D A [(h0, .inr (0, fs_3)), (q_1, .inr (1, q_2)), (q_3, .inr (2, [.ref q_4, .int 0])), (q_4, .inl (ca 0, 16, .inl (fun _ => 0))), (q_7, .inr (3, [.null, .int 0]))] := hD
  refine W.widen (k := 6) (n := 46) (Nat.le_of_ble_eq_true rfl) (Nat.le_of_ble_eq_true rfl) ?_
  refine lv_iconst (v := 4) hx hb d_MM_init_42 (by decide) ?_
  refine ax_I (k := 1) (As := [.int 4]) (rest := [.ref q_7, .ref h0]) (wr := [(h0, .inr (0, fs_3)), (q_1, .inr (1, q_2)), (q_3, .inr (2, [.ref q_4, .int 0])), (q_4, .inl (ca 0, 16, .inl (fun _ => 0)))]) rfl hx hb hml hown hts g_wm (mK_bl dC dI ca) (c_MI_init l dC dI ca q_7) rfl xm_34 xm_35 xm_3 xm_36 (by decide +kernel) rfl (Nat.le_of_ble_eq_true rfl) (Nat.le_of_ble_eq_true rfl) hl.1 (Nat.le_of_ble_eq_true rfl) (mK_up hK) hP hD hS hA [4] [0, 1, 2, 3] rfl (by decide) rfl rfl (by decide) (by decide) (Nat.le_of_ble_eq_true rfl) (Nat.le_of_ble_eq_true rfl) d_MM_init_43 ?_
  clear hP hD hS
  intro v q_8 H locs hp hP hD hS
  obtain rfl : v = none := hp
  replace hP : va_P (dC, dI) classes [(h0, .inr (0, fs_3)), (q_1, .inr (1, q_2)), (q_3, .inr (2, [.ref q_4, .int 0])), (q_4, .inl (ca 0, 16, .inl (fun _ => 0))), (q_7, .inr (3, [.ref q_8, .int 0])), (q_8, .inl (ca 1, 4, .inl (fun _ => 0)))] H := hP
  replace hD : va_D A [(h0, .inr (0, fs_3)), (q_1, .inr (1, q_2)), (q_3, .inr (2, [.ref q_4, .int 0])), (q_4, .inl (ca 0, 16, .inl (fun _ => 0))), (q_7, .inr (3, [.ref q_8, .int 0])), (q_8, .inl (ca 1, 4, .inl (fun _ => 0)))] := hD
  refine W.eq (g2 := F0 m 46 ls [.ref q_7, .ref h0]) rfl ?_
  refine W.widen (k := 7) (n := 50) (Nat.le_of_ble_eq_true rfl) (Nat.le_of_ble_eq_true rfl) ?_
  replace hP := hP.sub (ws' := [(h0, .inr (0, fs_3)), (q_1, .inr (1, q_2)), (q_3, .inr (2, [.ref q_4, .int 0])), (q_4, .inl (ca 0, 16, .inl (fun _ => 0)))]) [0, 1, 2, 3] rfl
  replace hD := hD.sub (ws' := [(h0, .inr (0, fs_3)), (q_1, .inr (1, q_2)), (q_3, .inr (2, [.ref q_4, .int 0])), (q_4, .inl (ca 0, 16, .inl (fun _ => 0)))]) [0, 1, 2, 3] (by decide) rfl
  refine m_put M (fs := fs_3) (wt := [(q_1, .inr (1, q_2)), (q_3, .inr (2, [.ref q_4, .int 0])), (q_4, .inl (ca 0, 16, .inl (fun _ => 0)))]) (k := 4) (ty := .object "SourceBackModel$Ints") hP hD hS hlen (by decide) xm_77 rfl rfl (by decide +kernel) rfl rfl d_MM_init_46 ?_
  clear hP hD hS hlen
  intro H locs hlen hP hD hS
  obtain ⟨fs_4, e_4⟩ : ∃ z, z = fs_3.set 4 (.ref q_7) := ⟨_, rfl⟩
  rw [← e_4] at hP hD hlen
  replace hP : va_P (dC, dI) classes [(h0, .inr (0, fs_4)), (q_1, .inr (1, q_2)), (q_3, .inr (2, [.ref q_4, .int 0])), (q_4, .inl (ca 0, 16, .inl (fun _ => 0)))] H := hP
  replace hD : va_D A [(h0, .inr (0, fs_4)), (q_1, .inr (1, q_2)), (q_3, .inr (2, [.ref q_4, .int 0])), (q_4, .inl (ca 0, 16, .inl (fun _ => 0)))] := hD
  refine lv_aload_n hx hb d_MM_init_49 rfl (lv_at hl 0 rfl) ?_
  refine m_new M (wt := [(q_1, .inr (1, q_2)), (q_3, .inr (2, [.ref q_4, .int 0])), (q_4, .inl (ca 0, 16, .inl (fun _ => 0)))]) (ci := 3) (C := R_MI) (T := F_MI) (N := 2) (f0 := [.null, .int 0]) hP hD hS i_MI t_MI_ok xm_32 xm_33 xm_3 rfl (by decide +kernel) (Nat.le_of_ble_eq_true rfl) (Nat.le_of_ble_eq_true rfl) d_MM_init_50 d_MM_init_53 ?_
  clear hP hD hS
  intro q_9 H hP hD hS
  replace hP : va_P (dC, dI) classes [(h0, .inr (0, fs_4)), (q_1, .inr (1, q_2)), (q_3, .inr (2, [.ref q_4, .int 0])), (q_4, .inl (ca 0, 16, .inl (fun _ => 0))), (q_9, .inr (3, [.null, .int 0]))] H := hP
  replace hD : va_D A [(h0, .inr (0, fs_4)), (q_1, .inr (1, q_2)), (q_3, .inr (2, [.ref q_4, .int 0])), (q_4, .inl (ca 0, 16, .inl (fun _ => 0))), (q_9, .inr (3, [.null, .int 0]))] := hD
  refine W.widen (k := 8) (n := 52) (Nat.le_of_ble_eq_true rfl) (Nat.le_of_ble_eq_true rfl) ?_
  refine lv_iconst (v := 4) hx hb d_MM_init_54 (by decide) ?_
  refine ax_I (k := 1) (As := [.int 4]) (rest := [.ref q_9, .ref h0]) (wr := [(h0, .inr (0, fs_4)), (q_1, .inr (1, q_2)), (q_3, .inr (2, [.ref q_4, .int 0])), (q_4, .inl (ca 0, 16, .inl (fun _ => 0)))]) rfl hx hb hml hown hts g_wm (mK_bl dC dI ca) (c_MI_init l dC dI ca q_9) rfl xm_34 xm_35 xm_3 xm_36 (by decide +kernel) rfl (Nat.le_of_ble_eq_true rfl) (Nat.le_of_ble_eq_true rfl) hl.1 (Nat.le_of_ble_eq_true rfl) (mK_up hK) hP hD hS hA [4] [0, 1, 2, 3] rfl (by decide) rfl rfl (by decide) (by decide) (Nat.le_of_ble_eq_true rfl) (Nat.le_of_ble_eq_true rfl) d_MM_init_55 ?_
  clear hP hD hS
  intro v q_10 H locs hp hP hD hS
  obtain rfl : v = none := hp
  replace hP : va_P (dC, dI) classes [(h0, .inr (0, fs_4)), (q_1, .inr (1, q_2)), (q_3, .inr (2, [.ref q_4, .int 0])), (q_4, .inl (ca 0, 16, .inl (fun _ => 0))), (q_9, .inr (3, [.ref q_10, .int 0])), (q_10, .inl (ca 1, 4, .inl (fun _ => 0)))] H := hP
  replace hD : va_D A [(h0, .inr (0, fs_4)), (q_1, .inr (1, q_2)), (q_3, .inr (2, [.ref q_4, .int 0])), (q_4, .inl (ca 0, 16, .inl (fun _ => 0))), (q_9, .inr (3, [.ref q_10, .int 0])), (q_10, .inl (ca 1, 4, .inl (fun _ => 0)))] := hD
  refine W.eq (g2 := F0 m 58 ls [.ref q_9, .ref h0]) rfl ?_
  refine W.widen (k := 9) (n := 56) (Nat.le_of_ble_eq_true rfl) (Nat.le_of_ble_eq_true rfl) ?_
  replace hP := hP.sub (ws' := [(h0, .inr (0, fs_4)), (q_1, .inr (1, q_2)), (q_3, .inr (2, [.ref q_4, .int 0])), (q_4, .inl (ca 0, 16, .inl (fun _ => 0)))]) [0, 1, 2, 3] rfl
  replace hD := hD.sub (ws' := [(h0, .inr (0, fs_4)), (q_1, .inr (1, q_2)), (q_3, .inr (2, [.ref q_4, .int 0])), (q_4, .inl (ca 0, 16, .inl (fun _ => 0)))]) [0, 1, 2, 3] (by decide) rfl
  refine m_put M (fs := fs_4) (wt := [(q_1, .inr (1, q_2)), (q_3, .inr (2, [.ref q_4, .int 0])), (q_4, .inl (ca 0, 16, .inl (fun _ => 0)))]) (k := 5) (ty := .object "SourceBackModel$Ints") hP hD hS hlen (by decide) xm_78 rfl rfl (by decide +kernel) rfl rfl d_MM_init_58 ?_
  clear hP hD hS hlen
  intro H locs hlen hP hD hS
  obtain ⟨fs_5, e_5⟩ : ∃ z, z = fs_4.set 5 (.ref q_9) := ⟨_, rfl⟩
  rw [← e_5] at hP hD hlen
  replace hP : va_P (dC, dI) classes [(h0, .inr (0, fs_5)), (q_1, .inr (1, q_2)), (q_3, .inr (2, [.ref q_4, .int 0])), (q_4, .inl (ca 0, 16, .inl (fun _ => 0)))] H := hP
  replace hD : va_D A [(h0, .inr (0, fs_5)), (q_1, .inr (1, q_2)), (q_3, .inr (2, [.ref q_4, .int 0])), (q_4, .inl (ca 0, 16, .inl (fun _ => 0)))] := hD
  refine lv_aload_n hx hb d_MM_init_61 rfl (lv_at hl 0 rfl) ?_
  refine lv_bipush (v := 16) hx hb d_MM_init_62 (by decide +kernel) ?_
  refine m_refs M (fs := fs_5) (wt := [(q_1, .inr (1, q_2)), (q_3, .inr (2, [.ref q_4, .int 0])), (q_4, .inl (ca 0, 16, .inl (fun _ => 0)))]) (n := 16) (N' := 16) (k := 9) (tf := .array (.object "SourceBackModel$Box")) hP hD hS hlen xm_40 (List.mem_of_getElem? (i := 0) rfl) (by decide +kernel) (by decide +kernel) (by decide +kernel) (by decide) xm_82 rfl rfl (by decide +kernel) (fun _ => rfl) (fun _ => rfl) (Nat.le_of_ble_eq_true rfl) (Nat.le_of_ble_eq_true rfl) d_MM_init_64 d_MM_init_67 ?_
  clear hP hD hS hlen
  intro q_11 H locs hlen hP hD hS
  obtain ⟨fs_6, e_6⟩ : ∃ z, z = fs_5.set 9 (.ref q_11) := ⟨_, rfl⟩
  rw [← e_6] at hP hD hlen
  replace hP : va_P (dC, dI) classes [(h0, .inr (0, fs_6)), (q_1, .inr (1, q_2)), (q_3, .inr (2, [.ref q_4, .int 0])), (q_4, .inl (ca 0, 16, .inl (fun _ => 0)))] H := hP
  replace hD : va_D A [(h0, .inr (0, fs_6)), (q_1, .inr (1, q_2)), (q_3, .inr (2, [.ref q_4, .int 0])), (q_4, .inl (ca 0, 16, .inl (fun _ => 0)))] := hD
  refine W.widen (k := 10) (n := 72) (Nat.le_of_ble_eq_true rfl) (Nat.le_of_ble_eq_true rfl) ?_
  refine lv_aload_n hx hb d_MM_init_70 rfl (lv_at hl 0 rfl) ?_
  refine lv_sipush (v := 128) hx hb d_MM_init_71 (by decide +kernel) ?_
  refine m_refs M (fs := fs_6) (wt := [(q_1, .inr (1, q_2)), (q_3, .inr (2, [.ref q_4, .int 0])), (q_4, .inl (ca 0, 16, .inl (fun _ => 0)))]) (n := 128) (N' := 128) (k := 10) (tf := .array (.object "SourceBackModel$Box")) hP hD hS hlen xm_40 (List.mem_of_getElem? (i := 0) rfl) (by decide +kernel) (by decide +kernel) (by decide +kernel) (by decide) xm_83 rfl rfl (by decide +kernel) (fun _ => rfl) (fun _ => rfl) (Nat.le_of_ble_eq_true rfl) (Nat.le_of_ble_eq_true rfl) d_MM_init_74 d_MM_init_77 ?_
  clear hP hD hS hlen
  intro q_12 H locs hlen hP hD hS
  obtain ⟨fs_7, e_7⟩ : ∃ z, z = fs_6.set 10 (.ref q_12) := ⟨_, rfl⟩
  rw [← e_7] at hP hD hlen
  replace hP : va_P (dC, dI) classes [(h0, .inr (0, fs_7)), (q_1, .inr (1, q_2)), (q_3, .inr (2, [.ref q_4, .int 0])), (q_4, .inl (ca 0, 16, .inl (fun _ => 0)))] H := hP
  replace hD : va_D A [(h0, .inr (0, fs_7)), (q_1, .inr (1, q_2)), (q_3, .inr (2, [.ref q_4, .int 0])), (q_4, .inl (ca 0, 16, .inl (fun _ => 0)))] := hD
  refine W.widen (k := 11) (n := 200) (Nat.le_of_ble_eq_true rfl) (Nat.le_of_ble_eq_true rfl) ?_
  subst e_7 e_6 e_5 e_4 e_3 e_2
  exact kk q_3 q_5 q_7 q_9 q_11 q_12 q_4 H locs hlen hP hD hS
set_option maxHeartbeats 4000000 in
set_option maxRecDepth 100000 in
theorem mi_7 {p : Program} {l : Launch} {e : Env} {s : State} {m : MethodId} {args : Array Value} {below : List Frame} {meth : Method} {c : Code} {H : Heap} {locs : List Loc} {Q : State → Prop} {dC : Nat → ClassId} {dI : Nat → Nat → Nat} {ca : Nat → ClassId} {A : Nat → Prop} {ls : Array Slot} {h0 : Nat} {sa : Nat → Nat} (M : mC p s m args meth c dC dI ca A ls h0) (hks : ∀ (i : Nat) (z : Nat × String), strs[i]? = some z → vk_R R_MM z.1 z.2 (sa i) s ∧ va_Any "java/lang/String" s s.heap (sa i) ∧ sa i ≠ h0) (hnA : ∀ (i : Nat) (z : Nat × String), strs[i]? = some z → ¬ A (sa i)) {fs_7 : List Value} {q_1 : Nat} {q_2 : List Value} {q_3 : Nat} {q_4 : Nat} (hP : va_P (dC, dI) classes ((h0, .inr (0, fs_7)) :: [(q_1, .inr (1, q_2)), (q_3, .inr (2, [.ref q_4, .int 0])), (q_4, .inl (ca 0, 16, .inl (fun _ => 0)))]) H) (hD : va_D A ((h0, .inr (0, fs_7)) :: [(q_1, .inr (1, q_2)), (q_3, .inr (2, [.ref q_4, .int 0])), (q_4, .inl (ca 0, 16, .inl (fun _ => 0)))])) (hS : va_S A s.heap H locs) (hlen : fs_7.length = 132)
    (kk : ∀ (q_13 q_14 q_15 q_17 q_19 q_20 q_21 q_22 : Nat) (H : Heap) (locs : List Loc), ((((((((fs_7.set 11 (.ref q_13)).set 12 (.ref q_14)).set 15 (.ref q_15)).set 17 (.ref q_17)).set 18 (.ref q_19)).set 19 (.ref q_20)).set 20 (.ref q_21)).set 21 (.ref q_22)).length = 132 → va_P (dC, dI) classes ((h0, .inr (0, (((((((fs_7.set 11 (.ref q_13)).set 12 (.ref q_14)).set 15 (.ref q_15)).set 17 (.ref q_17)).set 18 (.ref q_19)).set 19 (.ref q_20)).set 20 (.ref q_21)).set 21 (.ref q_22))) :: [(q_1, .inr (1, q_2)), (q_3, .inr (2, [.ref q_4, .int 0])), (q_4, .inl (ca 0, 16, .inl (fun _ => 0))), (q_14, .inl (ca 4, 148, .inr (.inr (.inr (.inr (fun _ => none))))))]) H → va_D A ((h0, .inr (0, (((((((fs_7.set 11 (.ref q_13)).set 12 (.ref q_14)).set 15 (.ref q_15)).set 17 (.ref q_17)).set 18 (.ref q_19)).set 19 (.ref q_20)).set 20 (.ref q_21)).set 21 (.ref q_22))) :: [(q_1, .inr (1, q_2)), (q_3, .inr (2, [.ref q_4, .int 0])), (q_4, .inl (ca 0, 16, .inl (fun _ => 0))), (q_14, .inl (ca 4, 148, .inr (.inr (.inr (.inr (fun _ => none))))))]) → va_S A s.heap H locs → W p l e ({ frames := 7, cells := 166, slots := 640022, locals := 100 }) s m args below meth c H locs 40 488514 Q (F0 m 156 ls [])) :
    W p l e ({ frames := 7, cells := 166, slots := 640022, locals := 100 }) s m args below meth c H locs 11 200 Q (F0 m 80 ls []) := by
  obtain ⟨hx, hb, hml, hown, hts, hin, hK, hA, hl⟩ := id M
  refine lv_aload_n hx hb d_MM_init_80 rfl (lv_at hl 0 rfl) ?_
  refine lv_bipush (v := 16) hx hb d_MM_init_81 (by decide +kernel) ?_
  refine m_arr M (atype := .int) (ty := .int) (fs := fs_7) (wt := [(q_1, .inr (1, q_2)), (q_3, .inr (2, [.ref q_4, .int 0])), (q_4, .inl (ca 0, 16, .inl (fun _ => 0)))]) (t0 := 1) (n := 16) (N' := 16) (k := 11) (tf := .array (.int)) (a0 := (16, .inl (fun _ => 0))) hP hD hS hlen rfl xm_11 rfl (fun C h => by cases h) (m_a_int 16) (by decide +kernel) (by decide +kernel) (by decide +kernel) (by decide) xm_84 rfl rfl (by decide +kernel) (fun _ => rfl) (fun _ => rfl) (Nat.le_of_ble_eq_true rfl) (Nat.le_of_ble_eq_true rfl) d_MM_init_83 d_MM_init_85 ?_
  clear hP hD hS hlen
  intro q_13 H locs hlen hP hD hS
  obtain ⟨fs_8, e_8⟩ : ∃ z, z = fs_7.set 11 (.ref q_13) := ⟨_, rfl⟩
  rw [← e_8] at hP hD hlen
  replace hP : va_P (dC, dI) classes [(h0, .inr (0, fs_8)), (q_1, .inr (1, q_2)), (q_3, .inr (2, [.ref q_4, .int 0])), (q_4, .inl (ca 0, 16, .inl (fun _ => 0)))] H := hP
  replace hD : va_D A [(h0, .inr (0, fs_8)), (q_1, .inr (1, q_2)), (q_3, .inr (2, [.ref q_4, .int 0])), (q_4, .inl (ca 0, 16, .inl (fun _ => 0)))] := hD
  refine W.widen (k := 12) (n := 216) (Nat.le_of_ble_eq_true rfl) (Nat.le_of_ble_eq_true rfl) ?_
  refine lv_aload_n hx hb d_MM_init_88 rfl (lv_at hl 0 rfl) ?_
  refine lv_sipush (v := 148) hx hb d_MM_init_89 (by decide +kernel) ?_
  refine ax_newqK (n := 148) (N' := 148) hx hb hown (hts _ xm_40) (hK.2.2 _ (List.mem_of_getElem? (i := 0) rfl)) hK.1 4 rfl hP hD hS hA (by decide +kernel) (by decide +kernel) (by decide +kernel) (Nat.le_of_ble_eq_true rfl) (Nat.le_of_ble_eq_true rfl) d_MM_init_92 ?_
  clear hP hD hS
  intro q_14 H hP hD hS
  replace hP : va_P (dC, dI) classes [(h0, .inr (0, fs_8)), (q_1, .inr (1, q_2)), (q_3, .inr (2, [.ref q_4, .int 0])), (q_4, .inl (ca 0, 16, .inl (fun _ => 0))), (q_14, .inl (ca 4, 148, .inr (.inr (.inr (.inr (fun _ => none))))))] H := hP
  replace hD : va_D A [(h0, .inr (0, fs_8)), (q_1, .inr (1, q_2)), (q_3, .inr (2, [.ref q_4, .int 0])), (q_4, .inl (ca 0, 16, .inl (fun _ => 0))), (q_14, .inl (ca 4, 148, .inr (.inr (.inr (.inr (fun _ => none))))))] := hD
  refine W.widen (k := 13) (n := 364) (Nat.le_of_ble_eq_true rfl) (Nat.le_of_ble_eq_true rfl) ?_
  refine m_put M (fs := fs_8) (wt := [(q_1, .inr (1, q_2)), (q_3, .inr (2, [.ref q_4, .int 0])), (q_4, .inl (ca 0, 16, .inl (fun _ => 0))), (q_14, .inl (ca 4, 148, .inr (.inr (.inr (.inr (fun _ => none))))))]) (k := 12) (ty := .array (.object "SourceBackModel$Box")) hP hD hS hlen (by decide) xm_85 rfl rfl (by decide +kernel) rfl rfl d_MM_init_95 ?_
  clear hP hD hS hlen
  intro H locs hlen hP hD hS
  obtain ⟨fs_9, e_9⟩ : ∃ z, z = fs_8.set 12 (.ref q_14) := ⟨_, rfl⟩
  rw [← e_9] at hP hD hlen
  replace hP : va_P (dC, dI) classes [(h0, .inr (0, fs_9)), (q_1, .inr (1, q_2)), (q_3, .inr (2, [.ref q_4, .int 0])), (q_4, .inl (ca 0, 16, .inl (fun _ => 0))), (q_14, .inl (ca 4, 148, .inr (.inr (.inr (.inr (fun _ => none))))))] H := hP
  replace hD : va_D A [(h0, .inr (0, fs_9)), (q_1, .inr (1, q_2)), (q_3, .inr (2, [.ref q_4, .int 0])), (q_4, .inl (ca 0, 16, .inl (fun _ => 0))), (q_14, .inl (ca 4, 148, .inr (.inr (.inr (.inr (fun _ => none))))))] := hD
  refine lv_aload_n hx hb d_MM_init_98 rfl (lv_at hl 0 rfl) ?_
  refine m_new M (wt := [(q_1, .inr (1, q_2)), (q_3, .inr (2, [.ref q_4, .int 0])), (q_4, .inl (ca 0, 16, .inl (fun _ => 0))), (q_14, .inl (ca 4, 148, .inr (.inr (.inr (.inr (fun _ => none))))))]) (ci := 3) (C := R_MI) (T := F_MI) (N := 2) (f0 := [.null, .int 0]) hP hD hS i_MI t_MI_ok xm_32 xm_33 xm_3 rfl (by decide +kernel) (Nat.le_of_ble_eq_true rfl) (Nat.le_of_ble_eq_true rfl) d_MM_init_99 d_MM_init_102 ?_
  clear hP hD hS
  intro q_15 H hP hD hS
  replace hP : va_P (dC, dI) classes [(h0, .inr (0, fs_9)), (q_1, .inr (1, q_2)), (q_3, .inr (2, [.ref q_4, .int 0])), (q_4, .inl (ca 0, 16, .inl (fun _ => 0))), (q_14, .inl (ca 4, 148, .inr (.inr (.inr (.inr (fun _ => none)))))), (q_15, .inr (3, [.null, .int 0]))] H := hP
  replace hD : va_D A [(h0, .inr (0, fs_9)), (q_1, .inr (1, q_2)), (q_3, .inr (2, [.ref q_4, .int 0])), (q_4, .inl (ca 0, 16, .inl (fun _ => 0))), (q_14, .inl (ca 4, 148, .inr (.inr (.inr (.inr (fun _ => none)))))), (q_15, .inr (3, [.null, .int 0]))] := hD
  refine W.widen (k := 14) (n := 366) (Nat.le_of_ble_eq_true rfl) (Nat.le_of_ble_eq_true rfl) ?_
  refine lv_iconst (v := 4) hx hb d_MM_init_103 (by decide) ?_
  refine ax_I (k := 1) (As := [.int 4]) (rest := [.ref q_15, .ref h0]) (wr := [(h0, .inr (0, fs_9)), (q_1, .inr (1, q_2)), (q_3, .inr (2, [.ref q_4, .int 0])), (q_4, .inl (ca 0, 16, .inl (fun _ => 0))), (q_14, .inl (ca 4, 148, .inr (.inr (.inr (.inr (fun _ => none))))))]) rfl hx hb hml hown hts g_wm (mK_bl dC dI ca) (c_MI_init l dC dI ca q_15) rfl xm_34 xm_35 xm_3 xm_36 (by decide +kernel) rfl (Nat.le_of_ble_eq_true rfl) (Nat.le_of_ble_eq_true rfl) hl.1 (Nat.le_of_ble_eq_true rfl) (mK_up hK) hP hD hS hA [5] [0, 1, 2, 3, 4] rfl (by decide) rfl rfl (by decide) (by decide) (Nat.le_of_ble_eq_true rfl) (Nat.le_of_ble_eq_true rfl) d_MM_init_104 ?_
  clear hP hD hS
  intro v q_16 H locs hp hP hD hS
  obtain rfl : v = none := hp
  replace hP : va_P (dC, dI) classes [(h0, .inr (0, fs_9)), (q_1, .inr (1, q_2)), (q_3, .inr (2, [.ref q_4, .int 0])), (q_4, .inl (ca 0, 16, .inl (fun _ => 0))), (q_14, .inl (ca 4, 148, .inr (.inr (.inr (.inr (fun _ => none)))))), (q_15, .inr (3, [.ref q_16, .int 0])), (q_16, .inl (ca 1, 4, .inl (fun _ => 0)))] H := hP
  replace hD : va_D A [(h0, .inr (0, fs_9)), (q_1, .inr (1, q_2)), (q_3, .inr (2, [.ref q_4, .int 0])), (q_4, .inl (ca 0, 16, .inl (fun _ => 0))), (q_14, .inl (ca 4, 148, .inr (.inr (.inr (.inr (fun _ => none)))))), (q_15, .inr (3, [.ref q_16, .int 0])), (q_16, .inl (ca 1, 4, .inl (fun _ => 0)))] := hD
  refine W.eq (g2 := F0 m 107 ls [.ref q_15, .ref h0]) rfl ?_
  refine W.widen (k := 15) (n := 370) (Nat.le_of_ble_eq_true rfl) (Nat.le_of_ble_eq_true rfl) ?_
  replace hP := hP.sub (ws' := [(h0, .inr (0, fs_9)), (q_1, .inr (1, q_2)), (q_3, .inr (2, [.ref q_4, .int 0])), (q_4, .inl (ca 0, 16, .inl (fun _ => 0))), (q_14, .inl (ca 4, 148, .inr (.inr (.inr (.inr (fun _ => none))))))]) [0, 1, 2, 3, 4] rfl
  replace hD := hD.sub (ws' := [(h0, .inr (0, fs_9)), (q_1, .inr (1, q_2)), (q_3, .inr (2, [.ref q_4, .int 0])), (q_4, .inl (ca 0, 16, .inl (fun _ => 0))), (q_14, .inl (ca 4, 148, .inr (.inr (.inr (.inr (fun _ => none))))))]) [0, 1, 2, 3, 4] (by decide) rfl
  refine m_put M (fs := fs_9) (wt := [(q_1, .inr (1, q_2)), (q_3, .inr (2, [.ref q_4, .int 0])), (q_4, .inl (ca 0, 16, .inl (fun _ => 0))), (q_14, .inl (ca 4, 148, .inr (.inr (.inr (.inr (fun _ => none))))))]) (k := 15) (ty := .object "SourceBackModel$Ints") hP hD hS hlen (by decide) xm_88 rfl rfl (by decide +kernel) rfl rfl d_MM_init_107 ?_
  clear hP hD hS hlen
  intro H locs hlen hP hD hS
  obtain ⟨fs_10, e_10⟩ : ∃ z, z = fs_9.set 15 (.ref q_15) := ⟨_, rfl⟩
  rw [← e_10] at hP hD hlen
  replace hP : va_P (dC, dI) classes [(h0, .inr (0, fs_10)), (q_1, .inr (1, q_2)), (q_3, .inr (2, [.ref q_4, .int 0])), (q_4, .inl (ca 0, 16, .inl (fun _ => 0))), (q_14, .inl (ca 4, 148, .inr (.inr (.inr (.inr (fun _ => none))))))] H := hP
  replace hD : va_D A [(h0, .inr (0, fs_10)), (q_1, .inr (1, q_2)), (q_3, .inr (2, [.ref q_4, .int 0])), (q_4, .inl (ca 0, 16, .inl (fun _ => 0))), (q_14, .inl (ca 4, 148, .inr (.inr (.inr (.inr (fun _ => none))))))] := hD
  refine lv_aload_n hx hb d_MM_init_110 rfl (lv_at hl 0 rfl) ?_
  refine m_new M (wt := [(q_1, .inr (1, q_2)), (q_3, .inr (2, [.ref q_4, .int 0])), (q_4, .inl (ca 0, 16, .inl (fun _ => 0))), (q_14, .inl (ca 4, 148, .inr (.inr (.inr (.inr (fun _ => none))))))]) (ci := 5) (C := R_MR) (T := F_MR) (N := 24) (f0 := [.int 0, .int 0, .int 0, .int 0, .int 0, .int 0, .int 0, .null, .null, .null, .null, .null, .null, .null, .null, .null, .null, .null, .int 0, .int 0, .int 0, .int 0, .null, .int 0]) hP hD hS i_MR t_MR_ok xm_41 xm_42 xm_4 rfl (by decide +kernel) (Nat.le_of_ble_eq_true rfl) (Nat.le_of_ble_eq_true rfl) d_MM_init_111 d_MM_init_114 ?_
  clear hP hD hS
  intro q_17 H hP hD hS
  replace hP : va_P (dC, dI) classes [(h0, .inr (0, fs_10)), (q_1, .inr (1, q_2)), (q_3, .inr (2, [.ref q_4, .int 0])), (q_4, .inl (ca 0, 16, .inl (fun _ => 0))), (q_14, .inl (ca 4, 148, .inr (.inr (.inr (.inr (fun _ => none)))))), (q_17, .inr (5, [.int 0, .int 0, .int 0, .int 0, .int 0, .int 0, .int 0, .null, .null, .null, .null, .null, .null, .null, .null, .null, .null, .null, .int 0, .int 0, .int 0, .int 0, .null, .int 0]))] H := hP
  replace hD : va_D A [(h0, .inr (0, fs_10)), (q_1, .inr (1, q_2)), (q_3, .inr (2, [.ref q_4, .int 0])), (q_4, .inl (ca 0, 16, .inl (fun _ => 0))), (q_14, .inl (ca 4, 148, .inr (.inr (.inr (.inr (fun _ => none)))))), (q_17, .inr (5, [.int 0, .int 0, .int 0, .int 0, .int 0, .int 0, .int 0, .null, .null, .null, .null, .null, .null, .null, .null, .null, .null, .null, .int 0, .int 0, .int 0, .int 0, .null, .int 0]))] := hD
  refine W.widen (k := 16) (n := 394) (Nat.le_of_ble_eq_true rfl) (Nat.le_of_ble_eq_true rfl) ?_
  refine lv_iconst (v := 4) hx hb d_MM_init_115 (by decide) ?_
  refine lv_iconst (v := 4) hx hb d_MM_init_116 (by decide) ?_
  refine ax_I (k := 2) (As := [.int 4, .int 4]) (rest := [.ref q_17, .ref h0]) (wr := [(h0, .inr (0, fs_10)), (q_1, .inr (1, q_2)), (q_3, .inr (2, [.ref q_4, .int 0])), (q_4, .inl (ca 0, 16, .inl (fun _ => 0))), (q_14, .inl (ca 4, 148, .inr (.inr (.inr (.inr (fun _ => none))))))]) rfl hx hb hml hown hts g_wm (mK_bl dC dI ca) (c_MR_init l dC dI ca q_17) rfl xm_43 xm_44 xm_4 xm_45 (by decide +kernel) rfl (Nat.le_of_ble_eq_true rfl) (Nat.le_of_ble_eq_true rfl) hl.1 (Nat.le_of_ble_eq_true rfl) (mK_up hK) hP hD hS hA [5] [0, 1, 2, 3, 4] rfl (by decide) rfl rfl (by decide) (by decide) (Nat.le_of_ble_eq_true rfl) (Nat.le_of_ble_eq_true rfl) d_MM_init_117 ?_
  clear hP hD hS
  intro v q_18 H locs hp hP hD hS
  obtain rfl : v = none := hp
  replace hP : va_P (dC, dI) classes [(h0, .inr (0, fs_10)), (q_1, .inr (1, q_2)), (q_3, .inr (2, [.ref q_4, .int 0])), (q_4, .inl (ca 0, 16, .inl (fun _ => 0))), (q_14, .inl (ca 4, 148, .inr (.inr (.inr (.inr (fun _ => none)))))), (q_17, .inr (5, q_18))] H := hP
  replace hD : va_D A [(h0, .inr (0, fs_10)), (q_1, .inr (1, q_2)), (q_3, .inr (2, [.ref q_4, .int 0])), (q_4, .inl (ca 0, 16, .inl (fun _ => 0))), (q_14, .inl (ca 4, 148, .inr (.inr (.inr (.inr (fun _ => none)))))), (q_17, .inr (5, q_18))] := hD
  refine W.eq (g2 := F0 m 120 ls [.ref q_17, .ref h0]) rfl ?_
  refine W.widen (k := 36) (n := 454) (Nat.le_of_ble_eq_true rfl) (Nat.le_of_ble_eq_true rfl) ?_
  replace hP := hP.sub (ws' := [(h0, .inr (0, fs_10)), (q_1, .inr (1, q_2)), (q_3, .inr (2, [.ref q_4, .int 0])), (q_4, .inl (ca 0, 16, .inl (fun _ => 0))), (q_14, .inl (ca 4, 148, .inr (.inr (.inr (.inr (fun _ => none))))))]) [0, 1, 2, 3, 4] rfl
  replace hD := hD.sub (ws' := [(h0, .inr (0, fs_10)), (q_1, .inr (1, q_2)), (q_3, .inr (2, [.ref q_4, .int 0])), (q_4, .inl (ca 0, 16, .inl (fun _ => 0))), (q_14, .inl (ca 4, 148, .inr (.inr (.inr (.inr (fun _ => none))))))]) [0, 1, 2, 3, 4] (by decide) rfl
  refine m_put M (fs := fs_10) (wt := [(q_1, .inr (1, q_2)), (q_3, .inr (2, [.ref q_4, .int 0])), (q_4, .inl (ca 0, 16, .inl (fun _ => 0))), (q_14, .inl (ca 4, 148, .inr (.inr (.inr (.inr (fun _ => none))))))]) (k := 17) (ty := .object "SourceBackModel$Member") hP hD hS hlen (by decide) xm_90 rfl rfl (by decide +kernel) rfl rfl d_MM_init_120 ?_
  clear hP hD hS hlen
  intro H locs hlen hP hD hS
  obtain ⟨fs_11, e_11⟩ : ∃ z, z = fs_10.set 17 (.ref q_17) := ⟨_, rfl⟩
  rw [← e_11] at hP hD hlen
  replace hP : va_P (dC, dI) classes [(h0, .inr (0, fs_11)), (q_1, .inr (1, q_2)), (q_3, .inr (2, [.ref q_4, .int 0])), (q_4, .inl (ca 0, 16, .inl (fun _ => 0))), (q_14, .inl (ca 4, 148, .inr (.inr (.inr (.inr (fun _ => none))))))] H := hP
  replace hD : va_D A [(h0, .inr (0, fs_11)), (q_1, .inr (1, q_2)), (q_3, .inr (2, [.ref q_4, .int 0])), (q_4, .inl (ca 0, 16, .inl (fun _ => 0))), (q_14, .inl (ca 4, 148, .inr (.inr (.inr (.inr (fun _ => none))))))] := hD
  refine lv_aload_n hx hb d_MM_init_123 rfl (lv_at hl 0 rfl) ?_
  refine lv_ldc (v := 240000) hx hb hown (hts _ xm_67) d_MM_init_124 ?_
  refine m_arr M (atype := .byte) (ty := .byte) (fs := fs_11) (wt := [(q_1, .inr (1, q_2)), (q_3, .inr (2, [.ref q_4, .int 0])), (q_4, .inl (ca 0, 16, .inl (fun _ => 0))), (q_14, .inl (ca 4, 148, .inr (.inr (.inr (.inr (fun _ => none))))))]) (t0 := 0) (n := 240000) (N' := 240000) (k := 18) (tf := .array (.byte)) (a0 := (240000, .inl (fun _ => 0))) hP hD hS hlen rfl xm_10 rfl (fun C h => by cases h) (m_a_byte 240000) (by decide +kernel) (by decide +kernel) (by decide +kernel) (by decide) xm_91 rfl rfl (by decide +kernel) (fun _ => rfl) (fun _ => rfl) (Nat.le_of_ble_eq_true rfl) (Nat.le_of_ble_eq_true rfl) d_MM_init_126 d_MM_init_128 ?_
  clear hP hD hS hlen
  intro q_19 H locs hlen hP hD hS
  obtain ⟨fs_12, e_12⟩ : ∃ z, z = fs_11.set 18 (.ref q_19) := ⟨_, rfl⟩
  rw [← e_12] at hP hD hlen
  replace hP : va_P (dC, dI) classes [(h0, .inr (0, fs_12)), (q_1, .inr (1, q_2)), (q_3, .inr (2, [.ref q_4, .int 0])), (q_4, .inl (ca 0, 16, .inl (fun _ => 0))), (q_14, .inl (ca 4, 148, .inr (.inr (.inr (.inr (fun _ => none))))))] H := hP
  replace hD : va_D A [(h0, .inr (0, fs_12)), (q_1, .inr (1, q_2)), (q_3, .inr (2, [.ref q_4, .int 0])), (q_4, .inl (ca 0, 16, .inl (fun _ => 0))), (q_14, .inl (ca 4, 148, .inr (.inr (.inr (.inr (fun _ => none))))))] := hD
  refine W.widen (k := 37) (n := 240454) (Nat.le_of_ble_eq_true rfl) (Nat.le_of_ble_eq_true rfl) ?_
  refine lv_aload_n hx hb d_MM_init_131 rfl (lv_at hl 0 rfl) ?_
  refine lv_ldc (v := 244000) hx hb hown (hts _ xm_68) d_MM_init_132 ?_
  refine m_arr M (atype := .byte) (ty := .byte) (fs := fs_12) (wt := [(q_1, .inr (1, q_2)), (q_3, .inr (2, [.ref q_4, .int 0])), (q_4, .inl (ca 0, 16, .inl (fun _ => 0))), (q_14, .inl (ca 4, 148, .inr (.inr (.inr (.inr (fun _ => none))))))]) (t0 := 0) (n := 244000) (N' := 244000) (k := 19) (tf := .array (.byte)) (a0 := (244000, .inl (fun _ => 0))) hP hD hS hlen rfl xm_10 rfl (fun C h => by cases h) (m_a_byte 244000) (by decide +kernel) (by decide +kernel) (by decide +kernel) (by decide) xm_92 rfl rfl (by decide +kernel) (fun _ => rfl) (fun _ => rfl) (Nat.le_of_ble_eq_true rfl) (Nat.le_of_ble_eq_true rfl) d_MM_init_134 d_MM_init_136 ?_
  clear hP hD hS hlen
  intro q_20 H locs hlen hP hD hS
  obtain ⟨fs_13, e_13⟩ : ∃ z, z = fs_12.set 19 (.ref q_20) := ⟨_, rfl⟩
  rw [← e_13] at hP hD hlen
  replace hP : va_P (dC, dI) classes [(h0, .inr (0, fs_13)), (q_1, .inr (1, q_2)), (q_3, .inr (2, [.ref q_4, .int 0])), (q_4, .inl (ca 0, 16, .inl (fun _ => 0))), (q_14, .inl (ca 4, 148, .inr (.inr (.inr (.inr (fun _ => none))))))] H := hP
  replace hD : va_D A [(h0, .inr (0, fs_13)), (q_1, .inr (1, q_2)), (q_3, .inr (2, [.ref q_4, .int 0])), (q_4, .inl (ca 0, 16, .inl (fun _ => 0))), (q_14, .inl (ca 4, 148, .inr (.inr (.inr (.inr (fun _ => none))))))] := hD
  refine W.widen (k := 38) (n := 484454) (Nat.le_of_ble_eq_true rfl) (Nat.le_of_ble_eq_true rfl) ?_
  refine lv_aload_n hx hb d_MM_init_139 rfl (lv_at hl 0 rfl) ?_
  refine lv_sipush (v := 4000) hx hb d_MM_init_140 (by decide +kernel) ?_
  refine m_arr M (atype := .int) (ty := .int) (fs := fs_13) (wt := [(q_1, .inr (1, q_2)), (q_3, .inr (2, [.ref q_4, .int 0])), (q_4, .inl (ca 0, 16, .inl (fun _ => 0))), (q_14, .inl (ca 4, 148, .inr (.inr (.inr (.inr (fun _ => none))))))]) (t0 := 1) (n := 4000) (N' := 4000) (k := 20) (tf := .array (.int)) (a0 := (4000, .inl (fun _ => 0))) hP hD hS hlen rfl xm_11 rfl (fun C h => by cases h) (m_a_int 4000) (by decide +kernel) (by decide +kernel) (by decide +kernel) (by decide) xm_93 rfl rfl (by decide +kernel) (fun _ => rfl) (fun _ => rfl) (Nat.le_of_ble_eq_true rfl) (Nat.le_of_ble_eq_true rfl) d_MM_init_143 d_MM_init_145 ?_
  clear hP hD hS hlen
  intro q_21 H locs hlen hP hD hS
  obtain ⟨fs_14, e_14⟩ : ∃ z, z = fs_13.set 20 (.ref q_21) := ⟨_, rfl⟩
  rw [← e_14] at hP hD hlen
  replace hP : va_P (dC, dI) classes [(h0, .inr (0, fs_14)), (q_1, .inr (1, q_2)), (q_3, .inr (2, [.ref q_4, .int 0])), (q_4, .inl (ca 0, 16, .inl (fun _ => 0))), (q_14, .inl (ca 4, 148, .inr (.inr (.inr (.inr (fun _ => none))))))] H := hP
  replace hD : va_D A [(h0, .inr (0, fs_14)), (q_1, .inr (1, q_2)), (q_3, .inr (2, [.ref q_4, .int 0])), (q_4, .inl (ca 0, 16, .inl (fun _ => 0))), (q_14, .inl (ca 4, 148, .inr (.inr (.inr (.inr (fun _ => none))))))] := hD
  refine W.widen (k := 39) (n := 488454) (Nat.le_of_ble_eq_true rfl) (Nat.le_of_ble_eq_true rfl) ?_
  refine lv_aload_n hx hb d_MM_init_148 rfl (lv_at hl 0 rfl) ?_
  refine lv_bipush (v := 60) hx hb d_MM_init_149 (by decide +kernel) ?_
  refine m_arr M (atype := .byte) (ty := .byte) (fs := fs_14) (wt := [(q_1, .inr (1, q_2)), (q_3, .inr (2, [.ref q_4, .int 0])), (q_4, .inl (ca 0, 16, .inl (fun _ => 0))), (q_14, .inl (ca 4, 148, .inr (.inr (.inr (.inr (fun _ => none))))))]) (t0 := 0) (n := 60) (N' := 60) (k := 21) (tf := .array (.byte)) (a0 := (60, .inl (fun _ => 0))) hP hD hS hlen rfl xm_10 rfl (fun C h => by cases h) (m_a_byte 60) (by decide +kernel) (by decide +kernel) (by decide +kernel) (by decide) xm_94 rfl rfl (by decide +kernel) (fun _ => rfl) (fun _ => rfl) (Nat.le_of_ble_eq_true rfl) (Nat.le_of_ble_eq_true rfl) d_MM_init_151 d_MM_init_153 ?_
  clear hP hD hS hlen
  intro q_22 H locs hlen hP hD hS
  obtain ⟨fs_15, e_15⟩ : ∃ z, z = fs_14.set 21 (.ref q_22) := ⟨_, rfl⟩
  rw [← e_15] at hP hD hlen
  replace hP : va_P (dC, dI) classes [(h0, .inr (0, fs_15)), (q_1, .inr (1, q_2)), (q_3, .inr (2, [.ref q_4, .int 0])), (q_4, .inl (ca 0, 16, .inl (fun _ => 0))), (q_14, .inl (ca 4, 148, .inr (.inr (.inr (.inr (fun _ => none))))))] H := hP
  replace hD : va_D A [(h0, .inr (0, fs_15)), (q_1, .inr (1, q_2)), (q_3, .inr (2, [.ref q_4, .int 0])), (q_4, .inl (ca 0, 16, .inl (fun _ => 0))), (q_14, .inl (ca 4, 148, .inr (.inr (.inr (.inr (fun _ => none))))))] := hD
  refine W.widen (k := 40) (n := 488514) (Nat.le_of_ble_eq_true rfl) (Nat.le_of_ble_eq_true rfl) ?_
  subst e_15 e_14 e_13 e_12 e_11 e_10 e_9 e_8
  exact kk q_13 q_14 q_15 q_17 q_19 q_20 q_21 q_22 H locs hlen hP hD hS
set_option maxHeartbeats 4000000 in
set_option maxRecDepth 100000 in
theorem mi_15 {p : Program} {l : Launch} {e : Env} {s : State} {m : MethodId} {args : Array Value} {below : List Frame} {meth : Method} {c : Code} {H : Heap} {locs : List Loc} {Q : State → Prop} {dC : Nat → ClassId} {dI : Nat → Nat → Nat} {ca : Nat → ClassId} {A : Nat → Prop} {ls : Array Slot} {h0 : Nat} {sa : Nat → Nat} (M : mC p s m args meth c dC dI ca A ls h0) (hks : ∀ (i : Nat) (z : Nat × String), strs[i]? = some z → vk_R R_MM z.1 z.2 (sa i) s ∧ va_Any "java/lang/String" s s.heap (sa i) ∧ sa i ≠ h0) (hnA : ∀ (i : Nat) (z : Nat × String), strs[i]? = some z → ¬ A (sa i)) {fs_15 : List Value} {q_1 : Nat} {q_2 : List Value} {q_3 : Nat} {q_4 : Nat} {q_14 : Nat} (hP : va_P (dC, dI) classes ((h0, .inr (0, fs_15)) :: [(q_1, .inr (1, q_2)), (q_3, .inr (2, [.ref q_4, .int 0])), (q_4, .inl (ca 0, 16, .inl (fun _ => 0))), (q_14, .inl (ca 4, 148, .inr (.inr (.inr (.inr (fun _ => none))))))]) H) (hD : va_D A ((h0, .inr (0, fs_15)) :: [(q_1, .inr (1, q_2)), (q_3, .inr (2, [.ref q_4, .int 0])), (q_4, .inl (ca 0, 16, .inl (fun _ => 0))), (q_14, .inl (ca 4, 148, .inr (.inr (.inr (.inr (fun _ => none))))))])) (hS : va_S A s.heap H locs) (hlen : fs_15.length = 132)
    (kk : ∀ (q_23 q_24 q_25 q_26 q_27 q_28 q_29 q_30 q_31 q_32 : Nat) (H : Heap) (locs : List Loc), ((((((((((fs_15.set 22 (.ref q_23)).set 27 (.ref q_24)).set 28 (.ref q_25)).set 29 (.ref q_26)).set 30 (.ref q_27)).set 31 (.ref q_28)).set 32 (.ref q_29)).set 33 (.ref q_30)).set 35 (.ref q_31)).set 36 (.ref q_32)).length = 132 → va_P (dC, dI) classes ((h0, .inr (0, (((((((((fs_15.set 22 (.ref q_23)).set 27 (.ref q_24)).set 28 (.ref q_25)).set 29 (.ref q_26)).set 30 (.ref q_27)).set 31 (.ref q_28)).set 32 (.ref q_29)).set 33 (.ref q_30)).set 35 (.ref q_31)).set 36 (.ref q_32))) :: [(q_1, .inr (1, q_2)), (q_3, .inr (2, [.ref q_4, .int 0])), (q_4, .inl (ca 0, 16, .inl (fun _ => 0))), (q_14, .inl (ca 4, 148, .inr (.inr (.inr (.inr (fun _ => none))))))]) H → va_D A ((h0, .inr (0, (((((((((fs_15.set 22 (.ref q_23)).set 27 (.ref q_24)).set 28 (.ref q_25)).set 29 (.ref q_26)).set 30 (.ref q_27)).set 31 (.ref q_28)).set 32 (.ref q_29)).set 33 (.ref q_30)).set 35 (.ref q_31)).set 36 (.ref q_32))) :: [(q_1, .inr (1, q_2)), (q_3, .inr (2, [.ref q_4, .int 0])), (q_4, .inl (ca 0, 16, .inl (fun _ => 0))), (q_14, .inl (ca 4, 148, .inr (.inr (.inr (.inr (fun _ => none))))))]) → va_S A s.heap H locs → W p l e ({ frames := 7, cells := 166, slots := 640022, locals := 100 }) s m args below meth c H locs 51 520602 Q (F0 m 248 ls [])) :
    W p l e ({ frames := 7, cells := 166, slots := 640022, locals := 100 }) s m args below meth c H locs 40 488514 Q (F0 m 156 ls []) := by
  obtain ⟨hx, hb, hml, hown, hts, hin, hK, hA, hl⟩ := id M
  refine lv_aload_n hx hb d_MM_init_156 rfl (lv_at hl 0 rfl) ?_
  refine lv_bipush (v := 80) hx hb d_MM_init_157 (by decide +kernel) ?_
  refine m_arr M (atype := .byte) (ty := .byte) (fs := fs_15) (wt := [(q_1, .inr (1, q_2)), (q_3, .inr (2, [.ref q_4, .int 0])), (q_4, .inl (ca 0, 16, .inl (fun _ => 0))), (q_14, .inl (ca 4, 148, .inr (.inr (.inr (.inr (fun _ => none))))))]) (t0 := 0) (n := 80) (N' := 80) (k := 22) (tf := .array (.byte)) (a0 := (80, .inl (fun _ => 0))) hP hD hS hlen rfl xm_10 rfl (fun C h => by cases h) (m_a_byte 80) (by decide +kernel) (by decide +kernel) (by decide +kernel) (by decide) xm_95 rfl rfl (by decide +kernel) (fun _ => rfl) (fun _ => rfl) (Nat.le_of_ble_eq_true rfl) (Nat.le_of_ble_eq_true rfl) d_MM_init_159 d_MM_init_161 ?_
  clear hP hD hS hlen
  intro q_23 H locs hlen hP hD hS
  obtain ⟨fs_16, e_16⟩ : ∃ z, z = fs_15.set 22 (.ref q_23) := ⟨_, rfl⟩
  rw [← e_16] at hP hD hlen
  replace hP : va_P (dC, dI) classes [(h0, .inr (0, fs_16)), (q_1, .inr (1, q_2)), (q_3, .inr (2, [.ref q_4, .int 0])), (q_4, .inl (ca 0, 16, .inl (fun _ => 0))), (q_14, .inl (ca 4, 148, .inr (.inr (.inr (.inr (fun _ => none))))))] H := hP
  replace hD : va_D A [(h0, .inr (0, fs_16)), (q_1, .inr (1, q_2)), (q_3, .inr (2, [.ref q_4, .int 0])), (q_4, .inl (ca 0, 16, .inl (fun _ => 0))), (q_14, .inl (ca 4, 148, .inr (.inr (.inr (.inr (fun _ => none))))))] := hD
  refine W.widen (k := 41) (n := 488594) (Nat.le_of_ble_eq_true rfl) (Nat.le_of_ble_eq_true rfl) ?_
  refine lv_aload_n hx hb d_MM_init_164 rfl (lv_at hl 0 rfl) ?_
  refine lv_sipush (v := 4001) hx hb d_MM_init_165 (by decide +kernel) ?_
  refine m_arr M (atype := .boolean) (ty := .boolean) (fs := fs_16) (wt := [(q_1, .inr (1, q_2)), (q_3, .inr (2, [.ref q_4, .int 0])), (q_4, .inl (ca 0, 16, .inl (fun _ => 0))), (q_14, .inl (ca 4, 148, .inr (.inr (.inr (.inr (fun _ => none))))))]) (t0 := 3) (n := 4001) (N' := 4001) (k := 27) (tf := .array (.boolean)) (a0 := (4001, .inl (fun _ => 0))) hP hD hS hlen rfl xm_174 rfl (fun C h => by cases h) (m_a_boolean 4001) (by decide +kernel) (by decide +kernel) (by decide +kernel) (by decide) xm_97 rfl rfl (by decide +kernel) (fun _ => rfl) (fun _ => rfl) (Nat.le_of_ble_eq_true rfl) (Nat.le_of_ble_eq_true rfl) d_MM_init_168 d_MM_init_170 ?_
  clear hP hD hS hlen
  intro q_24 H locs hlen hP hD hS
  obtain ⟨fs_17, e_17⟩ : ∃ z, z = fs_16.set 27 (.ref q_24) := ⟨_, rfl⟩
  rw [← e_17] at hP hD hlen
  replace hP : va_P (dC, dI) classes [(h0, .inr (0, fs_17)), (q_1, .inr (1, q_2)), (q_3, .inr (2, [.ref q_4, .int 0])), (q_4, .inl (ca 0, 16, .inl (fun _ => 0))), (q_14, .inl (ca 4, 148, .inr (.inr (.inr (.inr (fun _ => none))))))] H := hP
  replace hD : va_D A [(h0, .inr (0, fs_17)), (q_1, .inr (1, q_2)), (q_3, .inr (2, [.ref q_4, .int 0])), (q_4, .inl (ca 0, 16, .inl (fun _ => 0))), (q_14, .inl (ca 4, 148, .inr (.inr (.inr (.inr (fun _ => none))))))] := hD
  refine W.widen (k := 42) (n := 492595) (Nat.le_of_ble_eq_true rfl) (Nat.le_of_ble_eq_true rfl) ?_
  refine lv_aload_n hx hb d_MM_init_173 rfl (lv_at hl 0 rfl) ?_
  refine lv_sipush (v := 4000) hx hb d_MM_init_174 (by decide +kernel) ?_
  refine m_arr M (atype := .int) (ty := .int) (fs := fs_17) (wt := [(q_1, .inr (1, q_2)), (q_3, .inr (2, [.ref q_4, .int 0])), (q_4, .inl (ca 0, 16, .inl (fun _ => 0))), (q_14, .inl (ca 4, 148, .inr (.inr (.inr (.inr (fun _ => none))))))]) (t0 := 1) (n := 4000) (N' := 4000) (k := 28) (tf := .array (.int)) (a0 := (4000, .inl (fun _ => 0))) hP hD hS hlen rfl xm_11 rfl (fun C h => by cases h) (m_a_int 4000) (by decide +kernel) (by decide +kernel) (by decide +kernel) (by decide) xm_98 rfl rfl (by decide +kernel) (fun _ => rfl) (fun _ => rfl) (Nat.le_of_ble_eq_true rfl) (Nat.le_of_ble_eq_true rfl) d_MM_init_177 d_MM_init_179 ?_
  clear hP hD hS hlen
  intro q_25 H locs hlen hP hD hS
  obtain ⟨fs_18, e_18⟩ : ∃ z, z = fs_17.set 28 (.ref q_25) := ⟨_, rfl⟩
  rw [← e_18] at hP hD hlen
  replace hP : va_P (dC, dI) classes [(h0, .inr (0, fs_18)), (q_1, .inr (1, q_2)), (q_3, .inr (2, [.ref q_4, .int 0])), (q_4, .inl (ca 0, 16, .inl (fun _ => 0))), (q_14, .inl (ca 4, 148, .inr (.inr (.inr (.inr (fun _ => none))))))] H := hP
  replace hD : va_D A [(h0, .inr (0, fs_18)), (q_1, .inr (1, q_2)), (q_3, .inr (2, [.ref q_4, .int 0])), (q_4, .inl (ca 0, 16, .inl (fun _ => 0))), (q_14, .inl (ca 4, 148, .inr (.inr (.inr (.inr (fun _ => none))))))] := hD
  refine W.widen (k := 43) (n := 496595) (Nat.le_of_ble_eq_true rfl) (Nat.le_of_ble_eq_true rfl) ?_
  refine lv_aload_n hx hb d_MM_init_182 rfl (lv_at hl 0 rfl) ?_
  refine lv_sipush (v := 4000) hx hb d_MM_init_183 (by decide +kernel) ?_
  refine m_arr M (atype := .int) (ty := .int) (fs := fs_18) (wt := [(q_1, .inr (1, q_2)), (q_3, .inr (2, [.ref q_4, .int 0])), (q_4, .inl (ca 0, 16, .inl (fun _ => 0))), (q_14, .inl (ca 4, 148, .inr (.inr (.inr (.inr (fun _ => none))))))]) (t0 := 1) (n := 4000) (N' := 4000) (k := 29) (tf := .array (.int)) (a0 := (4000, .inl (fun _ => 0))) hP hD hS hlen rfl xm_11 rfl (fun C h => by cases h) (m_a_int 4000) (by decide +kernel) (by decide +kernel) (by decide +kernel) (by decide) xm_99 rfl rfl (by decide +kernel) (fun _ => rfl) (fun _ => rfl) (Nat.le_of_ble_eq_true rfl) (Nat.le_of_ble_eq_true rfl) d_MM_init_186 d_MM_init_188 ?_
  clear hP hD hS hlen
  intro q_26 H locs hlen hP hD hS
  obtain ⟨fs_19, e_19⟩ : ∃ z, z = fs_18.set 29 (.ref q_26) := ⟨_, rfl⟩
  rw [← e_19] at hP hD hlen
  replace hP : va_P (dC, dI) classes [(h0, .inr (0, fs_19)), (q_1, .inr (1, q_2)), (q_3, .inr (2, [.ref q_4, .int 0])), (q_4, .inl (ca 0, 16, .inl (fun _ => 0))), (q_14, .inl (ca 4, 148, .inr (.inr (.inr (.inr (fun _ => none))))))] H := hP
  replace hD : va_D A [(h0, .inr (0, fs_19)), (q_1, .inr (1, q_2)), (q_3, .inr (2, [.ref q_4, .int 0])), (q_4, .inl (ca 0, 16, .inl (fun _ => 0))), (q_14, .inl (ca 4, 148, .inr (.inr (.inr (.inr (fun _ => none))))))] := hD
  refine W.widen (k := 44) (n := 500595) (Nat.le_of_ble_eq_true rfl) (Nat.le_of_ble_eq_true rfl) ?_
  refine lv_aload_n hx hb d_MM_init_191 rfl (lv_at hl 0 rfl) ?_
  refine lv_sipush (v := 4000) hx hb d_MM_init_192 (by decide +kernel) ?_
  refine m_arr M (atype := .int) (ty := .int) (fs := fs_19) (wt := [(q_1, .inr (1, q_2)), (q_3, .inr (2, [.ref q_4, .int 0])), (q_4, .inl (ca 0, 16, .inl (fun _ => 0))), (q_14, .inl (ca 4, 148, .inr (.inr (.inr (.inr (fun _ => none))))))]) (t0 := 1) (n := 4000) (N' := 4000) (k := 30) (tf := .array (.int)) (a0 := (4000, .inl (fun _ => 0))) hP hD hS hlen rfl xm_11 rfl (fun C h => by cases h) (m_a_int 4000) (by decide +kernel) (by decide +kernel) (by decide +kernel) (by decide) xm_100 rfl rfl (by decide +kernel) (fun _ => rfl) (fun _ => rfl) (Nat.le_of_ble_eq_true rfl) (Nat.le_of_ble_eq_true rfl) d_MM_init_195 d_MM_init_197 ?_
  clear hP hD hS hlen
  intro q_27 H locs hlen hP hD hS
  obtain ⟨fs_20, e_20⟩ : ∃ z, z = fs_19.set 30 (.ref q_27) := ⟨_, rfl⟩
  rw [← e_20] at hP hD hlen
  replace hP : va_P (dC, dI) classes [(h0, .inr (0, fs_20)), (q_1, .inr (1, q_2)), (q_3, .inr (2, [.ref q_4, .int 0])), (q_4, .inl (ca 0, 16, .inl (fun _ => 0))), (q_14, .inl (ca 4, 148, .inr (.inr (.inr (.inr (fun _ => none))))))] H := hP
  replace hD : va_D A [(h0, .inr (0, fs_20)), (q_1, .inr (1, q_2)), (q_3, .inr (2, [.ref q_4, .int 0])), (q_4, .inl (ca 0, 16, .inl (fun _ => 0))), (q_14, .inl (ca 4, 148, .inr (.inr (.inr (.inr (fun _ => none))))))] := hD
  refine W.widen (k := 45) (n := 504595) (Nat.le_of_ble_eq_true rfl) (Nat.le_of_ble_eq_true rfl) ?_
  refine lv_aload_n hx hb d_MM_init_200 rfl (lv_at hl 0 rfl) ?_
  refine lv_sipush (v := 4000) hx hb d_MM_init_201 (by decide +kernel) ?_
  refine m_arr M (atype := .int) (ty := .int) (fs := fs_20) (wt := [(q_1, .inr (1, q_2)), (q_3, .inr (2, [.ref q_4, .int 0])), (q_4, .inl (ca 0, 16, .inl (fun _ => 0))), (q_14, .inl (ca 4, 148, .inr (.inr (.inr (.inr (fun _ => none))))))]) (t0 := 1) (n := 4000) (N' := 4000) (k := 31) (tf := .array (.int)) (a0 := (4000, .inl (fun _ => 0))) hP hD hS hlen rfl xm_11 rfl (fun C h => by cases h) (m_a_int 4000) (by decide +kernel) (by decide +kernel) (by decide +kernel) (by decide) xm_101 rfl rfl (by decide +kernel) (fun _ => rfl) (fun _ => rfl) (Nat.le_of_ble_eq_true rfl) (Nat.le_of_ble_eq_true rfl) d_MM_init_204 d_MM_init_206 ?_
  clear hP hD hS hlen
  intro q_28 H locs hlen hP hD hS
  obtain ⟨fs_21, e_21⟩ : ∃ z, z = fs_20.set 31 (.ref q_28) := ⟨_, rfl⟩
  rw [← e_21] at hP hD hlen
  replace hP : va_P (dC, dI) classes [(h0, .inr (0, fs_21)), (q_1, .inr (1, q_2)), (q_3, .inr (2, [.ref q_4, .int 0])), (q_4, .inl (ca 0, 16, .inl (fun _ => 0))), (q_14, .inl (ca 4, 148, .inr (.inr (.inr (.inr (fun _ => none))))))] H := hP
  replace hD : va_D A [(h0, .inr (0, fs_21)), (q_1, .inr (1, q_2)), (q_3, .inr (2, [.ref q_4, .int 0])), (q_4, .inl (ca 0, 16, .inl (fun _ => 0))), (q_14, .inl (ca 4, 148, .inr (.inr (.inr (.inr (fun _ => none))))))] := hD
  refine W.widen (k := 46) (n := 508595) (Nat.le_of_ble_eq_true rfl) (Nat.le_of_ble_eq_true rfl) ?_
  refine lv_aload_n hx hb d_MM_init_209 rfl (lv_at hl 0 rfl) ?_
  refine lv_sipush (v := 4000) hx hb d_MM_init_210 (by decide +kernel) ?_
  refine m_arr M (atype := .boolean) (ty := .boolean) (fs := fs_21) (wt := [(q_1, .inr (1, q_2)), (q_3, .inr (2, [.ref q_4, .int 0])), (q_4, .inl (ca 0, 16, .inl (fun _ => 0))), (q_14, .inl (ca 4, 148, .inr (.inr (.inr (.inr (fun _ => none))))))]) (t0 := 3) (n := 4000) (N' := 4000) (k := 32) (tf := .array (.boolean)) (a0 := (4000, .inl (fun _ => 0))) hP hD hS hlen rfl xm_174 rfl (fun C h => by cases h) (m_a_boolean 4000) (by decide +kernel) (by decide +kernel) (by decide +kernel) (by decide) xm_102 rfl rfl (by decide +kernel) (fun _ => rfl) (fun _ => rfl) (Nat.le_of_ble_eq_true rfl) (Nat.le_of_ble_eq_true rfl) d_MM_init_213 d_MM_init_215 ?_
  clear hP hD hS hlen
  intro q_29 H locs hlen hP hD hS
  obtain ⟨fs_22, e_22⟩ : ∃ z, z = fs_21.set 32 (.ref q_29) := ⟨_, rfl⟩
  rw [← e_22] at hP hD hlen
  replace hP : va_P (dC, dI) classes [(h0, .inr (0, fs_22)), (q_1, .inr (1, q_2)), (q_3, .inr (2, [.ref q_4, .int 0])), (q_4, .inl (ca 0, 16, .inl (fun _ => 0))), (q_14, .inl (ca 4, 148, .inr (.inr (.inr (.inr (fun _ => none))))))] H := hP
  replace hD : va_D A [(h0, .inr (0, fs_22)), (q_1, .inr (1, q_2)), (q_3, .inr (2, [.ref q_4, .int 0])), (q_4, .inl (ca 0, 16, .inl (fun _ => 0))), (q_14, .inl (ca 4, 148, .inr (.inr (.inr (.inr (fun _ => none))))))] := hD
  refine W.widen (k := 47) (n := 512595) (Nat.le_of_ble_eq_true rfl) (Nat.le_of_ble_eq_true rfl) ?_
  refine lv_aload_n hx hb d_MM_init_218 rfl (lv_at hl 0 rfl) ?_
  refine lv_sipush (v := 4000) hx hb d_MM_init_219 (by decide +kernel) ?_
  refine m_arr M (atype := .boolean) (ty := .boolean) (fs := fs_22) (wt := [(q_1, .inr (1, q_2)), (q_3, .inr (2, [.ref q_4, .int 0])), (q_4, .inl (ca 0, 16, .inl (fun _ => 0))), (q_14, .inl (ca 4, 148, .inr (.inr (.inr (.inr (fun _ => none))))))]) (t0 := 3) (n := 4000) (N' := 4000) (k := 33) (tf := .array (.boolean)) (a0 := (4000, .inl (fun _ => 0))) hP hD hS hlen rfl xm_174 rfl (fun C h => by cases h) (m_a_boolean 4000) (by decide +kernel) (by decide +kernel) (by decide +kernel) (by decide) xm_103 rfl rfl (by decide +kernel) (fun _ => rfl) (fun _ => rfl) (Nat.le_of_ble_eq_true rfl) (Nat.le_of_ble_eq_true rfl) d_MM_init_222 d_MM_init_224 ?_
  clear hP hD hS hlen
  intro q_30 H locs hlen hP hD hS
  obtain ⟨fs_23, e_23⟩ : ∃ z, z = fs_22.set 33 (.ref q_30) := ⟨_, rfl⟩
  rw [← e_23] at hP hD hlen
  replace hP : va_P (dC, dI) classes [(h0, .inr (0, fs_23)), (q_1, .inr (1, q_2)), (q_3, .inr (2, [.ref q_4, .int 0])), (q_4, .inl (ca 0, 16, .inl (fun _ => 0))), (q_14, .inl (ca 4, 148, .inr (.inr (.inr (.inr (fun _ => none))))))] H := hP
  replace hD : va_D A [(h0, .inr (0, fs_23)), (q_1, .inr (1, q_2)), (q_3, .inr (2, [.ref q_4, .int 0])), (q_4, .inl (ca 0, 16, .inl (fun _ => 0))), (q_14, .inl (ca 4, 148, .inr (.inr (.inr (.inr (fun _ => none))))))] := hD
  refine W.widen (k := 48) (n := 516595) (Nat.le_of_ble_eq_true rfl) (Nat.le_of_ble_eq_true rfl) ?_
  refine lv_aload_n hx hb d_MM_init_227 rfl (lv_at hl 0 rfl) ?_
  refine lv_sipush (v := 4001) hx hb d_MM_init_228 (by decide +kernel) ?_
  refine m_arr M (atype := .int) (ty := .int) (fs := fs_23) (wt := [(q_1, .inr (1, q_2)), (q_3, .inr (2, [.ref q_4, .int 0])), (q_4, .inl (ca 0, 16, .inl (fun _ => 0))), (q_14, .inl (ca 4, 148, .inr (.inr (.inr (.inr (fun _ => none))))))]) (t0 := 1) (n := 4001) (N' := 4001) (k := 35) (tf := .array (.int)) (a0 := (4001, .inl (fun _ => 0))) hP hD hS hlen rfl xm_11 rfl (fun C h => by cases h) (m_a_int 4001) (by decide +kernel) (by decide +kernel) (by decide +kernel) (by decide) xm_104 rfl rfl (by decide +kernel) (fun _ => rfl) (fun _ => rfl) (Nat.le_of_ble_eq_true rfl) (Nat.le_of_ble_eq_true rfl) d_MM_init_231 d_MM_init_233 ?_
  clear hP hD hS hlen
  intro q_31 H locs hlen hP hD hS
  obtain ⟨fs_24, e_24⟩ : ∃ z, z = fs_23.set 35 (.ref q_31) := ⟨_, rfl⟩
  rw [← e_24] at hP hD hlen
  replace hP : va_P (dC, dI) classes [(h0, .inr (0, fs_24)), (q_1, .inr (1, q_2)), (q_3, .inr (2, [.ref q_4, .int 0])), (q_4, .inl (ca 0, 16, .inl (fun _ => 0))), (q_14, .inl (ca 4, 148, .inr (.inr (.inr (.inr (fun _ => none))))))] H := hP
  replace hD : va_D A [(h0, .inr (0, fs_24)), (q_1, .inr (1, q_2)), (q_3, .inr (2, [.ref q_4, .int 0])), (q_4, .inl (ca 0, 16, .inl (fun _ => 0))), (q_14, .inl (ca 4, 148, .inr (.inr (.inr (.inr (fun _ => none))))))] := hD
  refine W.widen (k := 49) (n := 520596) (Nat.le_of_ble_eq_true rfl) (Nat.le_of_ble_eq_true rfl) ?_
  refine lv_aload_n hx hb d_MM_init_236 rfl (lv_at hl 0 rfl) ?_
  refine m_new M (wt := [(q_1, .inr (1, q_2)), (q_3, .inr (2, [.ref q_4, .int 0])), (q_4, .inl (ca 0, 16, .inl (fun _ => 0))), (q_14, .inl (ca 4, 148, .inr (.inr (.inr (.inr (fun _ => none))))))]) (ci := 3) (C := R_MI) (T := F_MI) (N := 2) (f0 := [.null, .int 0]) hP hD hS i_MI t_MI_ok xm_32 xm_33 xm_3 rfl (by decide +kernel) (Nat.le_of_ble_eq_true rfl) (Nat.le_of_ble_eq_true rfl) d_MM_init_237 d_MM_init_240 ?_
  clear hP hD hS
  intro q_32 H hP hD hS
  replace hP : va_P (dC, dI) classes [(h0, .inr (0, fs_24)), (q_1, .inr (1, q_2)), (q_3, .inr (2, [.ref q_4, .int 0])), (q_4, .inl (ca 0, 16, .inl (fun _ => 0))), (q_14, .inl (ca 4, 148, .inr (.inr (.inr (.inr (fun _ => none)))))), (q_32, .inr (3, [.null, .int 0]))] H := hP
  replace hD : va_D A [(h0, .inr (0, fs_24)), (q_1, .inr (1, q_2)), (q_3, .inr (2, [.ref q_4, .int 0])), (q_4, .inl (ca 0, 16, .inl (fun _ => 0))), (q_14, .inl (ca 4, 148, .inr (.inr (.inr (.inr (fun _ => none)))))), (q_32, .inr (3, [.null, .int 0]))] := hD
  refine W.widen (k := 50) (n := 520598) (Nat.le_of_ble_eq_true rfl) (Nat.le_of_ble_eq_true rfl) ?_
  refine lv_iconst (v := 4) hx hb d_MM_init_241 (by decide) ?_
  refine ax_I (k := 1) (As := [.int 4]) (rest := [.ref q_32, .ref h0]) (wr := [(h0, .inr (0, fs_24)), (q_1, .inr (1, q_2)), (q_3, .inr (2, [.ref q_4, .int 0])), (q_4, .inl (ca 0, 16, .inl (fun _ => 0))), (q_14, .inl (ca 4, 148, .inr (.inr (.inr (.inr (fun _ => none))))))]) rfl hx hb hml hown hts g_wm (mK_bl dC dI ca) (c_MI_init l dC dI ca q_32) rfl xm_34 xm_35 xm_3 xm_36 (by decide +kernel) rfl (Nat.le_of_ble_eq_true rfl) (Nat.le_of_ble_eq_true rfl) hl.1 (Nat.le_of_ble_eq_true rfl) (mK_up hK) hP hD hS hA [5] [0, 1, 2, 3, 4] rfl (by decide) rfl rfl (by decide) (by decide) (Nat.le_of_ble_eq_true rfl) (Nat.le_of_ble_eq_true rfl) d_MM_init_242 ?_
  clear hP hD hS
  intro v q_33 H locs hp hP hD hS
  obtain rfl : v = none := hp
  replace hP : va_P (dC, dI) classes [(h0, .inr (0, fs_24)), (q_1, .inr (1, q_2)), (q_3, .inr (2, [.ref q_4, .int 0])), (q_4, .inl (ca 0, 16, .inl (fun _ => 0))), (q_14, .inl (ca 4, 148, .inr (.inr (.inr (.inr (fun _ => none)))))), (q_32, .inr (3, [.ref q_33, .int 0])), (q_33, .inl (ca 1, 4, .inl (fun _ => 0)))] H := hP
  replace hD : va_D A [(h0, .inr (0, fs_24)), (q_1, .inr (1, q_2)), (q_3, .inr (2, [.ref q_4, .int 0])), (q_4, .inl (ca 0, 16, .inl (fun _ => 0))), (q_14, .inl (ca 4, 148, .inr (.inr (.inr (.inr (fun _ => none)))))), (q_32, .inr (3, [.ref q_33, .int 0])), (q_33, .inl (ca 1, 4, .inl (fun _ => 0)))] := hD
  refine W.eq (g2 := F0 m 245 ls [.ref q_32, .ref h0]) rfl ?_
  refine W.widen (k := 51) (n := 520602) (Nat.le_of_ble_eq_true rfl) (Nat.le_of_ble_eq_true rfl) ?_
  replace hP := hP.sub (ws' := [(h0, .inr (0, fs_24)), (q_1, .inr (1, q_2)), (q_3, .inr (2, [.ref q_4, .int 0])), (q_4, .inl (ca 0, 16, .inl (fun _ => 0))), (q_14, .inl (ca 4, 148, .inr (.inr (.inr (.inr (fun _ => none))))))]) [0, 1, 2, 3, 4] rfl
  replace hD := hD.sub (ws' := [(h0, .inr (0, fs_24)), (q_1, .inr (1, q_2)), (q_3, .inr (2, [.ref q_4, .int 0])), (q_4, .inl (ca 0, 16, .inl (fun _ => 0))), (q_14, .inl (ca 4, 148, .inr (.inr (.inr (.inr (fun _ => none))))))]) [0, 1, 2, 3, 4] (by decide) rfl
  refine m_put M (fs := fs_24) (wt := [(q_1, .inr (1, q_2)), (q_3, .inr (2, [.ref q_4, .int 0])), (q_4, .inl (ca 0, 16, .inl (fun _ => 0))), (q_14, .inl (ca 4, 148, .inr (.inr (.inr (.inr (fun _ => none))))))]) (k := 36) (ty := .object "SourceBackModel$Ints") hP hD hS hlen (by decide) xm_105 rfl rfl (by decide +kernel) rfl rfl d_MM_init_245 ?_
  clear hP hD hS hlen
  intro H locs hlen hP hD hS
  obtain ⟨fs_25, e_25⟩ : ∃ z, z = fs_24.set 36 (.ref q_32) := ⟨_, rfl⟩
  rw [← e_25] at hP hD hlen
  replace hP : va_P (dC, dI) classes [(h0, .inr (0, fs_25)), (q_1, .inr (1, q_2)), (q_3, .inr (2, [.ref q_4, .int 0])), (q_4, .inl (ca 0, 16, .inl (fun _ => 0))), (q_14, .inl (ca 4, 148, .inr (.inr (.inr (.inr (fun _ => none))))))] H := hP
  replace hD : va_D A [(h0, .inr (0, fs_25)), (q_1, .inr (1, q_2)), (q_3, .inr (2, [.ref q_4, .int 0])), (q_4, .inl (ca 0, 16, .inl (fun _ => 0))), (q_14, .inl (ca 4, 148, .inr (.inr (.inr (.inr (fun _ => none))))))] := hD
  subst e_25 e_24 e_23 e_22 e_21 e_20 e_19 e_18 e_17 e_16
  exact kk q_23 q_24 q_25 q_26 q_27 q_28 q_29 q_30 q_31 q_32 H locs hlen hP hD hS
set_option maxHeartbeats 4000000 in
set_option maxRecDepth 100000 in
theorem mi_25 {p : Program} {l : Launch} {e : Env} {s : State} {m : MethodId} {args : Array Value} {below : List Frame} {meth : Method} {c : Code} {H : Heap} {locs : List Loc} {Q : State → Prop} {dC : Nat → ClassId} {dI : Nat → Nat → Nat} {ca : Nat → ClassId} {A : Nat → Prop} {ls : Array Slot} {h0 : Nat} {sa : Nat → Nat} (M : mC p s m args meth c dC dI ca A ls h0) (hks : ∀ (i : Nat) (z : Nat × String), strs[i]? = some z → vk_R R_MM z.1 z.2 (sa i) s ∧ va_Any "java/lang/String" s s.heap (sa i) ∧ sa i ≠ h0) (hnA : ∀ (i : Nat) (z : Nat × String), strs[i]? = some z → ¬ A (sa i)) {fs_25 : List Value} {q_1 : Nat} {q_2 : List Value} {q_3 : Nat} {q_4 : Nat} {q_14 : Nat} (hP : va_P (dC, dI) classes ((h0, .inr (0, fs_25)) :: [(q_1, .inr (1, q_2)), (q_3, .inr (2, [.ref q_4, .int 0])), (q_4, .inl (ca 0, 16, .inl (fun _ => 0))), (q_14, .inl (ca 4, 148, .inr (.inr (.inr (.inr (fun _ => none))))))]) H) (hD : va_D A ((h0, .inr (0, fs_25)) :: [(q_1, .inr (1, q_2)), (q_3, .inr (2, [.ref q_4, .int 0])), (q_4, .inl (ca 0, 16, .inl (fun _ => 0))), (q_14, .inl (ca 4, 148, .inr (.inr (.inr (.inr (fun _ => none))))))])) (hS : va_S A s.heap H locs) (hlen : fs_25.length = 132)
    (kk : ∀ (q_34 q_36 q_38 q_40 q_42 : Nat) (H : Heap) (locs : List Loc), (((((fs_25.set 37 (.ref q_34)).set 38 (.ref q_36)).set 39 (.ref q_38)).set 40 (.ref q_40)).set 41 (.ref q_42)).length = 132 → va_P (dC, dI) classes ((h0, .inr (0, ((((fs_25.set 37 (.ref q_34)).set 38 (.ref q_36)).set 39 (.ref q_38)).set 40 (.ref q_40)).set 41 (.ref q_42))) :: [(q_1, .inr (1, q_2)), (q_3, .inr (2, [.ref q_4, .int 0])), (q_4, .inl (ca 0, 16, .inl (fun _ => 0))), (q_14, .inl (ca 4, 148, .inr (.inr (.inr (.inr (fun _ => none))))))]) H → va_D A ((h0, .inr (0, ((((fs_25.set 37 (.ref q_34)).set 38 (.ref q_36)).set 39 (.ref q_38)).set 40 (.ref q_40)).set 41 (.ref q_42))) :: [(q_1, .inr (1, q_2)), (q_3, .inr (2, [.ref q_4, .int 0])), (q_4, .inl (ca 0, 16, .inl (fun _ => 0))), (q_14, .inl (ca 4, 148, .inr (.inr (.inr (.inr (fun _ => none))))))]) → va_S A s.heap H locs → W p l e ({ frames := 7, cells := 166, slots := 640022, locals := 100 }) s m args below meth c H locs 60 524626 Q (F0 m 305 ls [])) :
    W p l e ({ frames := 7, cells := 166, slots := 640022, locals := 100 }) s m args below meth c H locs 51 520602 Q (F0 m 248 ls []) := by
  obtain ⟨hx, hb, hml, hown, hts, hin, hK, hA, hl⟩ := id M
  refine lv_aload_n hx hb d_MM_init_248 rfl (lv_at hl 0 rfl) ?_
  refine m_new M (wt := [(q_1, .inr (1, q_2)), (q_3, .inr (2, [.ref q_4, .int 0])), (q_4, .inl (ca 0, 16, .inl (fun _ => 0))), (q_14, .inl (ca 4, 148, .inr (.inr (.inr (.inr (fun _ => none))))))]) (ci := 3) (C := R_MI) (T := F_MI) (N := 2) (f0 := [.null, .int 0]) hP hD hS i_MI t_MI_ok xm_32 xm_33 xm_3 rfl (by decide +kernel) (Nat.le_of_ble_eq_true rfl) (Nat.le_of_ble_eq_true rfl) d_MM_init_249 d_MM_init_252 ?_
  clear hP hD hS
  intro q_34 H hP hD hS
  replace hP : va_P (dC, dI) classes [(h0, .inr (0, fs_25)), (q_1, .inr (1, q_2)), (q_3, .inr (2, [.ref q_4, .int 0])), (q_4, .inl (ca 0, 16, .inl (fun _ => 0))), (q_14, .inl (ca 4, 148, .inr (.inr (.inr (.inr (fun _ => none)))))), (q_34, .inr (3, [.null, .int 0]))] H := hP
  replace hD : va_D A [(h0, .inr (0, fs_25)), (q_1, .inr (1, q_2)), (q_3, .inr (2, [.ref q_4, .int 0])), (q_4, .inl (ca 0, 16, .inl (fun _ => 0))), (q_14, .inl (ca 4, 148, .inr (.inr (.inr (.inr (fun _ => none)))))), (q_34, .inr (3, [.null, .int 0]))] := hD
  refine W.widen (k := 52) (n := 520604) (Nat.le_of_ble_eq_true rfl) (Nat.le_of_ble_eq_true rfl) ?_
  refine lv_iconst (v := 4) hx hb d_MM_init_253 (by decide) ?_
  refine ax_I (k := 1) (As := [.int 4]) (rest := [.ref q_34, .ref h0]) (wr := [(h0, .inr (0, fs_25)), (q_1, .inr (1, q_2)), (q_3, .inr (2, [.ref q_4, .int 0])), (q_4, .inl (ca 0, 16, .inl (fun _ => 0))), (q_14, .inl (ca 4, 148, .inr (.inr (.inr (.inr (fun _ => none))))))]) rfl hx hb hml hown hts g_wm (mK_bl dC dI ca) (c_MI_init l dC dI ca q_34) rfl xm_34 xm_35 xm_3 xm_36 (by decide +kernel) rfl (Nat.le_of_ble_eq_true rfl) (Nat.le_of_ble_eq_true rfl) hl.1 (Nat.le_of_ble_eq_true rfl) (mK_up hK) hP hD hS hA [5] [0, 1, 2, 3, 4] rfl (by decide) rfl rfl (by decide) (by decide) (Nat.le_of_ble_eq_true rfl) (Nat.le_of_ble_eq_true rfl) d_MM_init_254 ?_
  clear hP hD hS
  intro v q_35 H locs hp hP hD hS
  obtain rfl : v = none := hp
  replace hP : va_P (dC, dI) classes [(h0, .inr (0, fs_25)), (q_1, .inr (1, q_2)), (q_3, .inr (2, [.ref q_4, .int 0])), (q_4, .inl (ca 0, 16, .inl (fun _ => 0))), (q_14, .inl (ca 4, 148, .inr (.inr (.inr (.inr (fun _ => none)))))), (q_34, .inr (3, [.ref q_35, .int 0])), (q_35, .inl (ca 1, 4, .inl (fun _ => 0)))] H := hP
  replace hD : va_D A [(h0, .inr (0, fs_25)), (q_1, .inr (1, q_2)), (q_3, .inr (2, [.ref q_4, .int 0])), (q_4, .inl (ca 0, 16, .inl (fun _ => 0))), (q_14, .inl (ca 4, 148, .inr (.inr (.inr (.inr (fun _ => none)))))), (q_34, .inr (3, [.ref q_35, .int 0])), (q_35, .inl (ca 1, 4, .inl (fun _ => 0)))] := hD
  refine W.eq (g2 := F0 m 257 ls [.ref q_34, .ref h0]) rfl ?_
  refine W.widen (k := 53) (n := 520608) (Nat.le_of_ble_eq_true rfl) (Nat.le_of_ble_eq_true rfl) ?_
  replace hP := hP.sub (ws' := [(h0, .inr (0, fs_25)), (q_1, .inr (1, q_2)), (q_3, .inr (2, [.ref q_4, .int 0])), (q_4, .inl (ca 0, 16, .inl (fun _ => 0))), (q_14, .inl (ca 4, 148, .inr (.inr (.inr (.inr (fun _ => none))))))]) [0, 1, 2, 3, 4] rfl
  replace hD := hD.sub (ws' := [(h0, .inr (0, fs_25)), (q_1, .inr (1, q_2)), (q_3, .inr (2, [.ref q_4, .int 0])), (q_4, .inl (ca 0, 16, .inl (fun _ => 0))), (q_14, .inl (ca 4, 148, .inr (.inr (.inr (.inr (fun _ => none))))))]) [0, 1, 2, 3, 4] (by decide) rfl
  refine m_put M (fs := fs_25) (wt := [(q_1, .inr (1, q_2)), (q_3, .inr (2, [.ref q_4, .int 0])), (q_4, .inl (ca 0, 16, .inl (fun _ => 0))), (q_14, .inl (ca 4, 148, .inr (.inr (.inr (.inr (fun _ => none))))))]) (k := 37) (ty := .object "SourceBackModel$Ints") hP hD hS hlen (by decide) xm_106 rfl rfl (by decide +kernel) rfl rfl d_MM_init_257 ?_
  clear hP hD hS hlen
  intro H locs hlen hP hD hS
  obtain ⟨fs_26, e_26⟩ : ∃ z, z = fs_25.set 37 (.ref q_34) := ⟨_, rfl⟩
  rw [← e_26] at hP hD hlen
  replace hP : va_P (dC, dI) classes [(h0, .inr (0, fs_26)), (q_1, .inr (1, q_2)), (q_3, .inr (2, [.ref q_4, .int 0])), (q_4, .inl (ca 0, 16, .inl (fun _ => 0))), (q_14, .inl (ca 4, 148, .inr (.inr (.inr (.inr (fun _ => none))))))] H := hP
  replace hD : va_D A [(h0, .inr (0, fs_26)), (q_1, .inr (1, q_2)), (q_3, .inr (2, [.ref q_4, .int 0])), (q_4, .inl (ca 0, 16, .inl (fun _ => 0))), (q_14, .inl (ca 4, 148, .inr (.inr (.inr (.inr (fun _ => none))))))] := hD
  refine lv_aload_n hx hb d_MM_init_260 rfl (lv_at hl 0 rfl) ?_
  refine m_new M (wt := [(q_1, .inr (1, q_2)), (q_3, .inr (2, [.ref q_4, .int 0])), (q_4, .inl (ca 0, 16, .inl (fun _ => 0))), (q_14, .inl (ca 4, 148, .inr (.inr (.inr (.inr (fun _ => none))))))]) (ci := 3) (C := R_MI) (T := F_MI) (N := 2) (f0 := [.null, .int 0]) hP hD hS i_MI t_MI_ok xm_32 xm_33 xm_3 rfl (by decide +kernel) (Nat.le_of_ble_eq_true rfl) (Nat.le_of_ble_eq_true rfl) d_MM_init_261 d_MM_init_264 ?_
  clear hP hD hS
  intro q_36 H hP hD hS
  replace hP : va_P (dC, dI) classes [(h0, .inr (0, fs_26)), (q_1, .inr (1, q_2)), (q_3, .inr (2, [.ref q_4, .int 0])), (q_4, .inl (ca 0, 16, .inl (fun _ => 0))), (q_14, .inl (ca 4, 148, .inr (.inr (.inr (.inr (fun _ => none)))))), (q_36, .inr (3, [.null, .int 0]))] H := hP
  replace hD : va_D A [(h0, .inr (0, fs_26)), (q_1, .inr (1, q_2)), (q_3, .inr (2, [.ref q_4, .int 0])), (q_4, .inl (ca 0, 16, .inl (fun _ => 0))), (q_14, .inl (ca 4, 148, .inr (.inr (.inr (.inr (fun _ => none)))))), (q_36, .inr (3, [.null, .int 0]))] := hD
  refine W.widen (k := 54) (n := 520610) (Nat.le_of_ble_eq_true rfl) (Nat.le_of_ble_eq_true rfl) ?_
  refine lv_iconst (v := 4) hx hb d_MM_init_265 (by decide) ?_
  refine ax_I (k := 1) (As := [.int 4]) (rest := [.ref q_36, .ref h0]) (wr := [(h0, .inr (0, fs_26)), (q_1, .inr (1, q_2)), (q_3, .inr (2, [.ref q_4, .int 0])), (q_4, .inl (ca 0, 16, .inl (fun _ => 0))), (q_14, .inl (ca 4, 148, .inr (.inr (.inr (.inr (fun _ => none))))))]) rfl hx hb hml hown hts g_wm (mK_bl dC dI ca) (c_MI_init l dC dI ca q_36) rfl xm_34 xm_35 xm_3 xm_36 (by decide +kernel) rfl (Nat.le_of_ble_eq_true rfl) (Nat.le_of_ble_eq_true rfl) hl.1 (Nat.le_of_ble_eq_true rfl) (mK_up hK) hP hD hS hA [5] [0, 1, 2, 3, 4] rfl (by decide) rfl rfl (by decide) (by decide) (Nat.le_of_ble_eq_true rfl) (Nat.le_of_ble_eq_true rfl) d_MM_init_266 ?_
  clear hP hD hS
  intro v q_37 H locs hp hP hD hS
  obtain rfl : v = none := hp
  replace hP : va_P (dC, dI) classes [(h0, .inr (0, fs_26)), (q_1, .inr (1, q_2)), (q_3, .inr (2, [.ref q_4, .int 0])), (q_4, .inl (ca 0, 16, .inl (fun _ => 0))), (q_14, .inl (ca 4, 148, .inr (.inr (.inr (.inr (fun _ => none)))))), (q_36, .inr (3, [.ref q_37, .int 0])), (q_37, .inl (ca 1, 4, .inl (fun _ => 0)))] H := hP
  replace hD : va_D A [(h0, .inr (0, fs_26)), (q_1, .inr (1, q_2)), (q_3, .inr (2, [.ref q_4, .int 0])), (q_4, .inl (ca 0, 16, .inl (fun _ => 0))), (q_14, .inl (ca 4, 148, .inr (.inr (.inr (.inr (fun _ => none)))))), (q_36, .inr (3, [.ref q_37, .int 0])), (q_37, .inl (ca 1, 4, .inl (fun _ => 0)))] := hD
  refine W.eq (g2 := F0 m 269 ls [.ref q_36, .ref h0]) rfl ?_
  refine W.widen (k := 55) (n := 520614) (Nat.le_of_ble_eq_true rfl) (Nat.le_of_ble_eq_true rfl) ?_
  replace hP := hP.sub (ws' := [(h0, .inr (0, fs_26)), (q_1, .inr (1, q_2)), (q_3, .inr (2, [.ref q_4, .int 0])), (q_4, .inl (ca 0, 16, .inl (fun _ => 0))), (q_14, .inl (ca 4, 148, .inr (.inr (.inr (.inr (fun _ => none))))))]) [0, 1, 2, 3, 4] rfl
  replace hD := hD.sub (ws' := [(h0, .inr (0, fs_26)), (q_1, .inr (1, q_2)), (q_3, .inr (2, [.ref q_4, .int 0])), (q_4, .inl (ca 0, 16, .inl (fun _ => 0))), (q_14, .inl (ca 4, 148, .inr (.inr (.inr (.inr (fun _ => none))))))]) [0, 1, 2, 3, 4] (by decide) rfl
  refine m_put M (fs := fs_26) (wt := [(q_1, .inr (1, q_2)), (q_3, .inr (2, [.ref q_4, .int 0])), (q_4, .inl (ca 0, 16, .inl (fun _ => 0))), (q_14, .inl (ca 4, 148, .inr (.inr (.inr (.inr (fun _ => none))))))]) (k := 38) (ty := .object "SourceBackModel$Ints") hP hD hS hlen (by decide) xm_107 rfl rfl (by decide +kernel) rfl rfl d_MM_init_269 ?_
  clear hP hD hS hlen
  intro H locs hlen hP hD hS
  obtain ⟨fs_27, e_27⟩ : ∃ z, z = fs_26.set 38 (.ref q_36) := ⟨_, rfl⟩
  rw [← e_27] at hP hD hlen
  replace hP : va_P (dC, dI) classes [(h0, .inr (0, fs_27)), (q_1, .inr (1, q_2)), (q_3, .inr (2, [.ref q_4, .int 0])), (q_4, .inl (ca 0, 16, .inl (fun _ => 0))), (q_14, .inl (ca 4, 148, .inr (.inr (.inr (.inr (fun _ => none))))))] H := hP
  replace hD : va_D A [(h0, .inr (0, fs_27)), (q_1, .inr (1, q_2)), (q_3, .inr (2, [.ref q_4, .int 0])), (q_4, .inl (ca 0, 16, .inl (fun _ => 0))), (q_14, .inl (ca 4, 148, .inr (.inr (.inr (.inr (fun _ => none))))))] := hD
  refine lv_aload_n hx hb d_MM_init_272 rfl (lv_at hl 0 rfl) ?_
  refine m_new M (wt := [(q_1, .inr (1, q_2)), (q_3, .inr (2, [.ref q_4, .int 0])), (q_4, .inl (ca 0, 16, .inl (fun _ => 0))), (q_14, .inl (ca 4, 148, .inr (.inr (.inr (.inr (fun _ => none))))))]) (ci := 3) (C := R_MI) (T := F_MI) (N := 2) (f0 := [.null, .int 0]) hP hD hS i_MI t_MI_ok xm_32 xm_33 xm_3 rfl (by decide +kernel) (Nat.le_of_ble_eq_true rfl) (Nat.le_of_ble_eq_true rfl) d_MM_init_273 d_MM_init_276 ?_
  clear hP hD hS
  intro q_38 H hP hD hS
  replace hP : va_P (dC, dI) classes [(h0, .inr (0, fs_27)), (q_1, .inr (1, q_2)), (q_3, .inr (2, [.ref q_4, .int 0])), (q_4, .inl (ca 0, 16, .inl (fun _ => 0))), (q_14, .inl (ca 4, 148, .inr (.inr (.inr (.inr (fun _ => none)))))), (q_38, .inr (3, [.null, .int 0]))] H := hP
  replace hD : va_D A [(h0, .inr (0, fs_27)), (q_1, .inr (1, q_2)), (q_3, .inr (2, [.ref q_4, .int 0])), (q_4, .inl (ca 0, 16, .inl (fun _ => 0))), (q_14, .inl (ca 4, 148, .inr (.inr (.inr (.inr (fun _ => none)))))), (q_38, .inr (3, [.null, .int 0]))] := hD
  refine W.widen (k := 56) (n := 520616) (Nat.le_of_ble_eq_true rfl) (Nat.le_of_ble_eq_true rfl) ?_
  refine lv_iconst (v := 4) hx hb d_MM_init_277 (by decide) ?_
  refine ax_I (k := 1) (As := [.int 4]) (rest := [.ref q_38, .ref h0]) (wr := [(h0, .inr (0, fs_27)), (q_1, .inr (1, q_2)), (q_3, .inr (2, [.ref q_4, .int 0])), (q_4, .inl (ca 0, 16, .inl (fun _ => 0))), (q_14, .inl (ca 4, 148, .inr (.inr (.inr (.inr (fun _ => none))))))]) rfl hx hb hml hown hts g_wm (mK_bl dC dI ca) (c_MI_init l dC dI ca q_38) rfl xm_34 xm_35 xm_3 xm_36 (by decide +kernel) rfl (Nat.le_of_ble_eq_true rfl) (Nat.le_of_ble_eq_true rfl) hl.1 (Nat.le_of_ble_eq_true rfl) (mK_up hK) hP hD hS hA [5] [0, 1, 2, 3, 4] rfl (by decide) rfl rfl (by decide) (by decide) (Nat.le_of_ble_eq_true rfl) (Nat.le_of_ble_eq_true rfl) d_MM_init_278 ?_
  clear hP hD hS
  intro v q_39 H locs hp hP hD hS
  obtain rfl : v = none := hp
  replace hP : va_P (dC, dI) classes [(h0, .inr (0, fs_27)), (q_1, .inr (1, q_2)), (q_3, .inr (2, [.ref q_4, .int 0])), (q_4, .inl (ca 0, 16, .inl (fun _ => 0))), (q_14, .inl (ca 4, 148, .inr (.inr (.inr (.inr (fun _ => none)))))), (q_38, .inr (3, [.ref q_39, .int 0])), (q_39, .inl (ca 1, 4, .inl (fun _ => 0)))] H := hP
  replace hD : va_D A [(h0, .inr (0, fs_27)), (q_1, .inr (1, q_2)), (q_3, .inr (2, [.ref q_4, .int 0])), (q_4, .inl (ca 0, 16, .inl (fun _ => 0))), (q_14, .inl (ca 4, 148, .inr (.inr (.inr (.inr (fun _ => none)))))), (q_38, .inr (3, [.ref q_39, .int 0])), (q_39, .inl (ca 1, 4, .inl (fun _ => 0)))] := hD
  refine W.eq (g2 := F0 m 281 ls [.ref q_38, .ref h0]) rfl ?_
  refine W.widen (k := 57) (n := 520620) (Nat.le_of_ble_eq_true rfl) (Nat.le_of_ble_eq_true rfl) ?_
  replace hP := hP.sub (ws' := [(h0, .inr (0, fs_27)), (q_1, .inr (1, q_2)), (q_3, .inr (2, [.ref q_4, .int 0])), (q_4, .inl (ca 0, 16, .inl (fun _ => 0))), (q_14, .inl (ca 4, 148, .inr (.inr (.inr (.inr (fun _ => none))))))]) [0, 1, 2, 3, 4] rfl
  replace hD := hD.sub (ws' := [(h0, .inr (0, fs_27)), (q_1, .inr (1, q_2)), (q_3, .inr (2, [.ref q_4, .int 0])), (q_4, .inl (ca 0, 16, .inl (fun _ => 0))), (q_14, .inl (ca 4, 148, .inr (.inr (.inr (.inr (fun _ => none))))))]) [0, 1, 2, 3, 4] (by decide) rfl
  refine m_put M (fs := fs_27) (wt := [(q_1, .inr (1, q_2)), (q_3, .inr (2, [.ref q_4, .int 0])), (q_4, .inl (ca 0, 16, .inl (fun _ => 0))), (q_14, .inl (ca 4, 148, .inr (.inr (.inr (.inr (fun _ => none))))))]) (k := 39) (ty := .object "SourceBackModel$Ints") hP hD hS hlen (by decide) xm_108 rfl rfl (by decide +kernel) rfl rfl d_MM_init_281 ?_
  clear hP hD hS hlen
  intro H locs hlen hP hD hS
  obtain ⟨fs_28, e_28⟩ : ∃ z, z = fs_27.set 39 (.ref q_38) := ⟨_, rfl⟩
  rw [← e_28] at hP hD hlen
  replace hP : va_P (dC, dI) classes [(h0, .inr (0, fs_28)), (q_1, .inr (1, q_2)), (q_3, .inr (2, [.ref q_4, .int 0])), (q_4, .inl (ca 0, 16, .inl (fun _ => 0))), (q_14, .inl (ca 4, 148, .inr (.inr (.inr (.inr (fun _ => none))))))] H := hP
  replace hD : va_D A [(h0, .inr (0, fs_28)), (q_1, .inr (1, q_2)), (q_3, .inr (2, [.ref q_4, .int 0])), (q_4, .inl (ca 0, 16, .inl (fun _ => 0))), (q_14, .inl (ca 4, 148, .inr (.inr (.inr (.inr (fun _ => none))))))] := hD
  refine lv_aload_n hx hb d_MM_init_284 rfl (lv_at hl 0 rfl) ?_
  refine m_new M (wt := [(q_1, .inr (1, q_2)), (q_3, .inr (2, [.ref q_4, .int 0])), (q_4, .inl (ca 0, 16, .inl (fun _ => 0))), (q_14, .inl (ca 4, 148, .inr (.inr (.inr (.inr (fun _ => none))))))]) (ci := 3) (C := R_MI) (T := F_MI) (N := 2) (f0 := [.null, .int 0]) hP hD hS i_MI t_MI_ok xm_32 xm_33 xm_3 rfl (by decide +kernel) (Nat.le_of_ble_eq_true rfl) (Nat.le_of_ble_eq_true rfl) d_MM_init_285 d_MM_init_288 ?_
  clear hP hD hS
  intro q_40 H hP hD hS
  replace hP : va_P (dC, dI) classes [(h0, .inr (0, fs_28)), (q_1, .inr (1, q_2)), (q_3, .inr (2, [.ref q_4, .int 0])), (q_4, .inl (ca 0, 16, .inl (fun _ => 0))), (q_14, .inl (ca 4, 148, .inr (.inr (.inr (.inr (fun _ => none)))))), (q_40, .inr (3, [.null, .int 0]))] H := hP
  replace hD : va_D A [(h0, .inr (0, fs_28)), (q_1, .inr (1, q_2)), (q_3, .inr (2, [.ref q_4, .int 0])), (q_4, .inl (ca 0, 16, .inl (fun _ => 0))), (q_14, .inl (ca 4, 148, .inr (.inr (.inr (.inr (fun _ => none)))))), (q_40, .inr (3, [.null, .int 0]))] := hD
  refine W.widen (k := 58) (n := 520622) (Nat.le_of_ble_eq_true rfl) (Nat.le_of_ble_eq_true rfl) ?_
  refine lv_iconst (v := 4) hx hb d_MM_init_289 (by decide) ?_
  refine ax_I (k := 1) (As := [.int 4]) (rest := [.ref q_40, .ref h0]) (wr := [(h0, .inr (0, fs_28)), (q_1, .inr (1, q_2)), (q_3, .inr (2, [.ref q_4, .int 0])), (q_4, .inl (ca 0, 16, .inl (fun _ => 0))), (q_14, .inl (ca 4, 148, .inr (.inr (.inr (.inr (fun _ => none))))))]) rfl hx hb hml hown hts g_wm (mK_bl dC dI ca) (c_MI_init l dC dI ca q_40) rfl xm_34 xm_35 xm_3 xm_36 (by decide +kernel) rfl (Nat.le_of_ble_eq_true rfl) (Nat.le_of_ble_eq_true rfl) hl.1 (Nat.le_of_ble_eq_true rfl) (mK_up hK) hP hD hS hA [5] [0, 1, 2, 3, 4] rfl (by decide) rfl rfl (by decide) (by decide) (Nat.le_of_ble_eq_true rfl) (Nat.le_of_ble_eq_true rfl) d_MM_init_290 ?_
  clear hP hD hS
  intro v q_41 H locs hp hP hD hS
  obtain rfl : v = none := hp
  replace hP : va_P (dC, dI) classes [(h0, .inr (0, fs_28)), (q_1, .inr (1, q_2)), (q_3, .inr (2, [.ref q_4, .int 0])), (q_4, .inl (ca 0, 16, .inl (fun _ => 0))), (q_14, .inl (ca 4, 148, .inr (.inr (.inr (.inr (fun _ => none)))))), (q_40, .inr (3, [.ref q_41, .int 0])), (q_41, .inl (ca 1, 4, .inl (fun _ => 0)))] H := hP
  replace hD : va_D A [(h0, .inr (0, fs_28)), (q_1, .inr (1, q_2)), (q_3, .inr (2, [.ref q_4, .int 0])), (q_4, .inl (ca 0, 16, .inl (fun _ => 0))), (q_14, .inl (ca 4, 148, .inr (.inr (.inr (.inr (fun _ => none)))))), (q_40, .inr (3, [.ref q_41, .int 0])), (q_41, .inl (ca 1, 4, .inl (fun _ => 0)))] := hD
  refine W.eq (g2 := F0 m 293 ls [.ref q_40, .ref h0]) rfl ?_
  refine W.widen (k := 59) (n := 520626) (Nat.le_of_ble_eq_true rfl) (Nat.le_of_ble_eq_true rfl) ?_
  replace hP := hP.sub (ws' := [(h0, .inr (0, fs_28)), (q_1, .inr (1, q_2)), (q_3, .inr (2, [.ref q_4, .int 0])), (q_4, .inl (ca 0, 16, .inl (fun _ => 0))), (q_14, .inl (ca 4, 148, .inr (.inr (.inr (.inr (fun _ => none))))))]) [0, 1, 2, 3, 4] rfl
  replace hD := hD.sub (ws' := [(h0, .inr (0, fs_28)), (q_1, .inr (1, q_2)), (q_3, .inr (2, [.ref q_4, .int 0])), (q_4, .inl (ca 0, 16, .inl (fun _ => 0))), (q_14, .inl (ca 4, 148, .inr (.inr (.inr (.inr (fun _ => none))))))]) [0, 1, 2, 3, 4] (by decide) rfl
  refine m_put M (fs := fs_28) (wt := [(q_1, .inr (1, q_2)), (q_3, .inr (2, [.ref q_4, .int 0])), (q_4, .inl (ca 0, 16, .inl (fun _ => 0))), (q_14, .inl (ca 4, 148, .inr (.inr (.inr (.inr (fun _ => none))))))]) (k := 40) (ty := .object "SourceBackModel$Ints") hP hD hS hlen (by decide) xm_109 rfl rfl (by decide +kernel) rfl rfl d_MM_init_293 ?_
  clear hP hD hS hlen
  intro H locs hlen hP hD hS
  obtain ⟨fs_29, e_29⟩ : ∃ z, z = fs_28.set 40 (.ref q_40) := ⟨_, rfl⟩
  rw [← e_29] at hP hD hlen
  replace hP : va_P (dC, dI) classes [(h0, .inr (0, fs_29)), (q_1, .inr (1, q_2)), (q_3, .inr (2, [.ref q_4, .int 0])), (q_4, .inl (ca 0, 16, .inl (fun _ => 0))), (q_14, .inl (ca 4, 148, .inr (.inr (.inr (.inr (fun _ => none))))))] H := hP
  replace hD : va_D A [(h0, .inr (0, fs_29)), (q_1, .inr (1, q_2)), (q_3, .inr (2, [.ref q_4, .int 0])), (q_4, .inl (ca 0, 16, .inl (fun _ => 0))), (q_14, .inl (ca 4, 148, .inr (.inr (.inr (.inr (fun _ => none))))))] := hD
  refine lv_aload_n hx hb d_MM_init_296 rfl (lv_at hl 0 rfl) ?_
  refine lv_sipush (v := 4000) hx hb d_MM_init_297 (by decide +kernel) ?_
  refine m_arr M (atype := .int) (ty := .int) (fs := fs_29) (wt := [(q_1, .inr (1, q_2)), (q_3, .inr (2, [.ref q_4, .int 0])), (q_4, .inl (ca 0, 16, .inl (fun _ => 0))), (q_14, .inl (ca 4, 148, .inr (.inr (.inr (.inr (fun _ => none))))))]) (t0 := 1) (n := 4000) (N' := 4000) (k := 41) (tf := .array (.int)) (a0 := (4000, .inl (fun _ => 0))) hP hD hS hlen rfl xm_11 rfl (fun C h => by cases h) (m_a_int 4000) (by decide +kernel) (by decide +kernel) (by decide +kernel) (by decide) xm_110 rfl rfl (by decide +kernel) (fun _ => rfl) (fun _ => rfl) (Nat.le_of_ble_eq_true rfl) (Nat.le_of_ble_eq_true rfl) d_MM_init_300 d_MM_init_302 ?_
  clear hP hD hS hlen
  intro q_42 H locs hlen hP hD hS
  obtain ⟨fs_30, e_30⟩ : ∃ z, z = fs_29.set 41 (.ref q_42) := ⟨_, rfl⟩
  rw [← e_30] at hP hD hlen
  replace hP : va_P (dC, dI) classes [(h0, .inr (0, fs_30)), (q_1, .inr (1, q_2)), (q_3, .inr (2, [.ref q_4, .int 0])), (q_4, .inl (ca 0, 16, .inl (fun _ => 0))), (q_14, .inl (ca 4, 148, .inr (.inr (.inr (.inr (fun _ => none))))))] H := hP
  replace hD : va_D A [(h0, .inr (0, fs_30)), (q_1, .inr (1, q_2)), (q_3, .inr (2, [.ref q_4, .int 0])), (q_4, .inl (ca 0, 16, .inl (fun _ => 0))), (q_14, .inl (ca 4, 148, .inr (.inr (.inr (.inr (fun _ => none))))))] := hD
  refine W.widen (k := 60) (n := 524626) (Nat.le_of_ble_eq_true rfl) (Nat.le_of_ble_eq_true rfl) ?_
  subst e_30 e_29 e_28 e_27 e_26
  exact kk q_34 q_36 q_38 q_40 q_42 H locs hlen hP hD hS
set_option maxHeartbeats 4000000 in
set_option maxRecDepth 100000 in
theorem mi_30 {p : Program} {l : Launch} {e : Env} {s : State} {m : MethodId} {args : Array Value} {below : List Frame} {meth : Method} {c : Code} {H : Heap} {locs : List Loc} {Q : State → Prop} {dC : Nat → ClassId} {dI : Nat → Nat → Nat} {ca : Nat → ClassId} {A : Nat → Prop} {ls : Array Slot} {h0 : Nat} {sa : Nat → Nat} (M : mC p s m args meth c dC dI ca A ls h0) (hks : ∀ (i : Nat) (z : Nat × String), strs[i]? = some z → vk_R R_MM z.1 z.2 (sa i) s ∧ va_Any "java/lang/String" s s.heap (sa i) ∧ sa i ≠ h0) (hnA : ∀ (i : Nat) (z : Nat × String), strs[i]? = some z → ¬ A (sa i)) {fs_30 : List Value} {q_1 : Nat} {q_2 : List Value} {q_3 : Nat} {q_4 : Nat} {q_14 : Nat} (hP : va_P (dC, dI) classes ((h0, .inr (0, fs_30)) :: [(q_1, .inr (1, q_2)), (q_3, .inr (2, [.ref q_4, .int 0])), (q_4, .inl (ca 0, 16, .inl (fun _ => 0))), (q_14, .inl (ca 4, 148, .inr (.inr (.inr (.inr (fun _ => none))))))]) H) (hD : va_D A ((h0, .inr (0, fs_30)) :: [(q_1, .inr (1, q_2)), (q_3, .inr (2, [.ref q_4, .int 0])), (q_4, .inl (ca 0, 16, .inl (fun _ => 0))), (q_14, .inl (ca 4, 148, .inr (.inr (.inr (.inr (fun _ => none))))))])) (hS : va_S A s.heap H locs) (hlen : fs_30.length = 132)
    (kk : ∀ (q_43 q_45 q_47 q_49 q_51 : Nat) (H : Heap) (locs : List Loc), (((((fs_30.set 42 (.ref q_43)).set 43 (.ref q_45)).set 44 (.ref q_47)).set 45 (.ref q_49)).set 46 (.ref q_51)).length = 132 → va_P (dC, dI) classes ((h0, .inr (0, ((((fs_30.set 42 (.ref q_43)).set 43 (.ref q_45)).set 44 (.ref q_47)).set 45 (.ref q_49)).set 46 (.ref q_51))) :: [(q_1, .inr (1, q_2)), (q_3, .inr (2, [.ref q_4, .int 0])), (q_4, .inl (ca 0, 16, .inl (fun _ => 0))), (q_14, .inl (ca 4, 148, .inr (.inr (.inr (.inr (fun _ => none))))))]) H → va_D A ((h0, .inr (0, ((((fs_30.set 42 (.ref q_43)).set 43 (.ref q_45)).set 44 (.ref q_47)).set 45 (.ref q_49)).set 46 (.ref q_51))) :: [(q_1, .inr (1, q_2)), (q_3, .inr (2, [.ref q_4, .int 0])), (q_4, .inl (ca 0, 16, .inl (fun _ => 0))), (q_14, .inl (ca 4, 148, .inr (.inr (.inr (.inr (fun _ => none))))))]) → va_S A s.heap H locs → W p l e ({ frames := 7, cells := 166, slots := 640022, locals := 100 }) s m args below meth c H locs 70 524656 Q (F0 m 365 ls [])) :
    W p l e ({ frames := 7, cells := 166, slots := 640022, locals := 100 }) s m args below meth c H locs 60 524626 Q (F0 m 305 ls []) := by
  obtain ⟨hx, hb, hml, hown, hts, hin, hK, hA, hl⟩ := id M
  refine lv_aload_n hx hb d_MM_init_305 rfl (lv_at hl 0 rfl) ?_
  refine m_new M (wt := [(q_1, .inr (1, q_2)), (q_3, .inr (2, [.ref q_4, .int 0])), (q_4, .inl (ca 0, 16, .inl (fun _ => 0))), (q_14, .inl (ca 4, 148, .inr (.inr (.inr (.inr (fun _ => none))))))]) (ci := 3) (C := R_MI) (T := F_MI) (N := 2) (f0 := [.null, .int 0]) hP hD hS i_MI t_MI_ok xm_32 xm_33 xm_3 rfl (by decide +kernel) (Nat.le_of_ble_eq_true rfl) (Nat.le_of_ble_eq_true rfl) d_MM_init_306 d_MM_init_309 ?_
  clear hP hD hS
  intro q_43 H hP hD hS
  replace hP : va_P (dC, dI) classes [(h0, .inr (0, fs_30)), (q_1, .inr (1, q_2)), (q_3, .inr (2, [.ref q_4, .int 0])), (q_4, .inl (ca 0, 16, .inl (fun _ => 0))), (q_14, .inl (ca 4, 148, .inr (.inr (.inr (.inr (fun _ => none)))))), (q_43, .inr (3, [.null, .int 0]))] H := hP
  replace hD : va_D A [(h0, .inr (0, fs_30)), (q_1, .inr (1, q_2)), (q_3, .inr (2, [.ref q_4, .int 0])), (q_4, .inl (ca 0, 16, .inl (fun _ => 0))), (q_14, .inl (ca 4, 148, .inr (.inr (.inr (.inr (fun _ => none)))))), (q_43, .inr (3, [.null, .int 0]))] := hD
  refine W.widen (k := 61) (n := 524628) (Nat.le_of_ble_eq_true rfl) (Nat.le_of_ble_eq_true rfl) ?_
  refine lv_iconst (v := 4) hx hb d_MM_init_310 (by decide) ?_
  refine ax_I (k := 1) (As := [.int 4]) (rest := [.ref q_43, .ref h0]) (wr := [(h0, .inr (0, fs_30)), (q_1, .inr (1, q_2)), (q_3, .inr (2, [.ref q_4, .int 0])), (q_4, .inl (ca 0, 16, .inl (fun _ => 0))), (q_14, .inl (ca 4, 148, .inr (.inr (.inr (.inr (fun _ => none))))))]) rfl hx hb hml hown hts g_wm (mK_bl dC dI ca) (c_MI_init l dC dI ca q_43) rfl xm_34 xm_35 xm_3 xm_36 (by decide +kernel) rfl (Nat.le_of_ble_eq_true rfl) (Nat.le_of_ble_eq_true rfl) hl.1 (Nat.le_of_ble_eq_true rfl) (mK_up hK) hP hD hS hA [5] [0, 1, 2, 3, 4] rfl (by decide) rfl rfl (by decide) (by decide) (Nat.le_of_ble_eq_true rfl) (Nat.le_of_ble_eq_true rfl) d_MM_init_311 ?_
  clear hP hD hS
  intro v q_44 H locs hp hP hD hS
  obtain rfl : v = none := hp
  replace hP : va_P (dC, dI) classes [(h0, .inr (0, fs_30)), (q_1, .inr (1, q_2)), (q_3, .inr (2, [.ref q_4, .int 0])), (q_4, .inl (ca 0, 16, .inl (fun _ => 0))), (q_14, .inl (ca 4, 148, .inr (.inr (.inr (.inr (fun _ => none)))))), (q_43, .inr (3, [.ref q_44, .int 0])), (q_44, .inl (ca 1, 4, .inl (fun _ => 0)))] H := hP
  replace hD : va_D A [(h0, .inr (0, fs_30)), (q_1, .inr (1, q_2)), (q_3, .inr (2, [.ref q_4, .int 0])), (q_4, .inl (ca 0, 16, .inl (fun _ => 0))), (q_14, .inl (ca 4, 148, .inr (.inr (.inr (.inr (fun _ => none)))))), (q_43, .inr (3, [.ref q_44, .int 0])), (q_44, .inl (ca 1, 4, .inl (fun _ => 0)))] := hD
  refine W.eq (g2 := F0 m 314 ls [.ref q_43, .ref h0]) rfl ?_
  refine W.widen (k := 62) (n := 524632) (Nat.le_of_ble_eq_true rfl) (Nat.le_of_ble_eq_true rfl) ?_
  replace hP := hP.sub (ws' := [(h0, .inr (0, fs_30)), (q_1, .inr (1, q_2)), (q_3, .inr (2, [.ref q_4, .int 0])), (q_4, .inl (ca 0, 16, .inl (fun _ => 0))), (q_14, .inl (ca 4, 148, .inr (.inr (.inr (.inr (fun _ => none))))))]) [0, 1, 2, 3, 4] rfl
  replace hD := hD.sub (ws' := [(h0, .inr (0, fs_30)), (q_1, .inr (1, q_2)), (q_3, .inr (2, [.ref q_4, .int 0])), (q_4, .inl (ca 0, 16, .inl (fun _ => 0))), (q_14, .inl (ca 4, 148, .inr (.inr (.inr (.inr (fun _ => none))))))]) [0, 1, 2, 3, 4] (by decide) rfl
  refine m_put M (fs := fs_30) (wt := [(q_1, .inr (1, q_2)), (q_3, .inr (2, [.ref q_4, .int 0])), (q_4, .inl (ca 0, 16, .inl (fun _ => 0))), (q_14, .inl (ca 4, 148, .inr (.inr (.inr (.inr (fun _ => none))))))]) (k := 42) (ty := .object "SourceBackModel$Ints") hP hD hS hlen (by decide) xm_111 rfl rfl (by decide +kernel) rfl rfl d_MM_init_314 ?_
  clear hP hD hS hlen
  intro H locs hlen hP hD hS
  obtain ⟨fs_31, e_31⟩ : ∃ z, z = fs_30.set 42 (.ref q_43) := ⟨_, rfl⟩
  rw [← e_31] at hP hD hlen
  replace hP : va_P (dC, dI) classes [(h0, .inr (0, fs_31)), (q_1, .inr (1, q_2)), (q_3, .inr (2, [.ref q_4, .int 0])), (q_4, .inl (ca 0, 16, .inl (fun _ => 0))), (q_14, .inl (ca 4, 148, .inr (.inr (.inr (.inr (fun _ => none))))))] H := hP
  replace hD : va_D A [(h0, .inr (0, fs_31)), (q_1, .inr (1, q_2)), (q_3, .inr (2, [.ref q_4, .int 0])), (q_4, .inl (ca 0, 16, .inl (fun _ => 0))), (q_14, .inl (ca 4, 148, .inr (.inr (.inr (.inr (fun _ => none))))))] := hD
  refine lv_aload_n hx hb d_MM_init_317 rfl (lv_at hl 0 rfl) ?_
  refine m_new M (wt := [(q_1, .inr (1, q_2)), (q_3, .inr (2, [.ref q_4, .int 0])), (q_4, .inl (ca 0, 16, .inl (fun _ => 0))), (q_14, .inl (ca 4, 148, .inr (.inr (.inr (.inr (fun _ => none))))))]) (ci := 3) (C := R_MI) (T := F_MI) (N := 2) (f0 := [.null, .int 0]) hP hD hS i_MI t_MI_ok xm_32 xm_33 xm_3 rfl (by decide +kernel) (Nat.le_of_ble_eq_true rfl) (Nat.le_of_ble_eq_true rfl) d_MM_init_318 d_MM_init_321 ?_
  clear hP hD hS
  intro q_45 H hP hD hS
  replace hP : va_P (dC, dI) classes [(h0, .inr (0, fs_31)), (q_1, .inr (1, q_2)), (q_3, .inr (2, [.ref q_4, .int 0])), (q_4, .inl (ca 0, 16, .inl (fun _ => 0))), (q_14, .inl (ca 4, 148, .inr (.inr (.inr (.inr (fun _ => none)))))), (q_45, .inr (3, [.null, .int 0]))] H := hP
  replace hD : va_D A [(h0, .inr (0, fs_31)), (q_1, .inr (1, q_2)), (q_3, .inr (2, [.ref q_4, .int 0])), (q_4, .inl (ca 0, 16, .inl (fun _ => 0))), (q_14, .inl (ca 4, 148, .inr (.inr (.inr (.inr (fun _ => none)))))), (q_45, .inr (3, [.null, .int 0]))] := hD
  refine W.widen (k := 63) (n := 524634) (Nat.le_of_ble_eq_true rfl) (Nat.le_of_ble_eq_true rfl) ?_
  refine lv_iconst (v := 4) hx hb d_MM_init_322 (by decide) ?_
  refine ax_I (k := 1) (As := [.int 4]) (rest := [.ref q_45, .ref h0]) (wr := [(h0, .inr (0, fs_31)), (q_1, .inr (1, q_2)), (q_3, .inr (2, [.ref q_4, .int 0])), (q_4, .inl (ca 0, 16, .inl (fun _ => 0))), (q_14, .inl (ca 4, 148, .inr (.inr (.inr (.inr (fun _ => none))))))]) rfl hx hb hml hown hts g_wm (mK_bl dC dI ca) (c_MI_init l dC dI ca q_45) rfl xm_34 xm_35 xm_3 xm_36 (by decide +kernel) rfl (Nat.le_of_ble_eq_true rfl) (Nat.le_of_ble_eq_true rfl) hl.1 (Nat.le_of_ble_eq_true rfl) (mK_up hK) hP hD hS hA [5] [0, 1, 2, 3, 4] rfl (by decide) rfl rfl (by decide) (by decide) (Nat.le_of_ble_eq_true rfl) (Nat.le_of_ble_eq_true rfl) d_MM_init_323 ?_
  clear hP hD hS
  intro v q_46 H locs hp hP hD hS
  obtain rfl : v = none := hp
  replace hP : va_P (dC, dI) classes [(h0, .inr (0, fs_31)), (q_1, .inr (1, q_2)), (q_3, .inr (2, [.ref q_4, .int 0])), (q_4, .inl (ca 0, 16, .inl (fun _ => 0))), (q_14, .inl (ca 4, 148, .inr (.inr (.inr (.inr (fun _ => none)))))), (q_45, .inr (3, [.ref q_46, .int 0])), (q_46, .inl (ca 1, 4, .inl (fun _ => 0)))] H := hP
  replace hD : va_D A [(h0, .inr (0, fs_31)), (q_1, .inr (1, q_2)), (q_3, .inr (2, [.ref q_4, .int 0])), (q_4, .inl (ca 0, 16, .inl (fun _ => 0))), (q_14, .inl (ca 4, 148, .inr (.inr (.inr (.inr (fun _ => none)))))), (q_45, .inr (3, [.ref q_46, .int 0])), (q_46, .inl (ca 1, 4, .inl (fun _ => 0)))] := hD
  refine W.eq (g2 := F0 m 326 ls [.ref q_45, .ref h0]) rfl ?_
  refine W.widen (k := 64) (n := 524638) (Nat.le_of_ble_eq_true rfl) (Nat.le_of_ble_eq_true rfl) ?_
  replace hP := hP.sub (ws' := [(h0, .inr (0, fs_31)), (q_1, .inr (1, q_2)), (q_3, .inr (2, [.ref q_4, .int 0])), (q_4, .inl (ca 0, 16, .inl (fun _ => 0))), (q_14, .inl (ca 4, 148, .inr (.inr (.inr (.inr (fun _ => none))))))]) [0, 1, 2, 3, 4] rfl
  replace hD := hD.sub (ws' := [(h0, .inr (0, fs_31)), (q_1, .inr (1, q_2)), (q_3, .inr (2, [.ref q_4, .int 0])), (q_4, .inl (ca 0, 16, .inl (fun _ => 0))), (q_14, .inl (ca 4, 148, .inr (.inr (.inr (.inr (fun _ => none))))))]) [0, 1, 2, 3, 4] (by decide) rfl
  refine m_put M (fs := fs_31) (wt := [(q_1, .inr (1, q_2)), (q_3, .inr (2, [.ref q_4, .int 0])), (q_4, .inl (ca 0, 16, .inl (fun _ => 0))), (q_14, .inl (ca 4, 148, .inr (.inr (.inr (.inr (fun _ => none))))))]) (k := 43) (ty := .object "SourceBackModel$Ints") hP hD hS hlen (by decide) xm_112 rfl rfl (by decide +kernel) rfl rfl d_MM_init_326 ?_
  clear hP hD hS hlen
  intro H locs hlen hP hD hS
  obtain ⟨fs_32, e_32⟩ : ∃ z, z = fs_31.set 43 (.ref q_45) := ⟨_, rfl⟩
  rw [← e_32] at hP hD hlen
  replace hP : va_P (dC, dI) classes [(h0, .inr (0, fs_32)), (q_1, .inr (1, q_2)), (q_3, .inr (2, [.ref q_4, .int 0])), (q_4, .inl (ca 0, 16, .inl (fun _ => 0))), (q_14, .inl (ca 4, 148, .inr (.inr (.inr (.inr (fun _ => none))))))] H := hP
  replace hD : va_D A [(h0, .inr (0, fs_32)), (q_1, .inr (1, q_2)), (q_3, .inr (2, [.ref q_4, .int 0])), (q_4, .inl (ca 0, 16, .inl (fun _ => 0))), (q_14, .inl (ca 4, 148, .inr (.inr (.inr (.inr (fun _ => none))))))] := hD
  refine lv_aload_n hx hb d_MM_init_329 rfl (lv_at hl 0 rfl) ?_
  refine m_new M (wt := [(q_1, .inr (1, q_2)), (q_3, .inr (2, [.ref q_4, .int 0])), (q_4, .inl (ca 0, 16, .inl (fun _ => 0))), (q_14, .inl (ca 4, 148, .inr (.inr (.inr (.inr (fun _ => none))))))]) (ci := 3) (C := R_MI) (T := F_MI) (N := 2) (f0 := [.null, .int 0]) hP hD hS i_MI t_MI_ok xm_32 xm_33 xm_3 rfl (by decide +kernel) (Nat.le_of_ble_eq_true rfl) (Nat.le_of_ble_eq_true rfl) d_MM_init_330 d_MM_init_333 ?_
  clear hP hD hS
  intro q_47 H hP hD hS
  replace hP : va_P (dC, dI) classes [(h0, .inr (0, fs_32)), (q_1, .inr (1, q_2)), (q_3, .inr (2, [.ref q_4, .int 0])), (q_4, .inl (ca 0, 16, .inl (fun _ => 0))), (q_14, .inl (ca 4, 148, .inr (.inr (.inr (.inr (fun _ => none)))))), (q_47, .inr (3, [.null, .int 0]))] H := hP
  replace hD : va_D A [(h0, .inr (0, fs_32)), (q_1, .inr (1, q_2)), (q_3, .inr (2, [.ref q_4, .int 0])), (q_4, .inl (ca 0, 16, .inl (fun _ => 0))), (q_14, .inl (ca 4, 148, .inr (.inr (.inr (.inr (fun _ => none)))))), (q_47, .inr (3, [.null, .int 0]))] := hD
  refine W.widen (k := 65) (n := 524640) (Nat.le_of_ble_eq_true rfl) (Nat.le_of_ble_eq_true rfl) ?_
  refine lv_iconst (v := 4) hx hb d_MM_init_334 (by decide) ?_
  refine ax_I (k := 1) (As := [.int 4]) (rest := [.ref q_47, .ref h0]) (wr := [(h0, .inr (0, fs_32)), (q_1, .inr (1, q_2)), (q_3, .inr (2, [.ref q_4, .int 0])), (q_4, .inl (ca 0, 16, .inl (fun _ => 0))), (q_14, .inl (ca 4, 148, .inr (.inr (.inr (.inr (fun _ => none))))))]) rfl hx hb hml hown hts g_wm (mK_bl dC dI ca) (c_MI_init l dC dI ca q_47) rfl xm_34 xm_35 xm_3 xm_36 (by decide +kernel) rfl (Nat.le_of_ble_eq_true rfl) (Nat.le_of_ble_eq_true rfl) hl.1 (Nat.le_of_ble_eq_true rfl) (mK_up hK) hP hD hS hA [5] [0, 1, 2, 3, 4] rfl (by decide) rfl rfl (by decide) (by decide) (Nat.le_of_ble_eq_true rfl) (Nat.le_of_ble_eq_true rfl) d_MM_init_335 ?_
  clear hP hD hS
  intro v q_48 H locs hp hP hD hS
  obtain rfl : v = none := hp
  replace hP : va_P (dC, dI) classes [(h0, .inr (0, fs_32)), (q_1, .inr (1, q_2)), (q_3, .inr (2, [.ref q_4, .int 0])), (q_4, .inl (ca 0, 16, .inl (fun _ => 0))), (q_14, .inl (ca 4, 148, .inr (.inr (.inr (.inr (fun _ => none)))))), (q_47, .inr (3, [.ref q_48, .int 0])), (q_48, .inl (ca 1, 4, .inl (fun _ => 0)))] H := hP
  replace hD : va_D A [(h0, .inr (0, fs_32)), (q_1, .inr (1, q_2)), (q_3, .inr (2, [.ref q_4, .int 0])), (q_4, .inl (ca 0, 16, .inl (fun _ => 0))), (q_14, .inl (ca 4, 148, .inr (.inr (.inr (.inr (fun _ => none)))))), (q_47, .inr (3, [.ref q_48, .int 0])), (q_48, .inl (ca 1, 4, .inl (fun _ => 0)))] := hD
  refine W.eq (g2 := F0 m 338 ls [.ref q_47, .ref h0]) rfl ?_
  refine W.widen (k := 66) (n := 524644) (Nat.le_of_ble_eq_true rfl) (Nat.le_of_ble_eq_true rfl) ?_
  replace hP := hP.sub (ws' := [(h0, .inr (0, fs_32)), (q_1, .inr (1, q_2)), (q_3, .inr (2, [.ref q_4, .int 0])), (q_4, .inl (ca 0, 16, .inl (fun _ => 0))), (q_14, .inl (ca 4, 148, .inr (.inr (.inr (.inr (fun _ => none))))))]) [0, 1, 2, 3, 4] rfl
  replace hD := hD.sub (ws' := [(h0, .inr (0, fs_32)), (q_1, .inr (1, q_2)), (q_3, .inr (2, [.ref q_4, .int 0])), (q_4, .inl (ca 0, 16, .inl (fun _ => 0))), (q_14, .inl (ca 4, 148, .inr (.inr (.inr (.inr (fun _ => none))))))]) [0, 1, 2, 3, 4] (by decide) rfl
  refine m_put M (fs := fs_32) (wt := [(q_1, .inr (1, q_2)), (q_3, .inr (2, [.ref q_4, .int 0])), (q_4, .inl (ca 0, 16, .inl (fun _ => 0))), (q_14, .inl (ca 4, 148, .inr (.inr (.inr (.inr (fun _ => none))))))]) (k := 44) (ty := .object "SourceBackModel$Ints") hP hD hS hlen (by decide) xm_113 rfl rfl (by decide +kernel) rfl rfl d_MM_init_338 ?_
  clear hP hD hS hlen
  intro H locs hlen hP hD hS
  obtain ⟨fs_33, e_33⟩ : ∃ z, z = fs_32.set 44 (.ref q_47) := ⟨_, rfl⟩
  rw [← e_33] at hP hD hlen
  replace hP : va_P (dC, dI) classes [(h0, .inr (0, fs_33)), (q_1, .inr (1, q_2)), (q_3, .inr (2, [.ref q_4, .int 0])), (q_4, .inl (ca 0, 16, .inl (fun _ => 0))), (q_14, .inl (ca 4, 148, .inr (.inr (.inr (.inr (fun _ => none))))))] H := hP
  replace hD : va_D A [(h0, .inr (0, fs_33)), (q_1, .inr (1, q_2)), (q_3, .inr (2, [.ref q_4, .int 0])), (q_4, .inl (ca 0, 16, .inl (fun _ => 0))), (q_14, .inl (ca 4, 148, .inr (.inr (.inr (.inr (fun _ => none))))))] := hD
  refine lv_aload_n hx hb d_MM_init_341 rfl (lv_at hl 0 rfl) ?_
  refine m_new M (wt := [(q_1, .inr (1, q_2)), (q_3, .inr (2, [.ref q_4, .int 0])), (q_4, .inl (ca 0, 16, .inl (fun _ => 0))), (q_14, .inl (ca 4, 148, .inr (.inr (.inr (.inr (fun _ => none))))))]) (ci := 3) (C := R_MI) (T := F_MI) (N := 2) (f0 := [.null, .int 0]) hP hD hS i_MI t_MI_ok xm_32 xm_33 xm_3 rfl (by decide +kernel) (Nat.le_of_ble_eq_true rfl) (Nat.le_of_ble_eq_true rfl) d_MM_init_342 d_MM_init_345 ?_
  clear hP hD hS
  intro q_49 H hP hD hS
  replace hP : va_P (dC, dI) classes [(h0, .inr (0, fs_33)), (q_1, .inr (1, q_2)), (q_3, .inr (2, [.ref q_4, .int 0])), (q_4, .inl (ca 0, 16, .inl (fun _ => 0))), (q_14, .inl (ca 4, 148, .inr (.inr (.inr (.inr (fun _ => none)))))), (q_49, .inr (3, [.null, .int 0]))] H := hP
  replace hD : va_D A [(h0, .inr (0, fs_33)), (q_1, .inr (1, q_2)), (q_3, .inr (2, [.ref q_4, .int 0])), (q_4, .inl (ca 0, 16, .inl (fun _ => 0))), (q_14, .inl (ca 4, 148, .inr (.inr (.inr (.inr (fun _ => none)))))), (q_49, .inr (3, [.null, .int 0]))] := hD
  refine W.widen (k := 67) (n := 524646) (Nat.le_of_ble_eq_true rfl) (Nat.le_of_ble_eq_true rfl) ?_
  refine lv_iconst (v := 4) hx hb d_MM_init_346 (by decide) ?_
  refine ax_I (k := 1) (As := [.int 4]) (rest := [.ref q_49, .ref h0]) (wr := [(h0, .inr (0, fs_33)), (q_1, .inr (1, q_2)), (q_3, .inr (2, [.ref q_4, .int 0])), (q_4, .inl (ca 0, 16, .inl (fun _ => 0))), (q_14, .inl (ca 4, 148, .inr (.inr (.inr (.inr (fun _ => none))))))]) rfl hx hb hml hown hts g_wm (mK_bl dC dI ca) (c_MI_init l dC dI ca q_49) rfl xm_34 xm_35 xm_3 xm_36 (by decide +kernel) rfl (Nat.le_of_ble_eq_true rfl) (Nat.le_of_ble_eq_true rfl) hl.1 (Nat.le_of_ble_eq_true rfl) (mK_up hK) hP hD hS hA [5] [0, 1, 2, 3, 4] rfl (by decide) rfl rfl (by decide) (by decide) (Nat.le_of_ble_eq_true rfl) (Nat.le_of_ble_eq_true rfl) d_MM_init_347 ?_
  clear hP hD hS
  intro v q_50 H locs hp hP hD hS
  obtain rfl : v = none := hp
  replace hP : va_P (dC, dI) classes [(h0, .inr (0, fs_33)), (q_1, .inr (1, q_2)), (q_3, .inr (2, [.ref q_4, .int 0])), (q_4, .inl (ca 0, 16, .inl (fun _ => 0))), (q_14, .inl (ca 4, 148, .inr (.inr (.inr (.inr (fun _ => none)))))), (q_49, .inr (3, [.ref q_50, .int 0])), (q_50, .inl (ca 1, 4, .inl (fun _ => 0)))] H := hP
  replace hD : va_D A [(h0, .inr (0, fs_33)), (q_1, .inr (1, q_2)), (q_3, .inr (2, [.ref q_4, .int 0])), (q_4, .inl (ca 0, 16, .inl (fun _ => 0))), (q_14, .inl (ca 4, 148, .inr (.inr (.inr (.inr (fun _ => none)))))), (q_49, .inr (3, [.ref q_50, .int 0])), (q_50, .inl (ca 1, 4, .inl (fun _ => 0)))] := hD
  refine W.eq (g2 := F0 m 350 ls [.ref q_49, .ref h0]) rfl ?_
  refine W.widen (k := 68) (n := 524650) (Nat.le_of_ble_eq_true rfl) (Nat.le_of_ble_eq_true rfl) ?_
  replace hP := hP.sub (ws' := [(h0, .inr (0, fs_33)), (q_1, .inr (1, q_2)), (q_3, .inr (2, [.ref q_4, .int 0])), (q_4, .inl (ca 0, 16, .inl (fun _ => 0))), (q_14, .inl (ca 4, 148, .inr (.inr (.inr (.inr (fun _ => none))))))]) [0, 1, 2, 3, 4] rfl
  replace hD := hD.sub (ws' := [(h0, .inr (0, fs_33)), (q_1, .inr (1, q_2)), (q_3, .inr (2, [.ref q_4, .int 0])), (q_4, .inl (ca 0, 16, .inl (fun _ => 0))), (q_14, .inl (ca 4, 148, .inr (.inr (.inr (.inr (fun _ => none))))))]) [0, 1, 2, 3, 4] (by decide) rfl
  refine m_put M (fs := fs_33) (wt := [(q_1, .inr (1, q_2)), (q_3, .inr (2, [.ref q_4, .int 0])), (q_4, .inl (ca 0, 16, .inl (fun _ => 0))), (q_14, .inl (ca 4, 148, .inr (.inr (.inr (.inr (fun _ => none))))))]) (k := 45) (ty := .object "SourceBackModel$Ints") hP hD hS hlen (by decide) xm_114 rfl rfl (by decide +kernel) rfl rfl d_MM_init_350 ?_
  clear hP hD hS hlen
  intro H locs hlen hP hD hS
  obtain ⟨fs_34, e_34⟩ : ∃ z, z = fs_33.set 45 (.ref q_49) := ⟨_, rfl⟩
  rw [← e_34] at hP hD hlen
  replace hP : va_P (dC, dI) classes [(h0, .inr (0, fs_34)), (q_1, .inr (1, q_2)), (q_3, .inr (2, [.ref q_4, .int 0])), (q_4, .inl (ca 0, 16, .inl (fun _ => 0))), (q_14, .inl (ca 4, 148, .inr (.inr (.inr (.inr (fun _ => none))))))] H := hP
  replace hD : va_D A [(h0, .inr (0, fs_34)), (q_1, .inr (1, q_2)), (q_3, .inr (2, [.ref q_4, .int 0])), (q_4, .inl (ca 0, 16, .inl (fun _ => 0))), (q_14, .inl (ca 4, 148, .inr (.inr (.inr (.inr (fun _ => none))))))] := hD
  refine lv_aload_n hx hb d_MM_init_353 rfl (lv_at hl 0 rfl) ?_
  refine m_new M (wt := [(q_1, .inr (1, q_2)), (q_3, .inr (2, [.ref q_4, .int 0])), (q_4, .inl (ca 0, 16, .inl (fun _ => 0))), (q_14, .inl (ca 4, 148, .inr (.inr (.inr (.inr (fun _ => none))))))]) (ci := 4) (C := R_ML) (T := F_ML) (N := 2) (f0 := [.null, .int 0]) hP hD hS i_ML t_ML_ok xm_69 xm_50 xm_5 rfl (by decide +kernel) (Nat.le_of_ble_eq_true rfl) (Nat.le_of_ble_eq_true rfl) d_MM_init_354 d_MM_init_357 ?_
  clear hP hD hS
  intro q_51 H hP hD hS
  replace hP : va_P (dC, dI) classes [(h0, .inr (0, fs_34)), (q_1, .inr (1, q_2)), (q_3, .inr (2, [.ref q_4, .int 0])), (q_4, .inl (ca 0, 16, .inl (fun _ => 0))), (q_14, .inl (ca 4, 148, .inr (.inr (.inr (.inr (fun _ => none)))))), (q_51, .inr (4, [.null, .int 0]))] H := hP
  replace hD : va_D A [(h0, .inr (0, fs_34)), (q_1, .inr (1, q_2)), (q_3, .inr (2, [.ref q_4, .int 0])), (q_4, .inl (ca 0, 16, .inl (fun _ => 0))), (q_14, .inl (ca 4, 148, .inr (.inr (.inr (.inr (fun _ => none)))))), (q_51, .inr (4, [.null, .int 0]))] := hD
  refine W.widen (k := 69) (n := 524652) (Nat.le_of_ble_eq_true rfl) (Nat.le_of_ble_eq_true rfl) ?_
  refine lv_iconst (v := 4) hx hb d_MM_init_358 (by decide) ?_
  refine ax_I (k := 1) (As := [.int 4]) (rest := [.ref q_51, .ref h0]) (wr := [(h0, .inr (0, fs_34)), (q_1, .inr (1, q_2)), (q_3, .inr (2, [.ref q_4, .int 0])), (q_4, .inl (ca 0, 16, .inl (fun _ => 0))), (q_14, .inl (ca 4, 148, .inr (.inr (.inr (.inr (fun _ => none))))))]) rfl hx hb hml hown hts g_wm (mK_bl dC dI ca) (c_ML_init l dC dI ca q_51) rfl xm_70 xm_52 xm_5 xm_53 (by decide +kernel) rfl (Nat.le_of_ble_eq_true rfl) (Nat.le_of_ble_eq_true rfl) hl.1 (Nat.le_of_ble_eq_true rfl) (mK_up hK) hP hD hS hA [5] [0, 1, 2, 3, 4] rfl (by decide) rfl rfl (by decide) (by decide) (Nat.le_of_ble_eq_true rfl) (Nat.le_of_ble_eq_true rfl) d_MM_init_359 ?_
  clear hP hD hS
  intro v q_52 H locs hp hP hD hS
  obtain rfl : v = none := hp
  replace hP : va_P (dC, dI) classes [(h0, .inr (0, fs_34)), (q_1, .inr (1, q_2)), (q_3, .inr (2, [.ref q_4, .int 0])), (q_4, .inl (ca 0, 16, .inl (fun _ => 0))), (q_14, .inl (ca 4, 148, .inr (.inr (.inr (.inr (fun _ => none)))))), (q_51, .inr (4, [.ref q_52, .int 0])), (q_52, .inl (ca 2, 4, .inr (.inl (fun _ => 0))))] H := hP
  replace hD : va_D A [(h0, .inr (0, fs_34)), (q_1, .inr (1, q_2)), (q_3, .inr (2, [.ref q_4, .int 0])), (q_4, .inl (ca 0, 16, .inl (fun _ => 0))), (q_14, .inl (ca 4, 148, .inr (.inr (.inr (.inr (fun _ => none)))))), (q_51, .inr (4, [.ref q_52, .int 0])), (q_52, .inl (ca 2, 4, .inr (.inl (fun _ => 0))))] := hD
  refine W.eq (g2 := F0 m 362 ls [.ref q_51, .ref h0]) rfl ?_
  refine W.widen (k := 70) (n := 524656) (Nat.le_of_ble_eq_true rfl) (Nat.le_of_ble_eq_true rfl) ?_
  replace hP := hP.sub (ws' := [(h0, .inr (0, fs_34)), (q_1, .inr (1, q_2)), (q_3, .inr (2, [.ref q_4, .int 0])), (q_4, .inl (ca 0, 16, .inl (fun _ => 0))), (q_14, .inl (ca 4, 148, .inr (.inr (.inr (.inr (fun _ => none))))))]) [0, 1, 2, 3, 4] rfl
  replace hD := hD.sub (ws' := [(h0, .inr (0, fs_34)), (q_1, .inr (1, q_2)), (q_3, .inr (2, [.ref q_4, .int 0])), (q_4, .inl (ca 0, 16, .inl (fun _ => 0))), (q_14, .inl (ca 4, 148, .inr (.inr (.inr (.inr (fun _ => none))))))]) [0, 1, 2, 3, 4] (by decide) rfl
  refine m_put M (fs := fs_34) (wt := [(q_1, .inr (1, q_2)), (q_3, .inr (2, [.ref q_4, .int 0])), (q_4, .inl (ca 0, 16, .inl (fun _ => 0))), (q_14, .inl (ca 4, 148, .inr (.inr (.inr (.inr (fun _ => none))))))]) (k := 46) (ty := .object "SourceBackModel$Longs") hP hD hS hlen (by decide) xm_115 rfl rfl (by decide +kernel) rfl rfl d_MM_init_362 ?_
  clear hP hD hS hlen
  intro H locs hlen hP hD hS
  obtain ⟨fs_35, e_35⟩ : ∃ z, z = fs_34.set 46 (.ref q_51) := ⟨_, rfl⟩
  rw [← e_35] at hP hD hlen
  replace hP : va_P (dC, dI) classes [(h0, .inr (0, fs_35)), (q_1, .inr (1, q_2)), (q_3, .inr (2, [.ref q_4, .int 0])), (q_4, .inl (ca 0, 16, .inl (fun _ => 0))), (q_14, .inl (ca 4, 148, .inr (.inr (.inr (.inr (fun _ => none))))))] H := hP
  replace hD : va_D A [(h0, .inr (0, fs_35)), (q_1, .inr (1, q_2)), (q_3, .inr (2, [.ref q_4, .int 0])), (q_4, .inl (ca 0, 16, .inl (fun _ => 0))), (q_14, .inl (ca 4, 148, .inr (.inr (.inr (.inr (fun _ => none))))))] := hD
  subst e_35 e_34 e_33 e_32 e_31
  exact kk q_43 q_45 q_47 q_49 q_51 H locs hlen hP hD hS
set_option maxHeartbeats 4000000 in
set_option maxRecDepth 100000 in
theorem mi_35 {p : Program} {l : Launch} {e : Env} {s : State} {m : MethodId} {args : Array Value} {below : List Frame} {meth : Method} {c : Code} {H : Heap} {locs : List Loc} {Q : State → Prop} {dC : Nat → ClassId} {dI : Nat → Nat → Nat} {ca : Nat → ClassId} {A : Nat → Prop} {ls : Array Slot} {h0 : Nat} {sa : Nat → Nat} (M : mC p s m args meth c dC dI ca A ls h0) (hks : ∀ (i : Nat) (z : Nat × String), strs[i]? = some z → vk_R R_MM z.1 z.2 (sa i) s ∧ va_Any "java/lang/String" s s.heap (sa i) ∧ sa i ≠ h0) (hnA : ∀ (i : Nat) (z : Nat × String), strs[i]? = some z → ¬ A (sa i)) {fs_35 : List Value} {q_1 : Nat} {q_2 : List Value} {q_3 : Nat} {q_4 : Nat} {q_14 : Nat} (hP : va_P (dC, dI) classes ((h0, .inr (0, fs_35)) :: [(q_1, .inr (1, q_2)), (q_3, .inr (2, [.ref q_4, .int 0])), (q_4, .inl (ca 0, 16, .inl (fun _ => 0))), (q_14, .inl (ca 4, 148, .inr (.inr (.inr (.inr (fun _ => none))))))]) H) (hD : va_D A ((h0, .inr (0, fs_35)) :: [(q_1, .inr (1, q_2)), (q_3, .inr (2, [.ref q_4, .int 0])), (q_4, .inl (ca 0, 16, .inl (fun _ => 0))), (q_14, .inl (ca 4, 148, .inr (.inr (.inr (.inr (fun _ => none))))))])) (hS : va_S A s.heap H locs) (hlen : fs_35.length = 132)
    (kk : ∀ (q_53 q_55 q_57 q_59 q_61 : Nat) (H : Heap) (locs : List Loc), (((((fs_35.set 47 (.ref q_53)).set 48 (.ref q_55)).set 49 (.ref q_57)).set 50 (.ref q_59)).set 51 (.ref q_61)).length = 132 → va_P (dC, dI) classes ((h0, .inr (0, ((((fs_35.set 47 (.ref q_53)).set 48 (.ref q_55)).set 49 (.ref q_57)).set 50 (.ref q_59)).set 51 (.ref q_61))) :: [(q_1, .inr (1, q_2)), (q_3, .inr (2, [.ref q_4, .int 0])), (q_4, .inl (ca 0, 16, .inl (fun _ => 0))), (q_14, .inl (ca 4, 148, .inr (.inr (.inr (.inr (fun _ => none))))))]) H → va_D A ((h0, .inr (0, ((((fs_35.set 47 (.ref q_53)).set 48 (.ref q_55)).set 49 (.ref q_57)).set 50 (.ref q_59)).set 51 (.ref q_61))) :: [(q_1, .inr (1, q_2)), (q_3, .inr (2, [.ref q_4, .int 0])), (q_4, .inl (ca 0, 16, .inl (fun _ => 0))), (q_14, .inl (ca 4, 148, .inr (.inr (.inr (.inr (fun _ => none))))))]) → va_S A s.heap H locs → W p l e ({ frames := 7, cells := 166, slots := 640022, locals := 100 }) s m args below meth c H locs 80 524686 Q (F0 m 425 ls [])) :
    W p l e ({ frames := 7, cells := 166, slots := 640022, locals := 100 }) s m args below meth c H locs 70 524656 Q (F0 m 365 ls []) := by
  obtain ⟨hx, hb, hml, hown, hts, hin, hK, hA, hl⟩ := id M
  refine lv_aload_n hx hb d_MM_init_365 rfl (lv_at hl 0 rfl) ?_
  refine m_new M (wt := [(q_1, .inr (1, q_2)), (q_3, .inr (2, [.ref q_4, .int 0])), (q_4, .inl (ca 0, 16, .inl (fun _ => 0))), (q_14, .inl (ca 4, 148, .inr (.inr (.inr (.inr (fun _ => none))))))]) (ci := 3) (C := R_MI) (T := F_MI) (N := 2) (f0 := [.null, .int 0]) hP hD hS i_MI t_MI_ok xm_32 xm_33 xm_3 rfl (by decide +kernel) (Nat.le_of_ble_eq_true rfl) (Nat.le_of_ble_eq_true rfl) d_MM_init_366 d_MM_init_369 ?_
  clear hP hD hS
  intro q_53 H hP hD hS
  replace hP : va_P (dC, dI) classes [(h0, .inr (0, fs_35)), (q_1, .inr (1, q_2)), (q_3, .inr (2, [.ref q_4, .int 0])), (q_4, .inl (ca 0, 16, .inl (fun _ => 0))), (q_14, .inl (ca 4, 148, .inr (.inr (.inr (.inr (fun _ => none)))))), (q_53, .inr (3, [.null, .int 0]))] H := hP
  replace hD : va_D A [(h0, .inr (0, fs_35)), (q_1, .inr (1, q_2)), (q_3, .inr (2, [.ref q_4, .int 0])), (q_4, .inl (ca 0, 16, .inl (fun _ => 0))), (q_14, .inl (ca 4, 148, .inr (.inr (.inr (.inr (fun _ => none)))))), (q_53, .inr (3, [.null, .int 0]))] := hD
  refine W.widen (k := 71) (n := 524658) (Nat.le_of_ble_eq_true rfl) (Nat.le_of_ble_eq_true rfl) ?_
  refine lv_iconst (v := 4) hx hb d_MM_init_370 (by decide) ?_
  refine ax_I (k := 1) (As := [.int 4]) (rest := [.ref q_53, .ref h0]) (wr := [(h0, .inr (0, fs_35)), (q_1, .inr (1, q_2)), (q_3, .inr (2, [.ref q_4, .int 0])), (q_4, .inl (ca 0, 16, .inl (fun _ => 0))), (q_14, .inl (ca 4, 148, .inr (.inr (.inr (.inr (fun _ => none))))))]) rfl hx hb hml hown hts g_wm (mK_bl dC dI ca) (c_MI_init l dC dI ca q_53) rfl xm_34 xm_35 xm_3 xm_36 (by decide +kernel) rfl (Nat.le_of_ble_eq_true rfl) (Nat.le_of_ble_eq_true rfl) hl.1 (Nat.le_of_ble_eq_true rfl) (mK_up hK) hP hD hS hA [5] [0, 1, 2, 3, 4] rfl (by decide) rfl rfl (by decide) (by decide) (Nat.le_of_ble_eq_true rfl) (Nat.le_of_ble_eq_true rfl) d_MM_init_371 ?_
  clear hP hD hS
  intro v q_54 H locs hp hP hD hS
  obtain rfl : v = none := hp
  replace hP : va_P (dC, dI) classes [(h0, .inr (0, fs_35)), (q_1, .inr (1, q_2)), (q_3, .inr (2, [.ref q_4, .int 0])), (q_4, .inl (ca 0, 16, .inl (fun _ => 0))), (q_14, .inl (ca 4, 148, .inr (.inr (.inr (.inr (fun _ => none)))))), (q_53, .inr (3, [.ref q_54, .int 0])), (q_54, .inl (ca 1, 4, .inl (fun _ => 0)))] H := hP
  replace hD : va_D A [(h0, .inr (0, fs_35)), (q_1, .inr (1, q_2)), (q_3, .inr (2, [.ref q_4, .int 0])), (q_4, .inl (ca 0, 16, .inl (fun _ => 0))), (q_14, .inl (ca 4, 148, .inr (.inr (.inr (.inr (fun _ => none)))))), (q_53, .inr (3, [.ref q_54, .int 0])), (q_54, .inl (ca 1, 4, .inl (fun _ => 0)))] := hD
  refine W.eq (g2 := F0 m 374 ls [.ref q_53, .ref h0]) rfl ?_
  refine W.widen (k := 72) (n := 524662) (Nat.le_of_ble_eq_true rfl) (Nat.le_of_ble_eq_true rfl) ?_
  replace hP := hP.sub (ws' := [(h0, .inr (0, fs_35)), (q_1, .inr (1, q_2)), (q_3, .inr (2, [.ref q_4, .int 0])), (q_4, .inl (ca 0, 16, .inl (fun _ => 0))), (q_14, .inl (ca 4, 148, .inr (.inr (.inr (.inr (fun _ => none))))))]) [0, 1, 2, 3, 4] rfl
  replace hD := hD.sub (ws' := [(h0, .inr (0, fs_35)), (q_1, .inr (1, q_2)), (q_3, .inr (2, [.ref q_4, .int 0])), (q_4, .inl (ca 0, 16, .inl (fun _ => 0))), (q_14, .inl (ca 4, 148, .inr (.inr (.inr (.inr (fun _ => none))))))]) [0, 1, 2, 3, 4] (by decide) rfl
  refine m_put M (fs := fs_35) (wt := [(q_1, .inr (1, q_2)), (q_3, .inr (2, [.ref q_4, .int 0])), (q_4, .inl (ca 0, 16, .inl (fun _ => 0))), (q_14, .inl (ca 4, 148, .inr (.inr (.inr (.inr (fun _ => none))))))]) (k := 47) (ty := .object "SourceBackModel$Ints") hP hD hS hlen (by decide) xm_116 rfl rfl (by decide +kernel) rfl rfl d_MM_init_374 ?_
  clear hP hD hS hlen
  intro H locs hlen hP hD hS
  obtain ⟨fs_36, e_36⟩ : ∃ z, z = fs_35.set 47 (.ref q_53) := ⟨_, rfl⟩
  rw [← e_36] at hP hD hlen
  replace hP : va_P (dC, dI) classes [(h0, .inr (0, fs_36)), (q_1, .inr (1, q_2)), (q_3, .inr (2, [.ref q_4, .int 0])), (q_4, .inl (ca 0, 16, .inl (fun _ => 0))), (q_14, .inl (ca 4, 148, .inr (.inr (.inr (.inr (fun _ => none))))))] H := hP
  replace hD : va_D A [(h0, .inr (0, fs_36)), (q_1, .inr (1, q_2)), (q_3, .inr (2, [.ref q_4, .int 0])), (q_4, .inl (ca 0, 16, .inl (fun _ => 0))), (q_14, .inl (ca 4, 148, .inr (.inr (.inr (.inr (fun _ => none))))))] := hD
  refine lv_aload_n hx hb d_MM_init_377 rfl (lv_at hl 0 rfl) ?_
  refine m_new M (wt := [(q_1, .inr (1, q_2)), (q_3, .inr (2, [.ref q_4, .int 0])), (q_4, .inl (ca 0, 16, .inl (fun _ => 0))), (q_14, .inl (ca 4, 148, .inr (.inr (.inr (.inr (fun _ => none))))))]) (ci := 3) (C := R_MI) (T := F_MI) (N := 2) (f0 := [.null, .int 0]) hP hD hS i_MI t_MI_ok xm_32 xm_33 xm_3 rfl (by decide +kernel) (Nat.le_of_ble_eq_true rfl) (Nat.le_of_ble_eq_true rfl) d_MM_init_378 d_MM_init_381 ?_
  clear hP hD hS
  intro q_55 H hP hD hS
  replace hP : va_P (dC, dI) classes [(h0, .inr (0, fs_36)), (q_1, .inr (1, q_2)), (q_3, .inr (2, [.ref q_4, .int 0])), (q_4, .inl (ca 0, 16, .inl (fun _ => 0))), (q_14, .inl (ca 4, 148, .inr (.inr (.inr (.inr (fun _ => none)))))), (q_55, .inr (3, [.null, .int 0]))] H := hP
  replace hD : va_D A [(h0, .inr (0, fs_36)), (q_1, .inr (1, q_2)), (q_3, .inr (2, [.ref q_4, .int 0])), (q_4, .inl (ca 0, 16, .inl (fun _ => 0))), (q_14, .inl (ca 4, 148, .inr (.inr (.inr (.inr (fun _ => none)))))), (q_55, .inr (3, [.null, .int 0]))] := hD
  refine W.widen (k := 73) (n := 524664) (Nat.le_of_ble_eq_true rfl) (Nat.le_of_ble_eq_true rfl) ?_
  refine lv_iconst (v := 4) hx hb d_MM_init_382 (by decide) ?_
  refine ax_I (k := 1) (As := [.int 4]) (rest := [.ref q_55, .ref h0]) (wr := [(h0, .inr (0, fs_36)), (q_1, .inr (1, q_2)), (q_3, .inr (2, [.ref q_4, .int 0])), (q_4, .inl (ca 0, 16, .inl (fun _ => 0))), (q_14, .inl (ca 4, 148, .inr (.inr (.inr (.inr (fun _ => none))))))]) rfl hx hb hml hown hts g_wm (mK_bl dC dI ca) (c_MI_init l dC dI ca q_55) rfl xm_34 xm_35 xm_3 xm_36 (by decide +kernel) rfl (Nat.le_of_ble_eq_true rfl) (Nat.le_of_ble_eq_true rfl) hl.1 (Nat.le_of_ble_eq_true rfl) (mK_up hK) hP hD hS hA [5] [0, 1, 2, 3, 4] rfl (by decide) rfl rfl (by decide) (by decide) (Nat.le_of_ble_eq_true rfl) (Nat.le_of_ble_eq_true rfl) d_MM_init_383 ?_
  clear hP hD hS
  intro v q_56 H locs hp hP hD hS
  obtain rfl : v = none := hp
  replace hP : va_P (dC, dI) classes [(h0, .inr (0, fs_36)), (q_1, .inr (1, q_2)), (q_3, .inr (2, [.ref q_4, .int 0])), (q_4, .inl (ca 0, 16, .inl (fun _ => 0))), (q_14, .inl (ca 4, 148, .inr (.inr (.inr (.inr (fun _ => none)))))), (q_55, .inr (3, [.ref q_56, .int 0])), (q_56, .inl (ca 1, 4, .inl (fun _ => 0)))] H := hP
  replace hD : va_D A [(h0, .inr (0, fs_36)), (q_1, .inr (1, q_2)), (q_3, .inr (2, [.ref q_4, .int 0])), (q_4, .inl (ca 0, 16, .inl (fun _ => 0))), (q_14, .inl (ca 4, 148, .inr (.inr (.inr (.inr (fun _ => none)))))), (q_55, .inr (3, [.ref q_56, .int 0])), (q_56, .inl (ca 1, 4, .inl (fun _ => 0)))] := hD
  refine W.eq (g2 := F0 m 386 ls [.ref q_55, .ref h0]) rfl ?_
  refine W.widen (k := 74) (n := 524668) (Nat.le_of_ble_eq_true rfl) (Nat.le_of_ble_eq_true rfl) ?_
  replace hP := hP.sub (ws' := [(h0, .inr (0, fs_36)), (q_1, .inr (1, q_2)), (q_3, .inr (2, [.ref q_4, .int 0])), (q_4, .inl (ca 0, 16, .inl (fun _ => 0))), (q_14, .inl (ca 4, 148, .inr (.inr (.inr (.inr (fun _ => none))))))]) [0, 1, 2, 3, 4] rfl
  replace hD := hD.sub (ws' := [(h0, .inr (0, fs_36)), (q_1, .inr (1, q_2)), (q_3, .inr (2, [.ref q_4, .int 0])), (q_4, .inl (ca 0, 16, .inl (fun _ => 0))), (q_14, .inl (ca 4, 148, .inr (.inr (.inr (.inr (fun _ => none))))))]) [0, 1, 2, 3, 4] (by decide) rfl
  refine m_put M (fs := fs_36) (wt := [(q_1, .inr (1, q_2)), (q_3, .inr (2, [.ref q_4, .int 0])), (q_4, .inl (ca 0, 16, .inl (fun _ => 0))), (q_14, .inl (ca 4, 148, .inr (.inr (.inr (.inr (fun _ => none))))))]) (k := 48) (ty := .object "SourceBackModel$Ints") hP hD hS hlen (by decide) xm_117 rfl rfl (by decide +kernel) rfl rfl d_MM_init_386 ?_
  clear hP hD hS hlen
  intro H locs hlen hP hD hS
  obtain ⟨fs_37, e_37⟩ : ∃ z, z = fs_36.set 48 (.ref q_55) := ⟨_, rfl⟩
  rw [← e_37] at hP hD hlen
  replace hP : va_P (dC, dI) classes [(h0, .inr (0, fs_37)), (q_1, .inr (1, q_2)), (q_3, .inr (2, [.ref q_4, .int 0])), (q_4, .inl (ca 0, 16, .inl (fun _ => 0))), (q_14, .inl (ca 4, 148, .inr (.inr (.inr (.inr (fun _ => none))))))] H := hP
  replace hD : va_D A [(h0, .inr (0, fs_37)), (q_1, .inr (1, q_2)), (q_3, .inr (2, [.ref q_4, .int 0])), (q_4, .inl (ca 0, 16, .inl (fun _ => 0))), (q_14, .inl (ca 4, 148, .inr (.inr (.inr (.inr (fun _ => none))))))] := hD
  refine lv_aload_n hx hb d_MM_init_389 rfl (lv_at hl 0 rfl) ?_
  refine m_new M (wt := [(q_1, .inr (1, q_2)), (q_3, .inr (2, [.ref q_4, .int 0])), (q_4, .inl (ca 0, 16, .inl (fun _ => 0))), (q_14, .inl (ca 4, 148, .inr (.inr (.inr (.inr (fun _ => none))))))]) (ci := 3) (C := R_MI) (T := F_MI) (N := 2) (f0 := [.null, .int 0]) hP hD hS i_MI t_MI_ok xm_32 xm_33 xm_3 rfl (by decide +kernel) (Nat.le_of_ble_eq_true rfl) (Nat.le_of_ble_eq_true rfl) d_MM_init_390 d_MM_init_393 ?_
  clear hP hD hS
  intro q_57 H hP hD hS
  replace hP : va_P (dC, dI) classes [(h0, .inr (0, fs_37)), (q_1, .inr (1, q_2)), (q_3, .inr (2, [.ref q_4, .int 0])), (q_4, .inl (ca 0, 16, .inl (fun _ => 0))), (q_14, .inl (ca 4, 148, .inr (.inr (.inr (.inr (fun _ => none)))))), (q_57, .inr (3, [.null, .int 0]))] H := hP
  replace hD : va_D A [(h0, .inr (0, fs_37)), (q_1, .inr (1, q_2)), (q_3, .inr (2, [.ref q_4, .int 0])), (q_4, .inl (ca 0, 16, .inl (fun _ => 0))), (q_14, .inl (ca 4, 148, .inr (.inr (.inr (.inr (fun _ => none)))))), (q_57, .inr (3, [.null, .int 0]))] := hD
  refine W.widen (k := 75) (n := 524670) (Nat.le_of_ble_eq_true rfl) (Nat.le_of_ble_eq_true rfl) ?_
  refine lv_iconst (v := 4) hx hb d_MM_init_394 (by decide) ?_
  refine ax_I (k := 1) (As := [.int 4]) (rest := [.ref q_57, .ref h0]) (wr := [(h0, .inr (0, fs_37)), (q_1, .inr (1, q_2)), (q_3, .inr (2, [.ref q_4, .int 0])), (q_4, .inl (ca 0, 16, .inl (fun _ => 0))), (q_14, .inl (ca 4, 148, .inr (.inr (.inr (.inr (fun _ => none))))))]) rfl hx hb hml hown hts g_wm (mK_bl dC dI ca) (c_MI_init l dC dI ca q_57) rfl xm_34 xm_35 xm_3 xm_36 (by decide +kernel) rfl (Nat.le_of_ble_eq_true rfl) (Nat.le_of_ble_eq_true rfl) hl.1 (Nat.le_of_ble_eq_true rfl) (mK_up hK) hP hD hS hA [5] [0, 1, 2, 3, 4] rfl (by decide) rfl rfl (by decide) (by decide) (Nat.le_of_ble_eq_true rfl) (Nat.le_of_ble_eq_true rfl) d_MM_init_395 ?_
  clear hP hD hS
  intro v q_58 H locs hp hP hD hS
  obtain rfl : v = none := hp
  replace hP : va_P (dC, dI) classes [(h0, .inr (0, fs_37)), (q_1, .inr (1, q_2)), (q_3, .inr (2, [.ref q_4, .int 0])), (q_4, .inl (ca 0, 16, .inl (fun _ => 0))), (q_14, .inl (ca 4, 148, .inr (.inr (.inr (.inr (fun _ => none)))))), (q_57, .inr (3, [.ref q_58, .int 0])), (q_58, .inl (ca 1, 4, .inl (fun _ => 0)))] H := hP
  replace hD : va_D A [(h0, .inr (0, fs_37)), (q_1, .inr (1, q_2)), (q_3, .inr (2, [.ref q_4, .int 0])), (q_4, .inl (ca 0, 16, .inl (fun _ => 0))), (q_14, .inl (ca 4, 148, .inr (.inr (.inr (.inr (fun _ => none)))))), (q_57, .inr (3, [.ref q_58, .int 0])), (q_58, .inl (ca 1, 4, .inl (fun _ => 0)))] := hD
  refine W.eq (g2 := F0 m 398 ls [.ref q_57, .ref h0]) rfl ?_
  refine W.widen (k := 76) (n := 524674) (Nat.le_of_ble_eq_true rfl) (Nat.le_of_ble_eq_true rfl) ?_
  replace hP := hP.sub (ws' := [(h0, .inr (0, fs_37)), (q_1, .inr (1, q_2)), (q_3, .inr (2, [.ref q_4, .int 0])), (q_4, .inl (ca 0, 16, .inl (fun _ => 0))), (q_14, .inl (ca 4, 148, .inr (.inr (.inr (.inr (fun _ => none))))))]) [0, 1, 2, 3, 4] rfl
  replace hD := hD.sub (ws' := [(h0, .inr (0, fs_37)), (q_1, .inr (1, q_2)), (q_3, .inr (2, [.ref q_4, .int 0])), (q_4, .inl (ca 0, 16, .inl (fun _ => 0))), (q_14, .inl (ca 4, 148, .inr (.inr (.inr (.inr (fun _ => none))))))]) [0, 1, 2, 3, 4] (by decide) rfl
  refine m_put M (fs := fs_37) (wt := [(q_1, .inr (1, q_2)), (q_3, .inr (2, [.ref q_4, .int 0])), (q_4, .inl (ca 0, 16, .inl (fun _ => 0))), (q_14, .inl (ca 4, 148, .inr (.inr (.inr (.inr (fun _ => none))))))]) (k := 49) (ty := .object "SourceBackModel$Ints") hP hD hS hlen (by decide) xm_118 rfl rfl (by decide +kernel) rfl rfl d_MM_init_398 ?_
  clear hP hD hS hlen
  intro H locs hlen hP hD hS
  obtain ⟨fs_38, e_38⟩ : ∃ z, z = fs_37.set 49 (.ref q_57) := ⟨_, rfl⟩
  rw [← e_38] at hP hD hlen
  replace hP : va_P (dC, dI) classes [(h0, .inr (0, fs_38)), (q_1, .inr (1, q_2)), (q_3, .inr (2, [.ref q_4, .int 0])), (q_4, .inl (ca 0, 16, .inl (fun _ => 0))), (q_14, .inl (ca 4, 148, .inr (.inr (.inr (.inr (fun _ => none))))))] H := hP
  replace hD : va_D A [(h0, .inr (0, fs_38)), (q_1, .inr (1, q_2)), (q_3, .inr (2, [.ref q_4, .int 0])), (q_4, .inl (ca 0, 16, .inl (fun _ => 0))), (q_14, .inl (ca 4, 148, .inr (.inr (.inr (.inr (fun _ => none))))))] := hD
  refine lv_aload_n hx hb d_MM_init_401 rfl (lv_at hl 0 rfl) ?_
  refine m_new M (wt := [(q_1, .inr (1, q_2)), (q_3, .inr (2, [.ref q_4, .int 0])), (q_4, .inl (ca 0, 16, .inl (fun _ => 0))), (q_14, .inl (ca 4, 148, .inr (.inr (.inr (.inr (fun _ => none))))))]) (ci := 3) (C := R_MI) (T := F_MI) (N := 2) (f0 := [.null, .int 0]) hP hD hS i_MI t_MI_ok xm_32 xm_33 xm_3 rfl (by decide +kernel) (Nat.le_of_ble_eq_true rfl) (Nat.le_of_ble_eq_true rfl) d_MM_init_402 d_MM_init_405 ?_
  clear hP hD hS
  intro q_59 H hP hD hS
  replace hP : va_P (dC, dI) classes [(h0, .inr (0, fs_38)), (q_1, .inr (1, q_2)), (q_3, .inr (2, [.ref q_4, .int 0])), (q_4, .inl (ca 0, 16, .inl (fun _ => 0))), (q_14, .inl (ca 4, 148, .inr (.inr (.inr (.inr (fun _ => none)))))), (q_59, .inr (3, [.null, .int 0]))] H := hP
  replace hD : va_D A [(h0, .inr (0, fs_38)), (q_1, .inr (1, q_2)), (q_3, .inr (2, [.ref q_4, .int 0])), (q_4, .inl (ca 0, 16, .inl (fun _ => 0))), (q_14, .inl (ca 4, 148, .inr (.inr (.inr (.inr (fun _ => none)))))), (q_59, .inr (3, [.null, .int 0]))] := hD
  refine W.widen (k := 77) (n := 524676) (Nat.le_of_ble_eq_true rfl) (Nat.le_of_ble_eq_true rfl) ?_
  refine lv_iconst (v := 4) hx hb d_MM_init_406 (by decide) ?_
  refine ax_I (k := 1) (As := [.int 4]) (rest := [.ref q_59, .ref h0]) (wr := [(h0, .inr (0, fs_38)), (q_1, .inr (1, q_2)), (q_3, .inr (2, [.ref q_4, .int 0])), (q_4, .inl (ca 0, 16, .inl (fun _ => 0))), (q_14, .inl (ca 4, 148, .inr (.inr (.inr (.inr (fun _ => none))))))]) rfl hx hb hml hown hts g_wm (mK_bl dC dI ca) (c_MI_init l dC dI ca q_59) rfl xm_34 xm_35 xm_3 xm_36 (by decide +kernel) rfl (Nat.le_of_ble_eq_true rfl) (Nat.le_of_ble_eq_true rfl) hl.1 (Nat.le_of_ble_eq_true rfl) (mK_up hK) hP hD hS hA [5] [0, 1, 2, 3, 4] rfl (by decide) rfl rfl (by decide) (by decide) (Nat.le_of_ble_eq_true rfl) (Nat.le_of_ble_eq_true rfl) d_MM_init_407 ?_
  clear hP hD hS
  intro v q_60 H locs hp hP hD hS
  obtain rfl : v = none := hp
  replace hP : va_P (dC, dI) classes [(h0, .inr (0, fs_38)), (q_1, .inr (1, q_2)), (q_3, .inr (2, [.ref q_4, .int 0])), (q_4, .inl (ca 0, 16, .inl (fun _ => 0))), (q_14, .inl (ca 4, 148, .inr (.inr (.inr (.inr (fun _ => none)))))), (q_59, .inr (3, [.ref q_60, .int 0])), (q_60, .inl (ca 1, 4, .inl (fun _ => 0)))] H := hP
  replace hD : va_D A [(h0, .inr (0, fs_38)), (q_1, .inr (1, q_2)), (q_3, .inr (2, [.ref q_4, .int 0])), (q_4, .inl (ca 0, 16, .inl (fun _ => 0))), (q_14, .inl (ca 4, 148, .inr (.inr (.inr (.inr (fun _ => none)))))), (q_59, .inr (3, [.ref q_60, .int 0])), (q_60, .inl (ca 1, 4, .inl (fun _ => 0)))] := hD
  refine W.eq (g2 := F0 m 410 ls [.ref q_59, .ref h0]) rfl ?_
  refine W.widen (k := 78) (n := 524680) (Nat.le_of_ble_eq_true rfl) (Nat.le_of_ble_eq_true rfl) ?_
  replace hP := hP.sub (ws' := [(h0, .inr (0, fs_38)), (q_1, .inr (1, q_2)), (q_3, .inr (2, [.ref q_4, .int 0])), (q_4, .inl (ca 0, 16, .inl (fun _ => 0))), (q_14, .inl (ca 4, 148, .inr (.inr (.inr (.inr (fun _ => none))))))]) [0, 1, 2, 3, 4] rfl
  replace hD := hD.sub (ws' := [(h0, .inr (0, fs_38)), (q_1, .inr (1, q_2)), (q_3, .inr (2, [.ref q_4, .int 0])), (q_4, .inl (ca 0, 16, .inl (fun _ => 0))), (q_14, .inl (ca 4, 148, .inr (.inr (.inr (.inr (fun _ => none))))))]) [0, 1, 2, 3, 4] (by decide) rfl
  refine m_put M (fs := fs_38) (wt := [(q_1, .inr (1, q_2)), (q_3, .inr (2, [.ref q_4, .int 0])), (q_4, .inl (ca 0, 16, .inl (fun _ => 0))), (q_14, .inl (ca 4, 148, .inr (.inr (.inr (.inr (fun _ => none))))))]) (k := 50) (ty := .object "SourceBackModel$Ints") hP hD hS hlen (by decide) xm_119 rfl rfl (by decide +kernel) rfl rfl d_MM_init_410 ?_
  clear hP hD hS hlen
  intro H locs hlen hP hD hS
  obtain ⟨fs_39, e_39⟩ : ∃ z, z = fs_38.set 50 (.ref q_59) := ⟨_, rfl⟩
  rw [← e_39] at hP hD hlen
  replace hP : va_P (dC, dI) classes [(h0, .inr (0, fs_39)), (q_1, .inr (1, q_2)), (q_3, .inr (2, [.ref q_4, .int 0])), (q_4, .inl (ca 0, 16, .inl (fun _ => 0))), (q_14, .inl (ca 4, 148, .inr (.inr (.inr (.inr (fun _ => none))))))] H := hP
  replace hD : va_D A [(h0, .inr (0, fs_39)), (q_1, .inr (1, q_2)), (q_3, .inr (2, [.ref q_4, .int 0])), (q_4, .inl (ca 0, 16, .inl (fun _ => 0))), (q_14, .inl (ca 4, 148, .inr (.inr (.inr (.inr (fun _ => none))))))] := hD
  refine lv_aload_n hx hb d_MM_init_413 rfl (lv_at hl 0 rfl) ?_
  refine m_new M (wt := [(q_1, .inr (1, q_2)), (q_3, .inr (2, [.ref q_4, .int 0])), (q_4, .inl (ca 0, 16, .inl (fun _ => 0))), (q_14, .inl (ca 4, 148, .inr (.inr (.inr (.inr (fun _ => none))))))]) (ci := 3) (C := R_MI) (T := F_MI) (N := 2) (f0 := [.null, .int 0]) hP hD hS i_MI t_MI_ok xm_32 xm_33 xm_3 rfl (by decide +kernel) (Nat.le_of_ble_eq_true rfl) (Nat.le_of_ble_eq_true rfl) d_MM_init_414 d_MM_init_417 ?_
  clear hP hD hS
  intro q_61 H hP hD hS
  replace hP : va_P (dC, dI) classes [(h0, .inr (0, fs_39)), (q_1, .inr (1, q_2)), (q_3, .inr (2, [.ref q_4, .int 0])), (q_4, .inl (ca 0, 16, .inl (fun _ => 0))), (q_14, .inl (ca 4, 148, .inr (.inr (.inr (.inr (fun _ => none)))))), (q_61, .inr (3, [.null, .int 0]))] H := hP
  replace hD : va_D A [(h0, .inr (0, fs_39)), (q_1, .inr (1, q_2)), (q_3, .inr (2, [.ref q_4, .int 0])), (q_4, .inl (ca 0, 16, .inl (fun _ => 0))), (q_14, .inl (ca 4, 148, .inr (.inr (.inr (.inr (fun _ => none)))))), (q_61, .inr (3, [.null, .int 0]))] := hD
  refine W.widen (k := 79) (n := 524682) (Nat.le_of_ble_eq_true rfl) (Nat.le_of_ble_eq_true rfl) ?_
  refine lv_iconst (v := 4) hx hb d_MM_init_418 (by decide) ?_
  refine ax_I (k := 1) (As := [.int 4]) (rest := [.ref q_61, .ref h0]) (wr := [(h0, .inr (0, fs_39)), (q_1, .inr (1, q_2)), (q_3, .inr (2, [.ref q_4, .int 0])), (q_4, .inl (ca 0, 16, .inl (fun _ => 0))), (q_14, .inl (ca 4, 148, .inr (.inr (.inr (.inr (fun _ => none))))))]) rfl hx hb hml hown hts g_wm (mK_bl dC dI ca) (c_MI_init l dC dI ca q_61) rfl xm_34 xm_35 xm_3 xm_36 (by decide +kernel) rfl (Nat.le_of_ble_eq_true rfl) (Nat.le_of_ble_eq_true rfl) hl.1 (Nat.le_of_ble_eq_true rfl) (mK_up hK) hP hD hS hA [5] [0, 1, 2, 3, 4] rfl (by decide) rfl rfl (by decide) (by decide) (Nat.le_of_ble_eq_true rfl) (Nat.le_of_ble_eq_true rfl) d_MM_init_419 ?_
  clear hP hD hS
  intro v q_62 H locs hp hP hD hS
  obtain rfl : v = none := hp
  replace hP : va_P (dC, dI) classes [(h0, .inr (0, fs_39)), (q_1, .inr (1, q_2)), (q_3, .inr (2, [.ref q_4, .int 0])), (q_4, .inl (ca 0, 16, .inl (fun _ => 0))), (q_14, .inl (ca 4, 148, .inr (.inr (.inr (.inr (fun _ => none)))))), (q_61, .inr (3, [.ref q_62, .int 0])), (q_62, .inl (ca 1, 4, .inl (fun _ => 0)))] H := hP
  replace hD : va_D A [(h0, .inr (0, fs_39)), (q_1, .inr (1, q_2)), (q_3, .inr (2, [.ref q_4, .int 0])), (q_4, .inl (ca 0, 16, .inl (fun _ => 0))), (q_14, .inl (ca 4, 148, .inr (.inr (.inr (.inr (fun _ => none)))))), (q_61, .inr (3, [.ref q_62, .int 0])), (q_62, .inl (ca 1, 4, .inl (fun _ => 0)))] := hD
  refine W.eq (g2 := F0 m 422 ls [.ref q_61, .ref h0]) rfl ?_
  refine W.widen (k := 80) (n := 524686) (Nat.le_of_ble_eq_true rfl) (Nat.le_of_ble_eq_true rfl) ?_
  replace hP := hP.sub (ws' := [(h0, .inr (0, fs_39)), (q_1, .inr (1, q_2)), (q_3, .inr (2, [.ref q_4, .int 0])), (q_4, .inl (ca 0, 16, .inl (fun _ => 0))), (q_14, .inl (ca 4, 148, .inr (.inr (.inr (.inr (fun _ => none))))))]) [0, 1, 2, 3, 4] rfl
  replace hD := hD.sub (ws' := [(h0, .inr (0, fs_39)), (q_1, .inr (1, q_2)), (q_3, .inr (2, [.ref q_4, .int 0])), (q_4, .inl (ca 0, 16, .inl (fun _ => 0))), (q_14, .inl (ca 4, 148, .inr (.inr (.inr (.inr (fun _ => none))))))]) [0, 1, 2, 3, 4] (by decide) rfl
  refine m_put M (fs := fs_39) (wt := [(q_1, .inr (1, q_2)), (q_3, .inr (2, [.ref q_4, .int 0])), (q_4, .inl (ca 0, 16, .inl (fun _ => 0))), (q_14, .inl (ca 4, 148, .inr (.inr (.inr (.inr (fun _ => none))))))]) (k := 51) (ty := .object "SourceBackModel$Ints") hP hD hS hlen (by decide) xm_120 rfl rfl (by decide +kernel) rfl rfl d_MM_init_422 ?_
  clear hP hD hS hlen
  intro H locs hlen hP hD hS
  obtain ⟨fs_40, e_40⟩ : ∃ z, z = fs_39.set 51 (.ref q_61) := ⟨_, rfl⟩
  rw [← e_40] at hP hD hlen
  replace hP : va_P (dC, dI) classes [(h0, .inr (0, fs_40)), (q_1, .inr (1, q_2)), (q_3, .inr (2, [.ref q_4, .int 0])), (q_4, .inl (ca 0, 16, .inl (fun _ => 0))), (q_14, .inl (ca 4, 148, .inr (.inr (.inr (.inr (fun _ => none))))))] H := hP
  replace hD : va_D A [(h0, .inr (0, fs_40)), (q_1, .inr (1, q_2)), (q_3, .inr (2, [.ref q_4, .int 0])), (q_4, .inl (ca 0, 16, .inl (fun _ => 0))), (q_14, .inl (ca 4, 148, .inr (.inr (.inr (.inr (fun _ => none))))))] := hD
  subst e_40 e_39 e_38 e_37 e_36
  exact kk q_53 q_55 q_57 q_59 q_61 H locs hlen hP hD hS
set_option maxHeartbeats 4000000 in
set_option maxRecDepth 100000 in
theorem mi_40 {p : Program} {l : Launch} {e : Env} {s : State} {m : MethodId} {args : Array Value} {below : List Frame} {meth : Method} {c : Code} {H : Heap} {locs : List Loc} {Q : State → Prop} {dC : Nat → ClassId} {dI : Nat → Nat → Nat} {ca : Nat → ClassId} {A : Nat → Prop} {ls : Array Slot} {h0 : Nat} {sa : Nat → Nat} (M : mC p s m args meth c dC dI ca A ls h0) (hks : ∀ (i : Nat) (z : Nat × String), strs[i]? = some z → vk_R R_MM z.1 z.2 (sa i) s ∧ va_Any "java/lang/String" s s.heap (sa i) ∧ sa i ≠ h0) (hnA : ∀ (i : Nat) (z : Nat × String), strs[i]? = some z → ¬ A (sa i)) {fs_40 : List Value} {q_1 : Nat} {q_2 : List Value} {q_3 : Nat} {q_4 : Nat} {q_14 : Nat} (hP : va_P (dC, dI) classes ((h0, .inr (0, fs_40)) :: [(q_1, .inr (1, q_2)), (q_3, .inr (2, [.ref q_4, .int 0])), (q_4, .inl (ca 0, 16, .inl (fun _ => 0))), (q_14, .inl (ca 4, 148, .inr (.inr (.inr (.inr (fun _ => none))))))]) H) (hD : va_D A ((h0, .inr (0, fs_40)) :: [(q_1, .inr (1, q_2)), (q_3, .inr (2, [.ref q_4, .int 0])), (q_4, .inl (ca 0, 16, .inl (fun _ => 0))), (q_14, .inl (ca 4, 148, .inr (.inr (.inr (.inr (fun _ => none))))))])) (hS : va_S A s.heap H locs) (hlen : fs_40.length = 132)
    (kk : ∀ (q_63 q_65 q_67 q_69 q_71 : Nat) (H : Heap) (locs : List Loc), (((((fs_40.set 52 (.ref q_63)).set 53 (.ref q_65)).set 54 (.ref q_67)).set 55 (.ref q_69)).set 56 (.ref q_71)).length = 132 → va_P (dC, dI) classes ((h0, .inr (0, ((((fs_40.set 52 (.ref q_63)).set 53 (.ref q_65)).set 54 (.ref q_67)).set 55 (.ref q_69)).set 56 (.ref q_71))) :: [(q_1, .inr (1, q_2)), (q_3, .inr (2, [.ref q_4, .int 0])), (q_4, .inl (ca 0, 16, .inl (fun _ => 0))), (q_14, .inl (ca 4, 148, .inr (.inr (.inr (.inr (fun _ => none))))))]) H → va_D A ((h0, .inr (0, ((((fs_40.set 52 (.ref q_63)).set 53 (.ref q_65)).set 54 (.ref q_67)).set 55 (.ref q_69)).set 56 (.ref q_71))) :: [(q_1, .inr (1, q_2)), (q_3, .inr (2, [.ref q_4, .int 0])), (q_4, .inl (ca 0, 16, .inl (fun _ => 0))), (q_14, .inl (ca 4, 148, .inr (.inr (.inr (.inr (fun _ => none))))))]) → va_S A s.heap H locs → W p l e ({ frames := 7, cells := 166, slots := 640022, locals := 100 }) s m args below meth c H locs 90 524716 Q (F0 m 485 ls [])) :
    W p l e ({ frames := 7, cells := 166, slots := 640022, locals := 100 }) s m args below meth c H locs 80 524686 Q (F0 m 425 ls []) := by
  obtain ⟨hx, hb, hml, hown, hts, hin, hK, hA, hl⟩ := id M
  refine lv_aload_n hx hb d_MM_init_425 rfl (lv_at hl 0 rfl) ?_
  refine m_new M (wt := [(q_1, .inr (1, q_2)), (q_3, .inr (2, [.ref q_4, .int 0])), (q_4, .inl (ca 0, 16, .inl (fun _ => 0))), (q_14, .inl (ca 4, 148, .inr (.inr (.inr (.inr (fun _ => none))))))]) (ci := 3) (C := R_MI) (T := F_MI) (N := 2) (f0 := [.null, .int 0]) hP hD hS i_MI t_MI_ok xm_32 xm_33 xm_3 rfl (by decide +kernel) (Nat.le_of_ble_eq_true rfl) (Nat.le_of_ble_eq_true rfl) d_MM_init_426 d_MM_init_429 ?_
  clear hP hD hS
  intro q_63 H hP hD hS
  replace hP : va_P (dC, dI) classes [(h0, .inr (0, fs_40)), (q_1, .inr (1, q_2)), (q_3, .inr (2, [.ref q_4, .int 0])), (q_4, .inl (ca 0, 16, .inl (fun _ => 0))), (q_14, .inl (ca 4, 148, .inr (.inr (.inr (.inr (fun _ => none)))))), (q_63, .inr (3, [.null, .int 0]))] H := hP
  replace hD : va_D A [(h0, .inr (0, fs_40)), (q_1, .inr (1, q_2)), (q_3, .inr (2, [.ref q_4, .int 0])), (q_4, .inl (ca 0, 16, .inl (fun _ => 0))), (q_14, .inl (ca 4, 148, .inr (.inr (.inr (.inr (fun _ => none)))))), (q_63, .inr (3, [.null, .int 0]))] := hD
  refine W.widen (k := 81) (n := 524688) (Nat.le_of_ble_eq_true rfl) (Nat.le_of_ble_eq_true rfl) ?_
  refine lv_iconst (v := 4) hx hb d_MM_init_430 (by decide) ?_
  refine ax_I (k := 1) (As := [.int 4]) (rest := [.ref q_63, .ref h0]) (wr := [(h0, .inr (0, fs_40)), (q_1, .inr (1, q_2)), (q_3, .inr (2, [.ref q_4, .int 0])), (q_4, .inl (ca 0, 16, .inl (fun _ => 0))), (q_14, .inl (ca 4, 148, .inr (.inr (.inr (.inr (fun _ => none))))))]) rfl hx hb hml hown hts g_wm (mK_bl dC dI ca) (c_MI_init l dC dI ca q_63) rfl xm_34 xm_35 xm_3 xm_36 (by decide +kernel) rfl (Nat.le_of_ble_eq_true rfl) (Nat.le_of_ble_eq_true rfl) hl.1 (Nat.le_of_ble_eq_true rfl) (mK_up hK) hP hD hS hA [5] [0, 1, 2, 3, 4] rfl (by decide) rfl rfl (by decide) (by decide) (Nat.le_of_ble_eq_true rfl) (Nat.le_of_ble_eq_true rfl) d_MM_init_431 ?_
  clear hP hD hS
  intro v q_64 H locs hp hP hD hS
  obtain rfl : v = none := hp
  replace hP : va_P (dC, dI) classes [(h0, .inr (0, fs_40)), (q_1, .inr (1, q_2)), (q_3, .inr (2, [.ref q_4, .int 0])), (q_4, .inl (ca 0, 16, .inl (fun _ => 0))), (q_14, .inl (ca 4, 148, .inr (.inr (.inr (.inr (fun _ => none)))))), (q_63, .inr (3, [.ref q_64, .int 0])), (q_64, .inl (ca 1, 4, .inl (fun _ => 0)))] H := hP
  replace hD : va_D A [(h0, .inr (0, fs_40)), (q_1, .inr (1, q_2)), (q_3, .inr (2, [.ref q_4, .int 0])), (q_4, .inl (ca 0, 16, .inl (fun _ => 0))), (q_14, .inl (ca 4, 148, .inr (.inr (.inr (.inr (fun _ => none)))))), (q_63, .inr (3, [.ref q_64, .int 0])), (q_64, .inl (ca 1, 4, .inl (fun _ => 0)))] := hD
  refine W.eq (g2 := F0 m 434 ls [.ref q_63, .ref h0]) rfl ?_
  refine W.widen (k := 82) (n := 524692) (Nat.le_of_ble_eq_true rfl) (Nat.le_of_ble_eq_true rfl) ?_
  replace hP := hP.sub (ws' := [(h0, .inr (0, fs_40)), (q_1, .inr (1, q_2)), (q_3, .inr (2, [.ref q_4, .int 0])), (q_4, .inl (ca 0, 16, .inl (fun _ => 0))), (q_14, .inl (ca 4, 148, .inr (.inr (.inr (.inr (fun _ => none))))))]) [0, 1, 2, 3, 4] rfl
  replace hD := hD.sub (ws' := [(h0, .inr (0, fs_40)), (q_1, .inr (1, q_2)), (q_3, .inr (2, [.ref q_4, .int 0])), (q_4, .inl (ca 0, 16, .inl (fun _ => 0))), (q_14, .inl (ca 4, 148, .inr (.inr (.inr (.inr (fun _ => none))))))]) [0, 1, 2, 3, 4] (by decide) rfl
  refine m_put M (fs := fs_40) (wt := [(q_1, .inr (1, q_2)), (q_3, .inr (2, [.ref q_4, .int 0])), (q_4, .inl (ca 0, 16, .inl (fun _ => 0))), (q_14, .inl (ca 4, 148, .inr (.inr (.inr (.inr (fun _ => none))))))]) (k := 52) (ty := .object "SourceBackModel$Ints") hP hD hS hlen (by decide) xm_121 rfl rfl (by decide +kernel) rfl rfl d_MM_init_434 ?_
  clear hP hD hS hlen
  intro H locs hlen hP hD hS
  obtain ⟨fs_41, e_41⟩ : ∃ z, z = fs_40.set 52 (.ref q_63) := ⟨_, rfl⟩
  rw [← e_41] at hP hD hlen
  replace hP : va_P (dC, dI) classes [(h0, .inr (0, fs_41)), (q_1, .inr (1, q_2)), (q_3, .inr (2, [.ref q_4, .int 0])), (q_4, .inl (ca 0, 16, .inl (fun _ => 0))), (q_14, .inl (ca 4, 148, .inr (.inr (.inr (.inr (fun _ => none))))))] H := hP
  replace hD : va_D A [(h0, .inr (0, fs_41)), (q_1, .inr (1, q_2)), (q_3, .inr (2, [.ref q_4, .int 0])), (q_4, .inl (ca 0, 16, .inl (fun _ => 0))), (q_14, .inl (ca 4, 148, .inr (.inr (.inr (.inr (fun _ => none))))))] := hD
  refine lv_aload_n hx hb d_MM_init_437 rfl (lv_at hl 0 rfl) ?_
  refine m_new M (wt := [(q_1, .inr (1, q_2)), (q_3, .inr (2, [.ref q_4, .int 0])), (q_4, .inl (ca 0, 16, .inl (fun _ => 0))), (q_14, .inl (ca 4, 148, .inr (.inr (.inr (.inr (fun _ => none))))))]) (ci := 4) (C := R_ML) (T := F_ML) (N := 2) (f0 := [.null, .int 0]) hP hD hS i_ML t_ML_ok xm_69 xm_50 xm_5 rfl (by decide +kernel) (Nat.le_of_ble_eq_true rfl) (Nat.le_of_ble_eq_true rfl) d_MM_init_438 d_MM_init_441 ?_
  clear hP hD hS
  intro q_65 H hP hD hS
  replace hP : va_P (dC, dI) classes [(h0, .inr (0, fs_41)), (q_1, .inr (1, q_2)), (q_3, .inr (2, [.ref q_4, .int 0])), (q_4, .inl (ca 0, 16, .inl (fun _ => 0))), (q_14, .inl (ca 4, 148, .inr (.inr (.inr (.inr (fun _ => none)))))), (q_65, .inr (4, [.null, .int 0]))] H := hP
  replace hD : va_D A [(h0, .inr (0, fs_41)), (q_1, .inr (1, q_2)), (q_3, .inr (2, [.ref q_4, .int 0])), (q_4, .inl (ca 0, 16, .inl (fun _ => 0))), (q_14, .inl (ca 4, 148, .inr (.inr (.inr (.inr (fun _ => none)))))), (q_65, .inr (4, [.null, .int 0]))] := hD
  refine W.widen (k := 83) (n := 524694) (Nat.le_of_ble_eq_true rfl) (Nat.le_of_ble_eq_true rfl) ?_
  refine lv_iconst (v := 4) hx hb d_MM_init_442 (by decide) ?_
  refine ax_I (k := 1) (As := [.int 4]) (rest := [.ref q_65, .ref h0]) (wr := [(h0, .inr (0, fs_41)), (q_1, .inr (1, q_2)), (q_3, .inr (2, [.ref q_4, .int 0])), (q_4, .inl (ca 0, 16, .inl (fun _ => 0))), (q_14, .inl (ca 4, 148, .inr (.inr (.inr (.inr (fun _ => none))))))]) rfl hx hb hml hown hts g_wm (mK_bl dC dI ca) (c_ML_init l dC dI ca q_65) rfl xm_70 xm_52 xm_5 xm_53 (by decide +kernel) rfl (Nat.le_of_ble_eq_true rfl) (Nat.le_of_ble_eq_true rfl) hl.1 (Nat.le_of_ble_eq_true rfl) (mK_up hK) hP hD hS hA [5] [0, 1, 2, 3, 4] rfl (by decide) rfl rfl (by decide) (by decide) (Nat.le_of_ble_eq_true rfl) (Nat.le_of_ble_eq_true rfl) d_MM_init_443 ?_
  clear hP hD hS
  intro v q_66 H locs hp hP hD hS
  obtain rfl : v = none := hp
  replace hP : va_P (dC, dI) classes [(h0, .inr (0, fs_41)), (q_1, .inr (1, q_2)), (q_3, .inr (2, [.ref q_4, .int 0])), (q_4, .inl (ca 0, 16, .inl (fun _ => 0))), (q_14, .inl (ca 4, 148, .inr (.inr (.inr (.inr (fun _ => none)))))), (q_65, .inr (4, [.ref q_66, .int 0])), (q_66, .inl (ca 2, 4, .inr (.inl (fun _ => 0))))] H := hP
  replace hD : va_D A [(h0, .inr (0, fs_41)), (q_1, .inr (1, q_2)), (q_3, .inr (2, [.ref q_4, .int 0])), (q_4, .inl (ca 0, 16, .inl (fun _ => 0))), (q_14, .inl (ca 4, 148, .inr (.inr (.inr (.inr (fun _ => none)))))), (q_65, .inr (4, [.ref q_66, .int 0])), (q_66, .inl (ca 2, 4, .inr (.inl (fun _ => 0))))] := hD
  refine W.eq (g2 := F0 m 446 ls [.ref q_65, .ref h0]) rfl ?_
  refine W.widen (k := 84) (n := 524698) (Nat.le_of_ble_eq_true rfl) (Nat.le_of_ble_eq_true rfl) ?_
  replace hP := hP.sub (ws' := [(h0, .inr (0, fs_41)), (q_1, .inr (1, q_2)), (q_3, .inr (2, [.ref q_4, .int 0])), (q_4, .inl (ca 0, 16, .inl (fun _ => 0))), (q_14, .inl (ca 4, 148, .inr (.inr (.inr (.inr (fun _ => none))))))]) [0, 1, 2, 3, 4] rfl
  replace hD := hD.sub (ws' := [(h0, .inr (0, fs_41)), (q_1, .inr (1, q_2)), (q_3, .inr (2, [.ref q_4, .int 0])), (q_4, .inl (ca 0, 16, .inl (fun _ => 0))), (q_14, .inl (ca 4, 148, .inr (.inr (.inr (.inr (fun _ => none))))))]) [0, 1, 2, 3, 4] (by decide) rfl
  refine m_put M (fs := fs_41) (wt := [(q_1, .inr (1, q_2)), (q_3, .inr (2, [.ref q_4, .int 0])), (q_4, .inl (ca 0, 16, .inl (fun _ => 0))), (q_14, .inl (ca 4, 148, .inr (.inr (.inr (.inr (fun _ => none))))))]) (k := 53) (ty := .object "SourceBackModel$Longs") hP hD hS hlen (by decide) xm_122 rfl rfl (by decide +kernel) rfl rfl d_MM_init_446 ?_
  clear hP hD hS hlen
  intro H locs hlen hP hD hS
  obtain ⟨fs_42, e_42⟩ : ∃ z, z = fs_41.set 53 (.ref q_65) := ⟨_, rfl⟩
  rw [← e_42] at hP hD hlen
  replace hP : va_P (dC, dI) classes [(h0, .inr (0, fs_42)), (q_1, .inr (1, q_2)), (q_3, .inr (2, [.ref q_4, .int 0])), (q_4, .inl (ca 0, 16, .inl (fun _ => 0))), (q_14, .inl (ca 4, 148, .inr (.inr (.inr (.inr (fun _ => none))))))] H := hP
  replace hD : va_D A [(h0, .inr (0, fs_42)), (q_1, .inr (1, q_2)), (q_3, .inr (2, [.ref q_4, .int 0])), (q_4, .inl (ca 0, 16, .inl (fun _ => 0))), (q_14, .inl (ca 4, 148, .inr (.inr (.inr (.inr (fun _ => none))))))] := hD
  refine lv_aload_n hx hb d_MM_init_449 rfl (lv_at hl 0 rfl) ?_
  refine m_new M (wt := [(q_1, .inr (1, q_2)), (q_3, .inr (2, [.ref q_4, .int 0])), (q_4, .inl (ca 0, 16, .inl (fun _ => 0))), (q_14, .inl (ca 4, 148, .inr (.inr (.inr (.inr (fun _ => none))))))]) (ci := 3) (C := R_MI) (T := F_MI) (N := 2) (f0 := [.null, .int 0]) hP hD hS i_MI t_MI_ok xm_32 xm_33 xm_3 rfl (by decide +kernel) (Nat.le_of_ble_eq_true rfl) (Nat.le_of_ble_eq_true rfl) d_MM_init_450 d_MM_init_453 ?_
  clear hP hD hS
  intro q_67 H hP hD hS
  replace hP : va_P (dC, dI) classes [(h0, .inr (0, fs_42)), (q_1, .inr (1, q_2)), (q_3, .inr (2, [.ref q_4, .int 0])), (q_4, .inl (ca 0, 16, .inl (fun _ => 0))), (q_14, .inl (ca 4, 148, .inr (.inr (.inr (.inr (fun _ => none)))))), (q_67, .inr (3, [.null, .int 0]))] H := hP
  replace hD : va_D A [(h0, .inr (0, fs_42)), (q_1, .inr (1, q_2)), (q_3, .inr (2, [.ref q_4, .int 0])), (q_4, .inl (ca 0, 16, .inl (fun _ => 0))), (q_14, .inl (ca 4, 148, .inr (.inr (.inr (.inr (fun _ => none)))))), (q_67, .inr (3, [.null, .int 0]))] := hD
  refine W.widen (k := 85) (n := 524700) (Nat.le_of_ble_eq_true rfl) (Nat.le_of_ble_eq_true rfl) ?_
  refine lv_iconst (v := 4) hx hb d_MM_init_454 (by decide) ?_
  refine ax_I (k := 1) (As := [.int 4]) (rest := [.ref q_67, .ref h0]) (wr := [(h0, .inr (0, fs_42)), (q_1, .inr (1, q_2)), (q_3, .inr (2, [.ref q_4, .int 0])), (q_4, .inl (ca 0, 16, .inl (fun _ => 0))), (q_14, .inl (ca 4, 148, .inr (.inr (.inr (.inr (fun _ => none))))))]) rfl hx hb hml hown hts g_wm (mK_bl dC dI ca) (c_MI_init l dC dI ca q_67) rfl xm_34 xm_35 xm_3 xm_36 (by decide +kernel) rfl (Nat.le_of_ble_eq_true rfl) (Nat.le_of_ble_eq_true rfl) hl.1 (Nat.le_of_ble_eq_true rfl) (mK_up hK) hP hD hS hA [5] [0, 1, 2, 3, 4] rfl (by decide) rfl rfl (by decide) (by decide) (Nat.le_of_ble_eq_true rfl) (Nat.le_of_ble_eq_true rfl) d_MM_init_455 ?_
  clear hP hD hS
  intro v q_68 H locs hp hP hD hS
  obtain rfl : v = none := hp
  replace hP : va_P (dC, dI) classes [(h0, .inr (0, fs_42)), (q_1, .inr (1, q_2)), (q_3, .inr (2, [.ref q_4, .int 0])), (q_4, .inl (ca 0, 16, .inl (fun _ => 0))), (q_14, .inl (ca 4, 148, .inr (.inr (.inr (.inr (fun _ => none)))))), (q_67, .inr (3, [.ref q_68, .int 0])), (q_68, .inl (ca 1, 4, .inl (fun _ => 0)))] H := hP
  replace hD : va_D A [(h0, .inr (0, fs_42)), (q_1, .inr (1, q_2)), (q_3, .inr (2, [.ref q_4, .int 0])), (q_4, .inl (ca 0, 16, .inl (fun _ => 0))), (q_14, .inl (ca 4, 148, .inr (.inr (.inr (.inr (fun _ => none)))))), (q_67, .inr (3, [.ref q_68, .int 0])), (q_68, .inl (ca 1, 4, .inl (fun _ => 0)))] := hD
  refine W.eq (g2 := F0 m 458 ls [.ref q_67, .ref h0]) rfl ?_
  refine W.widen (k := 86) (n := 524704) (Nat.le_of_ble_eq_true rfl) (Nat.le_of_ble_eq_true rfl) ?_
  replace hP := hP.sub (ws' := [(h0, .inr (0, fs_42)), (q_1, .inr (1, q_2)), (q_3, .inr (2, [.ref q_4, .int 0])), (q_4, .inl (ca 0, 16, .inl (fun _ => 0))), (q_14, .inl (ca 4, 148, .inr (.inr (.inr (.inr (fun _ => none))))))]) [0, 1, 2, 3, 4] rfl
  replace hD := hD.sub (ws' := [(h0, .inr (0, fs_42)), (q_1, .inr (1, q_2)), (q_3, .inr (2, [.ref q_4, .int 0])), (q_4, .inl (ca 0, 16, .inl (fun _ => 0))), (q_14, .inl (ca 4, 148, .inr (.inr (.inr (.inr (fun _ => none))))))]) [0, 1, 2, 3, 4] (by decide) rfl
  refine m_put M (fs := fs_42) (wt := [(q_1, .inr (1, q_2)), (q_3, .inr (2, [.ref q_4, .int 0])), (q_4, .inl (ca 0, 16, .inl (fun _ => 0))), (q_14, .inl (ca 4, 148, .inr (.inr (.inr (.inr (fun _ => none))))))]) (k := 54) (ty := .object "SourceBackModel$Ints") hP hD hS hlen (by decide) xm_123 rfl rfl (by decide +kernel) rfl rfl d_MM_init_458 ?_
  clear hP hD hS hlen
  intro H locs hlen hP hD hS
  obtain ⟨fs_43, e_43⟩ : ∃ z, z = fs_42.set 54 (.ref q_67) := ⟨_, rfl⟩
  rw [← e_43] at hP hD hlen
  replace hP : va_P (dC, dI) classes [(h0, .inr (0, fs_43)), (q_1, .inr (1, q_2)), (q_3, .inr (2, [.ref q_4, .int 0])), (q_4, .inl (ca 0, 16, .inl (fun _ => 0))), (q_14, .inl (ca 4, 148, .inr (.inr (.inr (.inr (fun _ => none))))))] H := hP
  replace hD : va_D A [(h0, .inr (0, fs_43)), (q_1, .inr (1, q_2)), (q_3, .inr (2, [.ref q_4, .int 0])), (q_4, .inl (ca 0, 16, .inl (fun _ => 0))), (q_14, .inl (ca 4, 148, .inr (.inr (.inr (.inr (fun _ => none))))))] := hD
  refine lv_aload_n hx hb d_MM_init_461 rfl (lv_at hl 0 rfl) ?_
  refine m_new M (wt := [(q_1, .inr (1, q_2)), (q_3, .inr (2, [.ref q_4, .int 0])), (q_4, .inl (ca 0, 16, .inl (fun _ => 0))), (q_14, .inl (ca 4, 148, .inr (.inr (.inr (.inr (fun _ => none))))))]) (ci := 3) (C := R_MI) (T := F_MI) (N := 2) (f0 := [.null, .int 0]) hP hD hS i_MI t_MI_ok xm_32 xm_33 xm_3 rfl (by decide +kernel) (Nat.le_of_ble_eq_true rfl) (Nat.le_of_ble_eq_true rfl) d_MM_init_462 d_MM_init_465 ?_
  clear hP hD hS
  intro q_69 H hP hD hS
  replace hP : va_P (dC, dI) classes [(h0, .inr (0, fs_43)), (q_1, .inr (1, q_2)), (q_3, .inr (2, [.ref q_4, .int 0])), (q_4, .inl (ca 0, 16, .inl (fun _ => 0))), (q_14, .inl (ca 4, 148, .inr (.inr (.inr (.inr (fun _ => none)))))), (q_69, .inr (3, [.null, .int 0]))] H := hP
  replace hD : va_D A [(h0, .inr (0, fs_43)), (q_1, .inr (1, q_2)), (q_3, .inr (2, [.ref q_4, .int 0])), (q_4, .inl (ca 0, 16, .inl (fun _ => 0))), (q_14, .inl (ca 4, 148, .inr (.inr (.inr (.inr (fun _ => none)))))), (q_69, .inr (3, [.null, .int 0]))] := hD
  refine W.widen (k := 87) (n := 524706) (Nat.le_of_ble_eq_true rfl) (Nat.le_of_ble_eq_true rfl) ?_
  refine lv_iconst (v := 4) hx hb d_MM_init_466 (by decide) ?_
  refine ax_I (k := 1) (As := [.int 4]) (rest := [.ref q_69, .ref h0]) (wr := [(h0, .inr (0, fs_43)), (q_1, .inr (1, q_2)), (q_3, .inr (2, [.ref q_4, .int 0])), (q_4, .inl (ca 0, 16, .inl (fun _ => 0))), (q_14, .inl (ca 4, 148, .inr (.inr (.inr (.inr (fun _ => none))))))]) rfl hx hb hml hown hts g_wm (mK_bl dC dI ca) (c_MI_init l dC dI ca q_69) rfl xm_34 xm_35 xm_3 xm_36 (by decide +kernel) rfl (Nat.le_of_ble_eq_true rfl) (Nat.le_of_ble_eq_true rfl) hl.1 (Nat.le_of_ble_eq_true rfl) (mK_up hK) hP hD hS hA [5] [0, 1, 2, 3, 4] rfl (by decide) rfl rfl (by decide) (by decide) (Nat.le_of_ble_eq_true rfl) (Nat.le_of_ble_eq_true rfl) d_MM_init_467 ?_
  clear hP hD hS
  intro v q_70 H locs hp hP hD hS
  obtain rfl : v = none := hp
  replace hP : va_P (dC, dI) classes [(h0, .inr (0, fs_43)), (q_1, .inr (1, q_2)), (q_3, .inr (2, [.ref q_4, .int 0])), (q_4, .inl (ca 0, 16, .inl (fun _ => 0))), (q_14, .inl (ca 4, 148, .inr (.inr (.inr (.inr (fun _ => none)))))), (q_69, .inr (3, [.ref q_70, .int 0])), (q_70, .inl (ca 1, 4, .inl (fun _ => 0)))] H := hP
  replace hD : va_D A [(h0, .inr (0, fs_43)), (q_1, .inr (1, q_2)), (q_3, .inr (2, [.ref q_4, .int 0])), (q_4, .inl (ca 0, 16, .inl (fun _ => 0))), (q_14, .inl (ca 4, 148, .inr (.inr (.inr (.inr (fun _ => none)))))), (q_69, .inr (3, [.ref q_70, .int 0])), (q_70, .inl (ca 1, 4, .inl (fun _ => 0)))] := hD
  refine W.eq (g2 := F0 m 470 ls [.ref q_69, .ref h0]) rfl ?_
  refine W.widen (k := 88) (n := 524710) (Nat.le_of_ble_eq_true rfl) (Nat.le_of_ble_eq_true rfl) ?_
  replace hP := hP.sub (ws' := [(h0, .inr (0, fs_43)), (q_1, .inr (1, q_2)), (q_3, .inr (2, [.ref q_4, .int 0])), (q_4, .inl (ca 0, 16, .inl (fun _ => 0))), (q_14, .inl (ca 4, 148, .inr (.inr (.inr (.inr (fun _ => none))))))]) [0, 1, 2, 3, 4] rfl
  replace hD := hD.sub (ws' := [(h0, .inr (0, fs_43)), (q_1, .inr (1, q_2)), (q_3, .inr (2, [.ref q_4, .int 0])), (q_4, .inl (ca 0, 16, .inl (fun _ => 0))), (q_14, .inl (ca 4, 148, .inr (.inr (.inr (.inr (fun _ => none))))))]) [0, 1, 2, 3, 4] (by decide) rfl
  refine m_put M (fs := fs_43) (wt := [(q_1, .inr (1, q_2)), (q_3, .inr (2, [.ref q_4, .int 0])), (q_4, .inl (ca 0, 16, .inl (fun _ => 0))), (q_14, .inl (ca 4, 148, .inr (.inr (.inr (.inr (fun _ => none))))))]) (k := 55) (ty := .object "SourceBackModel$Ints") hP hD hS hlen (by decide) xm_124 rfl rfl (by decide +kernel) rfl rfl d_MM_init_470 ?_
  clear hP hD hS hlen
  intro H locs hlen hP hD hS
  obtain ⟨fs_44, e_44⟩ : ∃ z, z = fs_43.set 55 (.ref q_69) := ⟨_, rfl⟩
  rw [← e_44] at hP hD hlen
  replace hP : va_P (dC, dI) classes [(h0, .inr (0, fs_44)), (q_1, .inr (1, q_2)), (q_3, .inr (2, [.ref q_4, .int 0])), (q_4, .inl (ca 0, 16, .inl (fun _ => 0))), (q_14, .inl (ca 4, 148, .inr (.inr (.inr (.inr (fun _ => none))))))] H := hP
  replace hD : va_D A [(h0, .inr (0, fs_44)), (q_1, .inr (1, q_2)), (q_3, .inr (2, [.ref q_4, .int 0])), (q_4, .inl (ca 0, 16, .inl (fun _ => 0))), (q_14, .inl (ca 4, 148, .inr (.inr (.inr (.inr (fun _ => none))))))] := hD
  refine lv_aload_n hx hb d_MM_init_473 rfl (lv_at hl 0 rfl) ?_
  refine m_new M (wt := [(q_1, .inr (1, q_2)), (q_3, .inr (2, [.ref q_4, .int 0])), (q_4, .inl (ca 0, 16, .inl (fun _ => 0))), (q_14, .inl (ca 4, 148, .inr (.inr (.inr (.inr (fun _ => none))))))]) (ci := 3) (C := R_MI) (T := F_MI) (N := 2) (f0 := [.null, .int 0]) hP hD hS i_MI t_MI_ok xm_32 xm_33 xm_3 rfl (by decide +kernel) (Nat.le_of_ble_eq_true rfl) (Nat.le_of_ble_eq_true rfl) d_MM_init_474 d_MM_init_477 ?_
  clear hP hD hS
  intro q_71 H hP hD hS
  replace hP : va_P (dC, dI) classes [(h0, .inr (0, fs_44)), (q_1, .inr (1, q_2)), (q_3, .inr (2, [.ref q_4, .int 0])), (q_4, .inl (ca 0, 16, .inl (fun _ => 0))), (q_14, .inl (ca 4, 148, .inr (.inr (.inr (.inr (fun _ => none)))))), (q_71, .inr (3, [.null, .int 0]))] H := hP
  replace hD : va_D A [(h0, .inr (0, fs_44)), (q_1, .inr (1, q_2)), (q_3, .inr (2, [.ref q_4, .int 0])), (q_4, .inl (ca 0, 16, .inl (fun _ => 0))), (q_14, .inl (ca 4, 148, .inr (.inr (.inr (.inr (fun _ => none)))))), (q_71, .inr (3, [.null, .int 0]))] := hD
  refine W.widen (k := 89) (n := 524712) (Nat.le_of_ble_eq_true rfl) (Nat.le_of_ble_eq_true rfl) ?_
  refine lv_iconst (v := 4) hx hb d_MM_init_478 (by decide) ?_
  refine ax_I (k := 1) (As := [.int 4]) (rest := [.ref q_71, .ref h0]) (wr := [(h0, .inr (0, fs_44)), (q_1, .inr (1, q_2)), (q_3, .inr (2, [.ref q_4, .int 0])), (q_4, .inl (ca 0, 16, .inl (fun _ => 0))), (q_14, .inl (ca 4, 148, .inr (.inr (.inr (.inr (fun _ => none))))))]) rfl hx hb hml hown hts g_wm (mK_bl dC dI ca) (c_MI_init l dC dI ca q_71) rfl xm_34 xm_35 xm_3 xm_36 (by decide +kernel) rfl (Nat.le_of_ble_eq_true rfl) (Nat.le_of_ble_eq_true rfl) hl.1 (Nat.le_of_ble_eq_true rfl) (mK_up hK) hP hD hS hA [5] [0, 1, 2, 3, 4] rfl (by decide) rfl rfl (by decide) (by decide) (Nat.le_of_ble_eq_true rfl) (Nat.le_of_ble_eq_true rfl) d_MM_init_479 ?_
  clear hP hD hS
  intro v q_72 H locs hp hP hD hS
  obtain rfl : v = none := hp
  replace hP : va_P (dC, dI) classes [(h0, .inr (0, fs_44)), (q_1, .inr (1, q_2)), (q_3, .inr (2, [.ref q_4, .int 0])), (q_4, .inl (ca 0, 16, .inl (fun _ => 0))), (q_14, .inl (ca 4, 148, .inr (.inr (.inr (.inr (fun _ => none)))))), (q_71, .inr (3, [.ref q_72, .int 0])), (q_72, .inl (ca 1, 4, .inl (fun _ => 0)))] H := hP
  replace hD : va_D A [(h0, .inr (0, fs_44)), (q_1, .inr (1, q_2)), (q_3, .inr (2, [.ref q_4, .int 0])), (q_4, .inl (ca 0, 16, .inl (fun _ => 0))), (q_14, .inl (ca 4, 148, .inr (.inr (.inr (.inr (fun _ => none)))))), (q_71, .inr (3, [.ref q_72, .int 0])), (q_72, .inl (ca 1, 4, .inl (fun _ => 0)))] := hD
  refine W.eq (g2 := F0 m 482 ls [.ref q_71, .ref h0]) rfl ?_
  refine W.widen (k := 90) (n := 524716) (Nat.le_of_ble_eq_true rfl) (Nat.le_of_ble_eq_true rfl) ?_
  replace hP := hP.sub (ws' := [(h0, .inr (0, fs_44)), (q_1, .inr (1, q_2)), (q_3, .inr (2, [.ref q_4, .int 0])), (q_4, .inl (ca 0, 16, .inl (fun _ => 0))), (q_14, .inl (ca 4, 148, .inr (.inr (.inr (.inr (fun _ => none))))))]) [0, 1, 2, 3, 4] rfl
  replace hD := hD.sub (ws' := [(h0, .inr (0, fs_44)), (q_1, .inr (1, q_2)), (q_3, .inr (2, [.ref q_4, .int 0])), (q_4, .inl (ca 0, 16, .inl (fun _ => 0))), (q_14, .inl (ca 4, 148, .inr (.inr (.inr (.inr (fun _ => none))))))]) [0, 1, 2, 3, 4] (by decide) rfl
  refine m_put M (fs := fs_44) (wt := [(q_1, .inr (1, q_2)), (q_3, .inr (2, [.ref q_4, .int 0])), (q_4, .inl (ca 0, 16, .inl (fun _ => 0))), (q_14, .inl (ca 4, 148, .inr (.inr (.inr (.inr (fun _ => none))))))]) (k := 56) (ty := .object "SourceBackModel$Ints") hP hD hS hlen (by decide) xm_125 rfl rfl (by decide +kernel) rfl rfl d_MM_init_482 ?_
  clear hP hD hS hlen
  intro H locs hlen hP hD hS
  obtain ⟨fs_45, e_45⟩ : ∃ z, z = fs_44.set 56 (.ref q_71) := ⟨_, rfl⟩
  rw [← e_45] at hP hD hlen
  replace hP : va_P (dC, dI) classes [(h0, .inr (0, fs_45)), (q_1, .inr (1, q_2)), (q_3, .inr (2, [.ref q_4, .int 0])), (q_4, .inl (ca 0, 16, .inl (fun _ => 0))), (q_14, .inl (ca 4, 148, .inr (.inr (.inr (.inr (fun _ => none))))))] H := hP
  replace hD : va_D A [(h0, .inr (0, fs_45)), (q_1, .inr (1, q_2)), (q_3, .inr (2, [.ref q_4, .int 0])), (q_4, .inl (ca 0, 16, .inl (fun _ => 0))), (q_14, .inl (ca 4, 148, .inr (.inr (.inr (.inr (fun _ => none))))))] := hD
  subst e_45 e_44 e_43 e_42 e_41
  exact kk q_63 q_65 q_67 q_69 q_71 H locs hlen hP hD hS
set_option maxHeartbeats 4000000 in
set_option maxRecDepth 100000 in
theorem mi_45 {p : Program} {l : Launch} {e : Env} {s : State} {m : MethodId} {args : Array Value} {below : List Frame} {meth : Method} {c : Code} {H : Heap} {locs : List Loc} {Q : State → Prop} {dC : Nat → ClassId} {dI : Nat → Nat → Nat} {ca : Nat → ClassId} {A : Nat → Prop} {ls : Array Slot} {h0 : Nat} {sa : Nat → Nat} (M : mC p s m args meth c dC dI ca A ls h0) (hks : ∀ (i : Nat) (z : Nat × String), strs[i]? = some z → vk_R R_MM z.1 z.2 (sa i) s ∧ va_Any "java/lang/String" s s.heap (sa i) ∧ sa i ≠ h0) (hnA : ∀ (i : Nat) (z : Nat × String), strs[i]? = some z → ¬ A (sa i)) {fs_45 : List Value} {q_1 : Nat} {q_2 : List Value} {q_3 : Nat} {q_4 : Nat} {q_14 : Nat} (hP : va_P (dC, dI) classes ((h0, .inr (0, fs_45)) :: [(q_1, .inr (1, q_2)), (q_3, .inr (2, [.ref q_4, .int 0])), (q_4, .inl (ca 0, 16, .inl (fun _ => 0))), (q_14, .inl (ca 4, 148, .inr (.inr (.inr (.inr (fun _ => none))))))]) H) (hD : va_D A ((h0, .inr (0, fs_45)) :: [(q_1, .inr (1, q_2)), (q_3, .inr (2, [.ref q_4, .int 0])), (q_4, .inl (ca 0, 16, .inl (fun _ => 0))), (q_14, .inl (ca 4, 148, .inr (.inr (.inr (.inr (fun _ => none))))))])) (hS : va_S A s.heap H locs) (hlen : fs_45.length = 132)
    (kk : ∀ (q_73 q_75 q_77 q_79 q_81 : Nat) (H : Heap) (locs : List Loc), (((((fs_45.set 57 (.ref q_73)).set 58 (.ref q_75)).set 59 (.ref q_77)).set 60 (.ref q_79)).set 61 (.ref q_81)).length = 132 → va_P (dC, dI) classes ((h0, .inr (0, ((((fs_45.set 57 (.ref q_73)).set 58 (.ref q_75)).set 59 (.ref q_77)).set 60 (.ref q_79)).set 61 (.ref q_81))) :: [(q_1, .inr (1, q_2)), (q_3, .inr (2, [.ref q_4, .int 0])), (q_4, .inl (ca 0, 16, .inl (fun _ => 0))), (q_14, .inl (ca 4, 148, .inr (.inr (.inr (.inr (fun _ => none))))))]) H → va_D A ((h0, .inr (0, ((((fs_45.set 57 (.ref q_73)).set 58 (.ref q_75)).set 59 (.ref q_77)).set 60 (.ref q_79)).set 61 (.ref q_81))) :: [(q_1, .inr (1, q_2)), (q_3, .inr (2, [.ref q_4, .int 0])), (q_4, .inl (ca 0, 16, .inl (fun _ => 0))), (q_14, .inl (ca 4, 148, .inr (.inr (.inr (.inr (fun _ => none))))))]) → va_S A s.heap H locs → W p l e ({ frames := 7, cells := 166, slots := 640022, locals := 100 }) s m args below meth c H locs 100 524746 Q (F0 m 545 ls [])) :
    W p l e ({ frames := 7, cells := 166, slots := 640022, locals := 100 }) s m args below meth c H locs 90 524716 Q (F0 m 485 ls []) := by
  obtain ⟨hx, hb, hml, hown, hts, hin, hK, hA, hl⟩ := id M
  refine lv_aload_n hx hb d_MM_init_485 rfl (lv_at hl 0 rfl) ?_
  refine m_new M (wt := [(q_1, .inr (1, q_2)), (q_3, .inr (2, [.ref q_4, .int 0])), (q_4, .inl (ca 0, 16, .inl (fun _ => 0))), (q_14, .inl (ca 4, 148, .inr (.inr (.inr (.inr (fun _ => none))))))]) (ci := 3) (C := R_MI) (T := F_MI) (N := 2) (f0 := [.null, .int 0]) hP hD hS i_MI t_MI_ok xm_32 xm_33 xm_3 rfl (by decide +kernel) (Nat.le_of_ble_eq_true rfl) (Nat.le_of_ble_eq_true rfl) d_MM_init_486 d_MM_init_489 ?_
  clear hP hD hS
  intro q_73 H hP hD hS
  replace hP : va_P (dC, dI) classes [(h0, .inr (0, fs_45)), (q_1, .inr (1, q_2)), (q_3, .inr (2, [.ref q_4, .int 0])), (q_4, .inl (ca 0, 16, .inl (fun _ => 0))), (q_14, .inl (ca 4, 148, .inr (.inr (.inr (.inr (fun _ => none)))))), (q_73, .inr (3, [.null, .int 0]))] H := hP
  replace hD : va_D A [(h0, .inr (0, fs_45)), (q_1, .inr (1, q_2)), (q_3, .inr (2, [.ref q_4, .int 0])), (q_4, .inl (ca 0, 16, .inl (fun _ => 0))), (q_14, .inl (ca 4, 148, .inr (.inr (.inr (.inr (fun _ => none)))))), (q_73, .inr (3, [.null, .int 0]))] := hD
  refine W.widen (k := 91) (n := 524718) (Nat.le_of_ble_eq_true rfl) (Nat.le_of_ble_eq_true rfl) ?_
  refine lv_iconst (v := 4) hx hb d_MM_init_490 (by decide) ?_
  refine ax_I (k := 1) (As := [.int 4]) (rest := [.ref q_73, .ref h0]) (wr := [(h0, .inr (0, fs_45)), (q_1, .inr (1, q_2)), (q_3, .inr (2, [.ref q_4, .int 0])), (q_4, .inl (ca 0, 16, .inl (fun _ => 0))), (q_14, .inl (ca 4, 148, .inr (.inr (.inr (.inr (fun _ => none))))))]) rfl hx hb hml hown hts g_wm (mK_bl dC dI ca) (c_MI_init l dC dI ca q_73) rfl xm_34 xm_35 xm_3 xm_36 (by decide +kernel) rfl (Nat.le_of_ble_eq_true rfl) (Nat.le_of_ble_eq_true rfl) hl.1 (Nat.le_of_ble_eq_true rfl) (mK_up hK) hP hD hS hA [5] [0, 1, 2, 3, 4] rfl (by decide) rfl rfl (by decide) (by decide) (Nat.le_of_ble_eq_true rfl) (Nat.le_of_ble_eq_true rfl) d_MM_init_491 ?_
  clear hP hD hS
  intro v q_74 H locs hp hP hD hS
  obtain rfl : v = none := hp
  replace hP : va_P (dC, dI) classes [(h0, .inr (0, fs_45)), (q_1, .inr (1, q_2)), (q_3, .inr (2, [.ref q_4, .int 0])), (q_4, .inl (ca 0, 16, .inl (fun _ => 0))), (q_14, .inl (ca 4, 148, .inr (.inr (.inr (.inr (fun _ => none)))))), (q_73, .inr (3, [.ref q_74, .int 0])), (q_74, .inl (ca 1, 4, .inl (fun _ => 0)))] H := hP
  replace hD : va_D A [(h0, .inr (0, fs_45)), (q_1, .inr (1, q_2)), (q_3, .inr (2, [.ref q_4, .int 0])), (q_4, .inl (ca 0, 16, .inl (fun _ => 0))), (q_14, .inl (ca 4, 148, .inr (.inr (.inr (.inr (fun _ => none)))))), (q_73, .inr (3, [.ref q_74, .int 0])), (q_74, .inl (ca 1, 4, .inl (fun _ => 0)))] := hD
  refine W.eq (g2 := F0 m 494 ls [.ref q_73, .ref h0]) rfl ?_
  refine W.widen (k := 92) (n := 524722) (Nat.le_of_ble_eq_true rfl) (Nat.le_of_ble_eq_true rfl) ?_
  replace hP := hP.sub (ws' := [(h0, .inr (0, fs_45)), (q_1, .inr (1, q_2)), (q_3, .inr (2, [.ref q_4, .int 0])), (q_4, .inl (ca 0, 16, .inl (fun _ => 0))), (q_14, .inl (ca 4, 148, .inr (.inr (.inr (.inr (fun _ => none))))))]) [0, 1, 2, 3, 4] rfl
  replace hD := hD.sub (ws' := [(h0, .inr (0, fs_45)), (q_1, .inr (1, q_2)), (q_3, .inr (2, [.ref q_4, .int 0])), (q_4, .inl (ca 0, 16, .inl (fun _ => 0))), (q_14, .inl (ca 4, 148, .inr (.inr (.inr (.inr (fun _ => none))))))]) [0, 1, 2, 3, 4] (by decide) rfl
  refine m_put M (fs := fs_45) (wt := [(q_1, .inr (1, q_2)), (q_3, .inr (2, [.ref q_4, .int 0])), (q_4, .inl (ca 0, 16, .inl (fun _ => 0))), (q_14, .inl (ca 4, 148, .inr (.inr (.inr (.inr (fun _ => none))))))]) (k := 57) (ty := .object "SourceBackModel$Ints") hP hD hS hlen (by decide) xm_126 rfl rfl (by decide +kernel) rfl rfl d_MM_init_494 ?_
  clear hP hD hS hlen
  intro H locs hlen hP hD hS
  obtain ⟨fs_46, e_46⟩ : ∃ z, z = fs_45.set 57 (.ref q_73) := ⟨_, rfl⟩
  rw [← e_46] at hP hD hlen
  replace hP : va_P (dC, dI) classes [(h0, .inr (0, fs_46)), (q_1, .inr (1, q_2)), (q_3, .inr (2, [.ref q_4, .int 0])), (q_4, .inl (ca 0, 16, .inl (fun _ => 0))), (q_14, .inl (ca 4, 148, .inr (.inr (.inr (.inr (fun _ => none))))))] H := hP
  replace hD : va_D A [(h0, .inr (0, fs_46)), (q_1, .inr (1, q_2)), (q_3, .inr (2, [.ref q_4, .int 0])), (q_4, .inl (ca 0, 16, .inl (fun _ => 0))), (q_14, .inl (ca 4, 148, .inr (.inr (.inr (.inr (fun _ => none))))))] := hD
  refine lv_aload_n hx hb d_MM_init_497 rfl (lv_at hl 0 rfl) ?_
  refine m_new M (wt := [(q_1, .inr (1, q_2)), (q_3, .inr (2, [.ref q_4, .int 0])), (q_4, .inl (ca 0, 16, .inl (fun _ => 0))), (q_14, .inl (ca 4, 148, .inr (.inr (.inr (.inr (fun _ => none))))))]) (ci := 3) (C := R_MI) (T := F_MI) (N := 2) (f0 := [.null, .int 0]) hP hD hS i_MI t_MI_ok xm_32 xm_33 xm_3 rfl (by decide +kernel) (Nat.le_of_ble_eq_true rfl) (Nat.le_of_ble_eq_true rfl) d_MM_init_498 d_MM_init_501 ?_
  clear hP hD hS
  intro q_75 H hP hD hS
  replace hP : va_P (dC, dI) classes [(h0, .inr (0, fs_46)), (q_1, .inr (1, q_2)), (q_3, .inr (2, [.ref q_4, .int 0])), (q_4, .inl (ca 0, 16, .inl (fun _ => 0))), (q_14, .inl (ca 4, 148, .inr (.inr (.inr (.inr (fun _ => none)))))), (q_75, .inr (3, [.null, .int 0]))] H := hP
  replace hD : va_D A [(h0, .inr (0, fs_46)), (q_1, .inr (1, q_2)), (q_3, .inr (2, [.ref q_4, .int 0])), (q_4, .inl (ca 0, 16, .inl (fun _ => 0))), (q_14, .inl (ca 4, 148, .inr (.inr (.inr (.inr (fun _ => none)))))), (q_75, .inr (3, [.null, .int 0]))] := hD
  refine W.widen (k := 93) (n := 524724) (Nat.le_of_ble_eq_true rfl) (Nat.le_of_ble_eq_true rfl) ?_
  refine lv_iconst (v := 4) hx hb d_MM_init_502 (by decide) ?_
  refine ax_I (k := 1) (As := [.int 4]) (rest := [.ref q_75, .ref h0]) (wr := [(h0, .inr (0, fs_46)), (q_1, .inr (1, q_2)), (q_3, .inr (2, [.ref q_4, .int 0])), (q_4, .inl (ca 0, 16, .inl (fun _ => 0))), (q_14, .inl (ca 4, 148, .inr (.inr (.inr (.inr (fun _ => none))))))]) rfl hx hb hml hown hts g_wm (mK_bl dC dI ca) (c_MI_init l dC dI ca q_75) rfl xm_34 xm_35 xm_3 xm_36 (by decide +kernel) rfl (Nat.le_of_ble_eq_true rfl) (Nat.le_of_ble_eq_true rfl) hl.1 (Nat.le_of_ble_eq_true rfl) (mK_up hK) hP hD hS hA [5] [0, 1, 2, 3, 4] rfl (by decide) rfl rfl (by decide) (by decide) (Nat.le_of_ble_eq_true rfl) (Nat.le_of_ble_eq_true rfl) d_MM_init_503 ?_
  clear hP hD hS
  intro v q_76 H locs hp hP hD hS
  obtain rfl : v = none := hp
  replace hP : va_P (dC, dI) classes [(h0, .inr (0, fs_46)), (q_1, .inr (1, q_2)), (q_3, .inr (2, [.ref q_4, .int 0])), (q_4, .inl (ca 0, 16, .inl (fun _ => 0))), (q_14, .inl (ca 4, 148, .inr (.inr (.inr (.inr (fun _ => none)))))), (q_75, .inr (3, [.ref q_76, .int 0])), (q_76, .inl (ca 1, 4, .inl (fun _ => 0)))] H := hP
  replace hD : va_D A [(h0, .inr (0, fs_46)), (q_1, .inr (1, q_2)), (q_3, .inr (2, [.ref q_4, .int 0])), (q_4, .inl (ca 0, 16, .inl (fun _ => 0))), (q_14, .inl (ca 4, 148, .inr (.inr (.inr (.inr (fun _ => none)))))), (q_75, .inr (3, [.ref q_76, .int 0])), (q_76, .inl (ca 1, 4, .inl (fun _ => 0)))] := hD
  refine W.eq (g2 := F0 m 506 ls [.ref q_75, .ref h0]) rfl ?_
  refine W.widen (k := 94) (n := 524728) (Nat.le_of_ble_eq_true rfl) (Nat.le_of_ble_eq_true rfl) ?_
  replace hP := hP.sub (ws' := [(h0, .inr (0, fs_46)), (q_1, .inr (1, q_2)), (q_3, .inr (2, [.ref q_4, .int 0])), (q_4, .inl (ca 0, 16, .inl (fun _ => 0))), (q_14, .inl (ca 4, 148, .inr (.inr (.inr (.inr (fun _ => none))))))]) [0, 1, 2, 3, 4] rfl
  replace hD := hD.sub (ws' := [(h0, .inr (0, fs_46)), (q_1, .inr (1, q_2)), (q_3, .inr (2, [.ref q_4, .int 0])), (q_4, .inl (ca 0, 16, .inl (fun _ => 0))), (q_14, .inl (ca 4, 148, .inr (.inr (.inr (.inr (fun _ => none))))))]) [0, 1, 2, 3, 4] (by decide) rfl
  refine m_put M (fs := fs_46) (wt := [(q_1, .inr (1, q_2)), (q_3, .inr (2, [.ref q_4, .int 0])), (q_4, .inl (ca 0, 16, .inl (fun _ => 0))), (q_14, .inl (ca 4, 148, .inr (.inr (.inr (.inr (fun _ => none))))))]) (k := 58) (ty := .object "SourceBackModel$Ints") hP hD hS hlen (by decide) xm_127 rfl rfl (by decide +kernel) rfl rfl d_MM_init_506 ?_
  clear hP hD hS hlen
  intro H locs hlen hP hD hS
  obtain ⟨fs_47, e_47⟩ : ∃ z, z = fs_46.set 58 (.ref q_75) := ⟨_, rfl⟩
  rw [← e_47] at hP hD hlen
  replace hP : va_P (dC, dI) classes [(h0, .inr (0, fs_47)), (q_1, .inr (1, q_2)), (q_3, .inr (2, [.ref q_4, .int 0])), (q_4, .inl (ca 0, 16, .inl (fun _ => 0))), (q_14, .inl (ca 4, 148, .inr (.inr (.inr (.inr (fun _ => none))))))] H := hP
  replace hD : va_D A [(h0, .inr (0, fs_47)), (q_1, .inr (1, q_2)), (q_3, .inr (2, [.ref q_4, .int 0])), (q_4, .inl (ca 0, 16, .inl (fun _ => 0))), (q_14, .inl (ca 4, 148, .inr (.inr (.inr (.inr (fun _ => none))))))] := hD
  refine lv_aload_n hx hb d_MM_init_509 rfl (lv_at hl 0 rfl) ?_
  refine m_new M (wt := [(q_1, .inr (1, q_2)), (q_3, .inr (2, [.ref q_4, .int 0])), (q_4, .inl (ca 0, 16, .inl (fun _ => 0))), (q_14, .inl (ca 4, 148, .inr (.inr (.inr (.inr (fun _ => none))))))]) (ci := 3) (C := R_MI) (T := F_MI) (N := 2) (f0 := [.null, .int 0]) hP hD hS i_MI t_MI_ok xm_32 xm_33 xm_3 rfl (by decide +kernel) (Nat.le_of_ble_eq_true rfl) (Nat.le_of_ble_eq_true rfl) d_MM_init_510 d_MM_init_513 ?_
  clear hP hD hS
  intro q_77 H hP hD hS
  replace hP : va_P (dC, dI) classes [(h0, .inr (0, fs_47)), (q_1, .inr (1, q_2)), (q_3, .inr (2, [.ref q_4, .int 0])), (q_4, .inl (ca 0, 16, .inl (fun _ => 0))), (q_14, .inl (ca 4, 148, .inr (.inr (.inr (.inr (fun _ => none)))))), (q_77, .inr (3, [.null, .int 0]))] H := hP
  replace hD : va_D A [(h0, .inr (0, fs_47)), (q_1, .inr (1, q_2)), (q_3, .inr (2, [.ref q_4, .int 0])), (q_4, .inl (ca 0, 16, .inl (fun _ => 0))), (q_14, .inl (ca 4, 148, .inr (.inr (.inr (.inr (fun _ => none)))))), (q_77, .inr (3, [.null, .int 0]))] := hD
  refine W.widen (k := 95) (n := 524730) (Nat.le_of_ble_eq_true rfl) (Nat.le_of_ble_eq_true rfl) ?_
  refine lv_iconst (v := 4) hx hb d_MM_init_514 (by decide) ?_
  refine ax_I (k := 1) (As := [.int 4]) (rest := [.ref q_77, .ref h0]) (wr := [(h0, .inr (0, fs_47)), (q_1, .inr (1, q_2)), (q_3, .inr (2, [.ref q_4, .int 0])), (q_4, .inl (ca 0, 16, .inl (fun _ => 0))), (q_14, .inl (ca 4, 148, .inr (.inr (.inr (.inr (fun _ => none))))))]) rfl hx hb hml hown hts g_wm (mK_bl dC dI ca) (c_MI_init l dC dI ca q_77) rfl xm_34 xm_35 xm_3 xm_36 (by decide +kernel) rfl (Nat.le_of_ble_eq_true rfl) (Nat.le_of_ble_eq_true rfl) hl.1 (Nat.le_of_ble_eq_true rfl) (mK_up hK) hP hD hS hA [5] [0, 1, 2, 3, 4] rfl (by decide) rfl rfl (by decide) (by decide) (Nat.le_of_ble_eq_true rfl) (Nat.le_of_ble_eq_true rfl) d_MM_init_515 ?_
  clear hP hD hS
  intro v q_78 H locs hp hP hD hS
  obtain rfl : v = none := hp
  replace hP : va_P (dC, dI) classes [(h0, .inr (0, fs_47)), (q_1, .inr (1, q_2)), (q_3, .inr (2, [.ref q_4, .int 0])), (q_4, .inl (ca 0, 16, .inl (fun _ => 0))), (q_14, .inl (ca 4, 148, .inr (.inr (.inr (.inr (fun _ => none)))))), (q_77, .inr (3, [.ref q_78, .int 0])), (q_78, .inl (ca 1, 4, .inl (fun _ => 0)))] H := hP
  replace hD : va_D A [(h0, .inr (0, fs_47)), (q_1, .inr (1, q_2)), (q_3, .inr (2, [.ref q_4, .int 0])), (q_4, .inl (ca 0, 16, .inl (fun _ => 0))), (q_14, .inl (ca 4, 148, .inr (.inr (.inr (.inr (fun _ => none)))))), (q_77, .inr (3, [.ref q_78, .int 0])), (q_78, .inl (ca 1, 4, .inl (fun _ => 0)))] := hD
  refine W.eq (g2 := F0 m 518 ls [.ref q_77, .ref h0]) rfl ?_
  refine W.widen (k := 96) (n := 524734) (Nat.le_of_ble_eq_true rfl) (Nat.le_of_ble_eq_true rfl) ?_
  replace hP := hP.sub (ws' := [(h0, .inr (0, fs_47)), (q_1, .inr (1, q_2)), (q_3, .inr (2, [.ref q_4, .int 0])), (q_4, .inl (ca 0, 16, .inl (fun _ => 0))), (q_14, .inl (ca 4, 148, .inr (.inr (.inr (.inr (fun _ => none))))))]) [0, 1, 2, 3, 4] rfl
  replace hD := hD.sub (ws' := [(h0, .inr (0, fs_47)), (q_1, .inr (1, q_2)), (q_3, .inr (2, [.ref q_4, .int 0])), (q_4, .inl (ca 0, 16, .inl (fun _ => 0))), (q_14, .inl (ca 4, 148, .inr (.inr (.inr (.inr (fun _ => none))))))]) [0, 1, 2, 3, 4] (by decide) rfl
  refine m_put M (fs := fs_47) (wt := [(q_1, .inr (1, q_2)), (q_3, .inr (2, [.ref q_4, .int 0])), (q_4, .inl (ca 0, 16, .inl (fun _ => 0))), (q_14, .inl (ca 4, 148, .inr (.inr (.inr (.inr (fun _ => none))))))]) (k := 59) (ty := .object "SourceBackModel$Ints") hP hD hS hlen (by decide) xm_128 rfl rfl (by decide +kernel) rfl rfl d_MM_init_518 ?_
  clear hP hD hS hlen
  intro H locs hlen hP hD hS
  obtain ⟨fs_48, e_48⟩ : ∃ z, z = fs_47.set 59 (.ref q_77) := ⟨_, rfl⟩
  rw [← e_48] at hP hD hlen
  replace hP : va_P (dC, dI) classes [(h0, .inr (0, fs_48)), (q_1, .inr (1, q_2)), (q_3, .inr (2, [.ref q_4, .int 0])), (q_4, .inl (ca 0, 16, .inl (fun _ => 0))), (q_14, .inl (ca 4, 148, .inr (.inr (.inr (.inr (fun _ => none))))))] H := hP
  replace hD : va_D A [(h0, .inr (0, fs_48)), (q_1, .inr (1, q_2)), (q_3, .inr (2, [.ref q_4, .int 0])), (q_4, .inl (ca 0, 16, .inl (fun _ => 0))), (q_14, .inl (ca 4, 148, .inr (.inr (.inr (.inr (fun _ => none))))))] := hD
  refine lv_aload_n hx hb d_MM_init_521 rfl (lv_at hl 0 rfl) ?_
  refine m_new M (wt := [(q_1, .inr (1, q_2)), (q_3, .inr (2, [.ref q_4, .int 0])), (q_4, .inl (ca 0, 16, .inl (fun _ => 0))), (q_14, .inl (ca 4, 148, .inr (.inr (.inr (.inr (fun _ => none))))))]) (ci := 3) (C := R_MI) (T := F_MI) (N := 2) (f0 := [.null, .int 0]) hP hD hS i_MI t_MI_ok xm_32 xm_33 xm_3 rfl (by decide +kernel) (Nat.le_of_ble_eq_true rfl) (Nat.le_of_ble_eq_true rfl) d_MM_init_522 d_MM_init_525 ?_
  clear hP hD hS
  intro q_79 H hP hD hS
  replace hP : va_P (dC, dI) classes [(h0, .inr (0, fs_48)), (q_1, .inr (1, q_2)), (q_3, .inr (2, [.ref q_4, .int 0])), (q_4, .inl (ca 0, 16, .inl (fun _ => 0))), (q_14, .inl (ca 4, 148, .inr (.inr (.inr (.inr (fun _ => none)))))), (q_79, .inr (3, [.null, .int 0]))] H := hP
  replace hD : va_D A [(h0, .inr (0, fs_48)), (q_1, .inr (1, q_2)), (q_3, .inr (2, [.ref q_4, .int 0])), (q_4, .inl (ca 0, 16, .inl (fun _ => 0))), (q_14, .inl (ca 4, 148, .inr (.inr (.inr (.inr (fun _ => none)))))), (q_79, .inr (3, [.null, .int 0]))] := hD
  refine W.widen (k := 97) (n := 524736) (Nat.le_of_ble_eq_true rfl) (Nat.le_of_ble_eq_true rfl) ?_
  refine lv_iconst (v := 4) hx hb d_MM_init_526 (by decide) ?_
  refine ax_I (k := 1) (As := [.int 4]) (rest := [.ref q_79, .ref h0]) (wr := [(h0, .inr (0, fs_48)), (q_1, .inr (1, q_2)), (q_3, .inr (2, [.ref q_4, .int 0])), (q_4, .inl (ca 0, 16, .inl (fun _ => 0))), (q_14, .inl (ca 4, 148, .inr (.inr (.inr (.inr (fun _ => none))))))]) rfl hx hb hml hown hts g_wm (mK_bl dC dI ca) (c_MI_init l dC dI ca q_79) rfl xm_34 xm_35 xm_3 xm_36 (by decide +kernel) rfl (Nat.le_of_ble_eq_true rfl) (Nat.le_of_ble_eq_true rfl) hl.1 (Nat.le_of_ble_eq_true rfl) (mK_up hK) hP hD hS hA [5] [0, 1, 2, 3, 4] rfl (by decide) rfl rfl (by decide) (by decide) (Nat.le_of_ble_eq_true rfl) (Nat.le_of_ble_eq_true rfl) d_MM_init_527 ?_
  clear hP hD hS
  intro v q_80 H locs hp hP hD hS
  obtain rfl : v = none := hp
  replace hP : va_P (dC, dI) classes [(h0, .inr (0, fs_48)), (q_1, .inr (1, q_2)), (q_3, .inr (2, [.ref q_4, .int 0])), (q_4, .inl (ca 0, 16, .inl (fun _ => 0))), (q_14, .inl (ca 4, 148, .inr (.inr (.inr (.inr (fun _ => none)))))), (q_79, .inr (3, [.ref q_80, .int 0])), (q_80, .inl (ca 1, 4, .inl (fun _ => 0)))] H := hP
  replace hD : va_D A [(h0, .inr (0, fs_48)), (q_1, .inr (1, q_2)), (q_3, .inr (2, [.ref q_4, .int 0])), (q_4, .inl (ca 0, 16, .inl (fun _ => 0))), (q_14, .inl (ca 4, 148, .inr (.inr (.inr (.inr (fun _ => none)))))), (q_79, .inr (3, [.ref q_80, .int 0])), (q_80, .inl (ca 1, 4, .inl (fun _ => 0)))] := hD
  refine W.eq (g2 := F0 m 530 ls [.ref q_79, .ref h0]) rfl ?_
  refine W.widen (k := 98) (n := 524740) (Nat.le_of_ble_eq_true rfl) (Nat.le_of_ble_eq_true rfl) ?_
  replace hP := hP.sub (ws' := [(h0, .inr (0, fs_48)), (q_1, .inr (1, q_2)), (q_3, .inr (2, [.ref q_4, .int 0])), (q_4, .inl (ca 0, 16, .inl (fun _ => 0))), (q_14, .inl (ca 4, 148, .inr (.inr (.inr (.inr (fun _ => none))))))]) [0, 1, 2, 3, 4] rfl
  replace hD := hD.sub (ws' := [(h0, .inr (0, fs_48)), (q_1, .inr (1, q_2)), (q_3, .inr (2, [.ref q_4, .int 0])), (q_4, .inl (ca 0, 16, .inl (fun _ => 0))), (q_14, .inl (ca 4, 148, .inr (.inr (.inr (.inr (fun _ => none))))))]) [0, 1, 2, 3, 4] (by decide) rfl
  refine m_put M (fs := fs_48) (wt := [(q_1, .inr (1, q_2)), (q_3, .inr (2, [.ref q_4, .int 0])), (q_4, .inl (ca 0, 16, .inl (fun _ => 0))), (q_14, .inl (ca 4, 148, .inr (.inr (.inr (.inr (fun _ => none))))))]) (k := 60) (ty := .object "SourceBackModel$Ints") hP hD hS hlen (by decide) xm_129 rfl rfl (by decide +kernel) rfl rfl d_MM_init_530 ?_
  clear hP hD hS hlen
  intro H locs hlen hP hD hS
  obtain ⟨fs_49, e_49⟩ : ∃ z, z = fs_48.set 60 (.ref q_79) := ⟨_, rfl⟩
  rw [← e_49] at hP hD hlen
  replace hP : va_P (dC, dI) classes [(h0, .inr (0, fs_49)), (q_1, .inr (1, q_2)), (q_3, .inr (2, [.ref q_4, .int 0])), (q_4, .inl (ca 0, 16, .inl (fun _ => 0))), (q_14, .inl (ca 4, 148, .inr (.inr (.inr (.inr (fun _ => none))))))] H := hP
  replace hD : va_D A [(h0, .inr (0, fs_49)), (q_1, .inr (1, q_2)), (q_3, .inr (2, [.ref q_4, .int 0])), (q_4, .inl (ca 0, 16, .inl (fun _ => 0))), (q_14, .inl (ca 4, 148, .inr (.inr (.inr (.inr (fun _ => none))))))] := hD
  refine lv_aload_n hx hb d_MM_init_533 rfl (lv_at hl 0 rfl) ?_
  refine m_new M (wt := [(q_1, .inr (1, q_2)), (q_3, .inr (2, [.ref q_4, .int 0])), (q_4, .inl (ca 0, 16, .inl (fun _ => 0))), (q_14, .inl (ca 4, 148, .inr (.inr (.inr (.inr (fun _ => none))))))]) (ci := 4) (C := R_ML) (T := F_ML) (N := 2) (f0 := [.null, .int 0]) hP hD hS i_ML t_ML_ok xm_69 xm_50 xm_5 rfl (by decide +kernel) (Nat.le_of_ble_eq_true rfl) (Nat.le_of_ble_eq_true rfl) d_MM_init_534 d_MM_init_537 ?_
  clear hP hD hS
  intro q_81 H hP hD hS
  replace hP : va_P (dC, dI) classes [(h0, .inr (0, fs_49)), (q_1, .inr (1, q_2)), (q_3, .inr (2, [.ref q_4, .int 0])), (q_4, .inl (ca 0, 16, .inl (fun _ => 0))), (q_14, .inl (ca 4, 148, .inr (.inr (.inr (.inr (fun _ => none)))))), (q_81, .inr (4, [.null, .int 0]))] H := hP
  replace hD : va_D A [(h0, .inr (0, fs_49)), (q_1, .inr (1, q_2)), (q_3, .inr (2, [.ref q_4, .int 0])), (q_4, .inl (ca 0, 16, .inl (fun _ => 0))), (q_14, .inl (ca 4, 148, .inr (.inr (.inr (.inr (fun _ => none)))))), (q_81, .inr (4, [.null, .int 0]))] := hD
  refine W.widen (k := 99) (n := 524742) (Nat.le_of_ble_eq_true rfl) (Nat.le_of_ble_eq_true rfl) ?_
  refine lv_iconst (v := 4) hx hb d_MM_init_538 (by decide) ?_
  refine ax_I (k := 1) (As := [.int 4]) (rest := [.ref q_81, .ref h0]) (wr := [(h0, .inr (0, fs_49)), (q_1, .inr (1, q_2)), (q_3, .inr (2, [.ref q_4, .int 0])), (q_4, .inl (ca 0, 16, .inl (fun _ => 0))), (q_14, .inl (ca 4, 148, .inr (.inr (.inr (.inr (fun _ => none))))))]) rfl hx hb hml hown hts g_wm (mK_bl dC dI ca) (c_ML_init l dC dI ca q_81) rfl xm_70 xm_52 xm_5 xm_53 (by decide +kernel) rfl (Nat.le_of_ble_eq_true rfl) (Nat.le_of_ble_eq_true rfl) hl.1 (Nat.le_of_ble_eq_true rfl) (mK_up hK) hP hD hS hA [5] [0, 1, 2, 3, 4] rfl (by decide) rfl rfl (by decide) (by decide) (Nat.le_of_ble_eq_true rfl) (Nat.le_of_ble_eq_true rfl) d_MM_init_539 ?_
  clear hP hD hS
  intro v q_82 H locs hp hP hD hS
  obtain rfl : v = none := hp
  replace hP : va_P (dC, dI) classes [(h0, .inr (0, fs_49)), (q_1, .inr (1, q_2)), (q_3, .inr (2, [.ref q_4, .int 0])), (q_4, .inl (ca 0, 16, .inl (fun _ => 0))), (q_14, .inl (ca 4, 148, .inr (.inr (.inr (.inr (fun _ => none)))))), (q_81, .inr (4, [.ref q_82, .int 0])), (q_82, .inl (ca 2, 4, .inr (.inl (fun _ => 0))))] H := hP
  replace hD : va_D A [(h0, .inr (0, fs_49)), (q_1, .inr (1, q_2)), (q_3, .inr (2, [.ref q_4, .int 0])), (q_4, .inl (ca 0, 16, .inl (fun _ => 0))), (q_14, .inl (ca 4, 148, .inr (.inr (.inr (.inr (fun _ => none)))))), (q_81, .inr (4, [.ref q_82, .int 0])), (q_82, .inl (ca 2, 4, .inr (.inl (fun _ => 0))))] := hD
  refine W.eq (g2 := F0 m 542 ls [.ref q_81, .ref h0]) rfl ?_
  refine W.widen (k := 100) (n := 524746) (Nat.le_of_ble_eq_true rfl) (Nat.le_of_ble_eq_true rfl) ?_
  replace hP := hP.sub (ws' := [(h0, .inr (0, fs_49)), (q_1, .inr (1, q_2)), (q_3, .inr (2, [.ref q_4, .int 0])), (q_4, .inl (ca 0, 16, .inl (fun _ => 0))), (q_14, .inl (ca 4, 148, .inr (.inr (.inr (.inr (fun _ => none))))))]) [0, 1, 2, 3, 4] rfl
  replace hD := hD.sub (ws' := [(h0, .inr (0, fs_49)), (q_1, .inr (1, q_2)), (q_3, .inr (2, [.ref q_4, .int 0])), (q_4, .inl (ca 0, 16, .inl (fun _ => 0))), (q_14, .inl (ca 4, 148, .inr (.inr (.inr (.inr (fun _ => none))))))]) [0, 1, 2, 3, 4] (by decide) rfl
  refine m_put M (fs := fs_49) (wt := [(q_1, .inr (1, q_2)), (q_3, .inr (2, [.ref q_4, .int 0])), (q_4, .inl (ca 0, 16, .inl (fun _ => 0))), (q_14, .inl (ca 4, 148, .inr (.inr (.inr (.inr (fun _ => none))))))]) (k := 61) (ty := .object "SourceBackModel$Longs") hP hD hS hlen (by decide) xm_130 rfl rfl (by decide +kernel) rfl rfl d_MM_init_542 ?_
  clear hP hD hS hlen
  intro H locs hlen hP hD hS
  obtain ⟨fs_50, e_50⟩ : ∃ z, z = fs_49.set 61 (.ref q_81) := ⟨_, rfl⟩
  rw [← e_50] at hP hD hlen
  replace hP : va_P (dC, dI) classes [(h0, .inr (0, fs_50)), (q_1, .inr (1, q_2)), (q_3, .inr (2, [.ref q_4, .int 0])), (q_4, .inl (ca 0, 16, .inl (fun _ => 0))), (q_14, .inl (ca 4, 148, .inr (.inr (.inr (.inr (fun _ => none))))))] H := hP
  replace hD : va_D A [(h0, .inr (0, fs_50)), (q_1, .inr (1, q_2)), (q_3, .inr (2, [.ref q_4, .int 0])), (q_4, .inl (ca 0, 16, .inl (fun _ => 0))), (q_14, .inl (ca 4, 148, .inr (.inr (.inr (.inr (fun _ => none))))))] := hD
  subst e_50 e_49 e_48 e_47 e_46
  exact kk q_73 q_75 q_77 q_79 q_81 H locs hlen hP hD hS
set_option maxHeartbeats 4000000 in
set_option maxRecDepth 100000 in
theorem mi_50 {p : Program} {l : Launch} {e : Env} {s : State} {m : MethodId} {args : Array Value} {below : List Frame} {meth : Method} {c : Code} {H : Heap} {locs : List Loc} {Q : State → Prop} {dC : Nat → ClassId} {dI : Nat → Nat → Nat} {ca : Nat → ClassId} {A : Nat → Prop} {ls : Array Slot} {h0 : Nat} {sa : Nat → Nat} (M : mC p s m args meth c dC dI ca A ls h0) (hks : ∀ (i : Nat) (z : Nat × String), strs[i]? = some z → vk_R R_MM z.1 z.2 (sa i) s ∧ va_Any "java/lang/String" s s.heap (sa i) ∧ sa i ≠ h0) (hnA : ∀ (i : Nat) (z : Nat × String), strs[i]? = some z → ¬ A (sa i)) {fs_50 : List Value} {q_1 : Nat} {q_2 : List Value} {q_3 : Nat} {q_4 : Nat} {q_14 : Nat} (hP : va_P (dC, dI) classes ((h0, .inr (0, fs_50)) :: [(q_1, .inr (1, q_2)), (q_3, .inr (2, [.ref q_4, .int 0])), (q_4, .inl (ca 0, 16, .inl (fun _ => 0))), (q_14, .inl (ca 4, 148, .inr (.inr (.inr (.inr (fun _ => none))))))]) H) (hD : va_D A ((h0, .inr (0, fs_50)) :: [(q_1, .inr (1, q_2)), (q_3, .inr (2, [.ref q_4, .int 0])), (q_4, .inl (ca 0, 16, .inl (fun _ => 0))), (q_14, .inl (ca 4, 148, .inr (.inr (.inr (.inr (fun _ => none))))))])) (hS : va_S A s.heap H locs) (hlen : fs_50.length = 132)
    (kk : ∀ (q_83 q_84 q_86 q_88 q_89 q_91 : Nat) (H : Heap) (locs : List Loc), ((((((fs_50.set 64 (.ref q_83)).set 70 (.ref q_84)).set 72 (.ref q_86)).set 73 (.ref q_88)).set 76 (.ref q_89)).set 77 (.ref q_91)).length = 132 → va_P (dC, dI) classes ((h0, .inr (0, (((((fs_50.set 64 (.ref q_83)).set 70 (.ref q_84)).set 72 (.ref q_86)).set 73 (.ref q_88)).set 76 (.ref q_89)).set 77 (.ref q_91))) :: [(q_1, .inr (1, q_2)), (q_3, .inr (2, [.ref q_4, .int 0])), (q_4, .inl (ca 0, 16, .inl (fun _ => 0))), (q_14, .inl (ca 4, 148, .inr (.inr (.inr (.inr (fun _ => none))))))]) H → va_D A ((h0, .inr (0, (((((fs_50.set 64 (.ref q_83)).set 70 (.ref q_84)).set 72 (.ref q_86)).set 73 (.ref q_88)).set 76 (.ref q_89)).set 77 (.ref q_91))) :: [(q_1, .inr (1, q_2)), (q_3, .inr (2, [.ref q_4, .int 0])), (q_4, .inl (ca 0, 16, .inl (fun _ => 0))), (q_14, .inl (ca 4, 148, .inr (.inr (.inr (.inr (fun _ => none))))))]) → va_S A s.heap H locs → W p l e ({ frames := 7, cells := 166, slots := 640022, locals := 100 }) s m args below meth c H locs 110 524970 Q (F0 m 609 ls [])) :
    W p l e ({ frames := 7, cells := 166, slots := 640022, locals := 100 }) s m args below meth c H locs 100 524746 Q (F0 m 545 ls []) := by
  obtain ⟨hx, hb, hml, hown, hts, hin, hK, hA, hl⟩ := id M
  refine lv_aload_n hx hb d_MM_init_545 rfl (lv_at hl 0 rfl) ?_
  refine lv_bipush (v := 80) hx hb d_MM_init_546 (by decide +kernel) ?_
  refine m_arr M (atype := .int) (ty := .int) (fs := fs_50) (wt := [(q_1, .inr (1, q_2)), (q_3, .inr (2, [.ref q_4, .int 0])), (q_4, .inl (ca 0, 16, .inl (fun _ => 0))), (q_14, .inl (ca 4, 148, .inr (.inr (.inr (.inr (fun _ => none))))))]) (t0 := 1) (n := 80) (N' := 80) (k := 64) (tf := .array (.int)) (a0 := (80, .inl (fun _ => 0))) hP hD hS hlen rfl xm_11 rfl (fun C h => by cases h) (m_a_int 80) (by decide +kernel) (by decide +kernel) (by decide +kernel) (by decide) xm_131 rfl rfl (by decide +kernel) (fun _ => rfl) (fun _ => rfl) (Nat.le_of_ble_eq_true rfl) (Nat.le_of_ble_eq_true rfl) d_MM_init_548 d_MM_init_550 ?_
  clear hP hD hS hlen
  intro q_83 H locs hlen hP hD hS
  obtain ⟨fs_51, e_51⟩ : ∃ z, z = fs_50.set 64 (.ref q_83) := ⟨_, rfl⟩
  rw [← e_51] at hP hD hlen
  replace hP : va_P (dC, dI) classes [(h0, .inr (0, fs_51)), (q_1, .inr (1, q_2)), (q_3, .inr (2, [.ref q_4, .int 0])), (q_4, .inl (ca 0, 16, .inl (fun _ => 0))), (q_14, .inl (ca 4, 148, .inr (.inr (.inr (.inr (fun _ => none))))))] H := hP
  replace hD : va_D A [(h0, .inr (0, fs_51)), (q_1, .inr (1, q_2)), (q_3, .inr (2, [.ref q_4, .int 0])), (q_4, .inl (ca 0, 16, .inl (fun _ => 0))), (q_14, .inl (ca 4, 148, .inr (.inr (.inr (.inr (fun _ => none))))))] := hD
  refine W.widen (k := 101) (n := 524826) (Nat.le_of_ble_eq_true rfl) (Nat.le_of_ble_eq_true rfl) ?_
  refine lv_aload_n hx hb d_MM_init_553 rfl (lv_at hl 0 rfl) ?_
  refine m_new M (wt := [(q_1, .inr (1, q_2)), (q_3, .inr (2, [.ref q_4, .int 0])), (q_4, .inl (ca 0, 16, .inl (fun _ => 0))), (q_14, .inl (ca 4, 148, .inr (.inr (.inr (.inr (fun _ => none))))))]) (ci := 3) (C := R_MI) (T := F_MI) (N := 2) (f0 := [.null, .int 0]) hP hD hS i_MI t_MI_ok xm_32 xm_33 xm_3 rfl (by decide +kernel) (Nat.le_of_ble_eq_true rfl) (Nat.le_of_ble_eq_true rfl) d_MM_init_554 d_MM_init_557 ?_
  clear hP hD hS
  intro q_84 H hP hD hS
  replace hP : va_P (dC, dI) classes [(h0, .inr (0, fs_51)), (q_1, .inr (1, q_2)), (q_3, .inr (2, [.ref q_4, .int 0])), (q_4, .inl (ca 0, 16, .inl (fun _ => 0))), (q_14, .inl (ca 4, 148, .inr (.inr (.inr (.inr (fun _ => none)))))), (q_84, .inr (3, [.null, .int 0]))] H := hP
  replace hD : va_D A [(h0, .inr (0, fs_51)), (q_1, .inr (1, q_2)), (q_3, .inr (2, [.ref q_4, .int 0])), (q_4, .inl (ca 0, 16, .inl (fun _ => 0))), (q_14, .inl (ca 4, 148, .inr (.inr (.inr (.inr (fun _ => none)))))), (q_84, .inr (3, [.null, .int 0]))] := hD
  refine W.widen (k := 102) (n := 524828) (Nat.le_of_ble_eq_true rfl) (Nat.le_of_ble_eq_true rfl) ?_
  refine lv_iconst (v := 4) hx hb d_MM_init_558 (by decide) ?_
  refine ax_I (k := 1) (As := [.int 4]) (rest := [.ref q_84, .ref h0]) (wr := [(h0, .inr (0, fs_51)), (q_1, .inr (1, q_2)), (q_3, .inr (2, [.ref q_4, .int 0])), (q_4, .inl (ca 0, 16, .inl (fun _ => 0))), (q_14, .inl (ca 4, 148, .inr (.inr (.inr (.inr (fun _ => none))))))]) rfl hx hb hml hown hts g_wm (mK_bl dC dI ca) (c_MI_init l dC dI ca q_84) rfl xm_34 xm_35 xm_3 xm_36 (by decide +kernel) rfl (Nat.le_of_ble_eq_true rfl) (Nat.le_of_ble_eq_true rfl) hl.1 (Nat.le_of_ble_eq_true rfl) (mK_up hK) hP hD hS hA [5] [0, 1, 2, 3, 4] rfl (by decide) rfl rfl (by decide) (by decide) (Nat.le_of_ble_eq_true rfl) (Nat.le_of_ble_eq_true rfl) d_MM_init_559 ?_
  clear hP hD hS
  intro v q_85 H locs hp hP hD hS
  obtain rfl : v = none := hp
  replace hP : va_P (dC, dI) classes [(h0, .inr (0, fs_51)), (q_1, .inr (1, q_2)), (q_3, .inr (2, [.ref q_4, .int 0])), (q_4, .inl (ca 0, 16, .inl (fun _ => 0))), (q_14, .inl (ca 4, 148, .inr (.inr (.inr (.inr (fun _ => none)))))), (q_84, .inr (3, [.ref q_85, .int 0])), (q_85, .inl (ca 1, 4, .inl (fun _ => 0)))] H := hP
  replace hD : va_D A [(h0, .inr (0, fs_51)), (q_1, .inr (1, q_2)), (q_3, .inr (2, [.ref q_4, .int 0])), (q_4, .inl (ca 0, 16, .inl (fun _ => 0))), (q_14, .inl (ca 4, 148, .inr (.inr (.inr (.inr (fun _ => none)))))), (q_84, .inr (3, [.ref q_85, .int 0])), (q_85, .inl (ca 1, 4, .inl (fun _ => 0)))] := hD
  refine W.eq (g2 := F0 m 562 ls [.ref q_84, .ref h0]) rfl ?_
  refine W.widen (k := 103) (n := 524832) (Nat.le_of_ble_eq_true rfl) (Nat.le_of_ble_eq_true rfl) ?_
  replace hP := hP.sub (ws' := [(h0, .inr (0, fs_51)), (q_1, .inr (1, q_2)), (q_3, .inr (2, [.ref q_4, .int 0])), (q_4, .inl (ca 0, 16, .inl (fun _ => 0))), (q_14, .inl (ca 4, 148, .inr (.inr (.inr (.inr (fun _ => none))))))]) [0, 1, 2, 3, 4] rfl
  replace hD := hD.sub (ws' := [(h0, .inr (0, fs_51)), (q_1, .inr (1, q_2)), (q_3, .inr (2, [.ref q_4, .int 0])), (q_4, .inl (ca 0, 16, .inl (fun _ => 0))), (q_14, .inl (ca 4, 148, .inr (.inr (.inr (.inr (fun _ => none))))))]) [0, 1, 2, 3, 4] (by decide) rfl
  refine m_put M (fs := fs_51) (wt := [(q_1, .inr (1, q_2)), (q_3, .inr (2, [.ref q_4, .int 0])), (q_4, .inl (ca 0, 16, .inl (fun _ => 0))), (q_14, .inl (ca 4, 148, .inr (.inr (.inr (.inr (fun _ => none))))))]) (k := 70) (ty := .object "SourceBackModel$Ints") hP hD hS hlen (by decide) xm_133 rfl rfl (by decide +kernel) rfl rfl d_MM_init_562 ?_
  clear hP hD hS hlen
  intro H locs hlen hP hD hS
  obtain ⟨fs_52, e_52⟩ : ∃ z, z = fs_51.set 70 (.ref q_84) := ⟨_, rfl⟩
  rw [← e_52] at hP hD hlen
  replace hP : va_P (dC, dI) classes [(h0, .inr (0, fs_52)), (q_1, .inr (1, q_2)), (q_3, .inr (2, [.ref q_4, .int 0])), (q_4, .inl (ca 0, 16, .inl (fun _ => 0))), (q_14, .inl (ca 4, 148, .inr (.inr (.inr (.inr (fun _ => none))))))] H := hP
  replace hD : va_D A [(h0, .inr (0, fs_52)), (q_1, .inr (1, q_2)), (q_3, .inr (2, [.ref q_4, .int 0])), (q_4, .inl (ca 0, 16, .inl (fun _ => 0))), (q_14, .inl (ca 4, 148, .inr (.inr (.inr (.inr (fun _ => none))))))] := hD
  refine lv_aload_n hx hb d_MM_init_565 rfl (lv_at hl 0 rfl) ?_
  refine m_new M (wt := [(q_1, .inr (1, q_2)), (q_3, .inr (2, [.ref q_4, .int 0])), (q_4, .inl (ca 0, 16, .inl (fun _ => 0))), (q_14, .inl (ca 4, 148, .inr (.inr (.inr (.inr (fun _ => none))))))]) (ci := 3) (C := R_MI) (T := F_MI) (N := 2) (f0 := [.null, .int 0]) hP hD hS i_MI t_MI_ok xm_32 xm_33 xm_3 rfl (by decide +kernel) (Nat.le_of_ble_eq_true rfl) (Nat.le_of_ble_eq_true rfl) d_MM_init_566 d_MM_init_569 ?_
  clear hP hD hS
  intro q_86 H hP hD hS
  replace hP : va_P (dC, dI) classes [(h0, .inr (0, fs_52)), (q_1, .inr (1, q_2)), (q_3, .inr (2, [.ref q_4, .int 0])), (q_4, .inl (ca 0, 16, .inl (fun _ => 0))), (q_14, .inl (ca 4, 148, .inr (.inr (.inr (.inr (fun _ => none)))))), (q_86, .inr (3, [.null, .int 0]))] H := hP
  replace hD : va_D A [(h0, .inr (0, fs_52)), (q_1, .inr (1, q_2)), (q_3, .inr (2, [.ref q_4, .int 0])), (q_4, .inl (ca 0, 16, .inl (fun _ => 0))), (q_14, .inl (ca 4, 148, .inr (.inr (.inr (.inr (fun _ => none)))))), (q_86, .inr (3, [.null, .int 0]))] := hD
  refine W.widen (k := 104) (n := 524834) (Nat.le_of_ble_eq_true rfl) (Nat.le_of_ble_eq_true rfl) ?_
  refine lv_iconst (v := 4) hx hb d_MM_init_570 (by decide) ?_
  refine ax_I (k := 1) (As := [.int 4]) (rest := [.ref q_86, .ref h0]) (wr := [(h0, .inr (0, fs_52)), (q_1, .inr (1, q_2)), (q_3, .inr (2, [.ref q_4, .int 0])), (q_4, .inl (ca 0, 16, .inl (fun _ => 0))), (q_14, .inl (ca 4, 148, .inr (.inr (.inr (.inr (fun _ => none))))))]) rfl hx hb hml hown hts g_wm (mK_bl dC dI ca) (c_MI_init l dC dI ca q_86) rfl xm_34 xm_35 xm_3 xm_36 (by decide +kernel) rfl (Nat.le_of_ble_eq_true rfl) (Nat.le_of_ble_eq_true rfl) hl.1 (Nat.le_of_ble_eq_true rfl) (mK_up hK) hP hD hS hA [5] [0, 1, 2, 3, 4] rfl (by decide) rfl rfl (by decide) (by decide) (Nat.le_of_ble_eq_true rfl) (Nat.le_of_ble_eq_true rfl) d_MM_init_571 ?_
  clear hP hD hS
  intro v q_87 H locs hp hP hD hS
  obtain rfl : v = none := hp
  replace hP : va_P (dC, dI) classes [(h0, .inr (0, fs_52)), (q_1, .inr (1, q_2)), (q_3, .inr (2, [.ref q_4, .int 0])), (q_4, .inl (ca 0, 16, .inl (fun _ => 0))), (q_14, .inl (ca 4, 148, .inr (.inr (.inr (.inr (fun _ => none)))))), (q_86, .inr (3, [.ref q_87, .int 0])), (q_87, .inl (ca 1, 4, .inl (fun _ => 0)))] H := hP
  replace hD : va_D A [(h0, .inr (0, fs_52)), (q_1, .inr (1, q_2)), (q_3, .inr (2, [.ref q_4, .int 0])), (q_4, .inl (ca 0, 16, .inl (fun _ => 0))), (q_14, .inl (ca 4, 148, .inr (.inr (.inr (.inr (fun _ => none)))))), (q_86, .inr (3, [.ref q_87, .int 0])), (q_87, .inl (ca 1, 4, .inl (fun _ => 0)))] := hD
  refine W.eq (g2 := F0 m 574 ls [.ref q_86, .ref h0]) rfl ?_
  refine W.widen (k := 105) (n := 524838) (Nat.le_of_ble_eq_true rfl) (Nat.le_of_ble_eq_true rfl) ?_
  replace hP := hP.sub (ws' := [(h0, .inr (0, fs_52)), (q_1, .inr (1, q_2)), (q_3, .inr (2, [.ref q_4, .int 0])), (q_4, .inl (ca 0, 16, .inl (fun _ => 0))), (q_14, .inl (ca 4, 148, .inr (.inr (.inr (.inr (fun _ => none))))))]) [0, 1, 2, 3, 4] rfl
  replace hD := hD.sub (ws' := [(h0, .inr (0, fs_52)), (q_1, .inr (1, q_2)), (q_3, .inr (2, [.ref q_4, .int 0])), (q_4, .inl (ca 0, 16, .inl (fun _ => 0))), (q_14, .inl (ca 4, 148, .inr (.inr (.inr (.inr (fun _ => none))))))]) [0, 1, 2, 3, 4] (by decide) rfl
  refine m_put M (fs := fs_52) (wt := [(q_1, .inr (1, q_2)), (q_3, .inr (2, [.ref q_4, .int 0])), (q_4, .inl (ca 0, 16, .inl (fun _ => 0))), (q_14, .inl (ca 4, 148, .inr (.inr (.inr (.inr (fun _ => none))))))]) (k := 72) (ty := .object "SourceBackModel$Ints") hP hD hS hlen (by decide) xm_134 rfl rfl (by decide +kernel) rfl rfl d_MM_init_574 ?_
  clear hP hD hS hlen
  intro H locs hlen hP hD hS
  obtain ⟨fs_53, e_53⟩ : ∃ z, z = fs_52.set 72 (.ref q_86) := ⟨_, rfl⟩
  rw [← e_53] at hP hD hlen
  replace hP : va_P (dC, dI) classes [(h0, .inr (0, fs_53)), (q_1, .inr (1, q_2)), (q_3, .inr (2, [.ref q_4, .int 0])), (q_4, .inl (ca 0, 16, .inl (fun _ => 0))), (q_14, .inl (ca 4, 148, .inr (.inr (.inr (.inr (fun _ => none))))))] H := hP
  replace hD : va_D A [(h0, .inr (0, fs_53)), (q_1, .inr (1, q_2)), (q_3, .inr (2, [.ref q_4, .int 0])), (q_4, .inl (ca 0, 16, .inl (fun _ => 0))), (q_14, .inl (ca 4, 148, .inr (.inr (.inr (.inr (fun _ => none))))))] := hD
  refine lv_aload_n hx hb d_MM_init_577 rfl (lv_at hl 0 rfl) ?_
  refine lv_bipush (v := 120) hx hb d_MM_init_578 (by decide +kernel) ?_
  refine m_arr M (atype := .boolean) (ty := .boolean) (fs := fs_53) (wt := [(q_1, .inr (1, q_2)), (q_3, .inr (2, [.ref q_4, .int 0])), (q_4, .inl (ca 0, 16, .inl (fun _ => 0))), (q_14, .inl (ca 4, 148, .inr (.inr (.inr (.inr (fun _ => none))))))]) (t0 := 3) (n := 120) (N' := 120) (k := 73) (tf := .array (.boolean)) (a0 := (120, .inl (fun _ => 0))) hP hD hS hlen rfl xm_174 rfl (fun C h => by cases h) (m_a_boolean 120) (by decide +kernel) (by decide +kernel) (by decide +kernel) (by decide) xm_135 rfl rfl (by decide +kernel) (fun _ => rfl) (fun _ => rfl) (Nat.le_of_ble_eq_true rfl) (Nat.le_of_ble_eq_true rfl) d_MM_init_580 d_MM_init_582 ?_
  clear hP hD hS hlen
  intro q_88 H locs hlen hP hD hS
  obtain ⟨fs_54, e_54⟩ : ∃ z, z = fs_53.set 73 (.ref q_88) := ⟨_, rfl⟩
  rw [← e_54] at hP hD hlen
  replace hP : va_P (dC, dI) classes [(h0, .inr (0, fs_54)), (q_1, .inr (1, q_2)), (q_3, .inr (2, [.ref q_4, .int 0])), (q_4, .inl (ca 0, 16, .inl (fun _ => 0))), (q_14, .inl (ca 4, 148, .inr (.inr (.inr (.inr (fun _ => none))))))] H := hP
  replace hD : va_D A [(h0, .inr (0, fs_54)), (q_1, .inr (1, q_2)), (q_3, .inr (2, [.ref q_4, .int 0])), (q_4, .inl (ca 0, 16, .inl (fun _ => 0))), (q_14, .inl (ca 4, 148, .inr (.inr (.inr (.inr (fun _ => none))))))] := hD
  refine W.widen (k := 106) (n := 524958) (Nat.le_of_ble_eq_true rfl) (Nat.le_of_ble_eq_true rfl) ?_
  refine lv_aload_n hx hb d_MM_init_585 rfl (lv_at hl 0 rfl) ?_
  refine m_new M (wt := [(q_1, .inr (1, q_2)), (q_3, .inr (2, [.ref q_4, .int 0])), (q_4, .inl (ca 0, 16, .inl (fun _ => 0))), (q_14, .inl (ca 4, 148, .inr (.inr (.inr (.inr (fun _ => none))))))]) (ci := 3) (C := R_MI) (T := F_MI) (N := 2) (f0 := [.null, .int 0]) hP hD hS i_MI t_MI_ok xm_32 xm_33 xm_3 rfl (by decide +kernel) (Nat.le_of_ble_eq_true rfl) (Nat.le_of_ble_eq_true rfl) d_MM_init_586 d_MM_init_589 ?_
  clear hP hD hS
  intro q_89 H hP hD hS
  replace hP : va_P (dC, dI) classes [(h0, .inr (0, fs_54)), (q_1, .inr (1, q_2)), (q_3, .inr (2, [.ref q_4, .int 0])), (q_4, .inl (ca 0, 16, .inl (fun _ => 0))), (q_14, .inl (ca 4, 148, .inr (.inr (.inr (.inr (fun _ => none)))))), (q_89, .inr (3, [.null, .int 0]))] H := hP
  replace hD : va_D A [(h0, .inr (0, fs_54)), (q_1, .inr (1, q_2)), (q_3, .inr (2, [.ref q_4, .int 0])), (q_4, .inl (ca 0, 16, .inl (fun _ => 0))), (q_14, .inl (ca 4, 148, .inr (.inr (.inr (.inr (fun _ => none)))))), (q_89, .inr (3, [.null, .int 0]))] := hD
  refine W.widen (k := 107) (n := 524960) (Nat.le_of_ble_eq_true rfl) (Nat.le_of_ble_eq_true rfl) ?_
  refine lv_iconst (v := 4) hx hb d_MM_init_590 (by decide) ?_
  refine ax_I (k := 1) (As := [.int 4]) (rest := [.ref q_89, .ref h0]) (wr := [(h0, .inr (0, fs_54)), (q_1, .inr (1, q_2)), (q_3, .inr (2, [.ref q_4, .int 0])), (q_4, .inl (ca 0, 16, .inl (fun _ => 0))), (q_14, .inl (ca 4, 148, .inr (.inr (.inr (.inr (fun _ => none))))))]) rfl hx hb hml hown hts g_wm (mK_bl dC dI ca) (c_MI_init l dC dI ca q_89) rfl xm_34 xm_35 xm_3 xm_36 (by decide +kernel) rfl (Nat.le_of_ble_eq_true rfl) (Nat.le_of_ble_eq_true rfl) hl.1 (Nat.le_of_ble_eq_true rfl) (mK_up hK) hP hD hS hA [5] [0, 1, 2, 3, 4] rfl (by decide) rfl rfl (by decide) (by decide) (Nat.le_of_ble_eq_true rfl) (Nat.le_of_ble_eq_true rfl) d_MM_init_591 ?_
  clear hP hD hS
  intro v q_90 H locs hp hP hD hS
  obtain rfl : v = none := hp
  replace hP : va_P (dC, dI) classes [(h0, .inr (0, fs_54)), (q_1, .inr (1, q_2)), (q_3, .inr (2, [.ref q_4, .int 0])), (q_4, .inl (ca 0, 16, .inl (fun _ => 0))), (q_14, .inl (ca 4, 148, .inr (.inr (.inr (.inr (fun _ => none)))))), (q_89, .inr (3, [.ref q_90, .int 0])), (q_90, .inl (ca 1, 4, .inl (fun _ => 0)))] H := hP
  replace hD : va_D A [(h0, .inr (0, fs_54)), (q_1, .inr (1, q_2)), (q_3, .inr (2, [.ref q_4, .int 0])), (q_4, .inl (ca 0, 16, .inl (fun _ => 0))), (q_14, .inl (ca 4, 148, .inr (.inr (.inr (.inr (fun _ => none)))))), (q_89, .inr (3, [.ref q_90, .int 0])), (q_90, .inl (ca 1, 4, .inl (fun _ => 0)))] := hD
  refine W.eq (g2 := F0 m 594 ls [.ref q_89, .ref h0]) rfl ?_
  refine W.widen (k := 108) (n := 524964) (Nat.le_of_ble_eq_true rfl) (Nat.le_of_ble_eq_true rfl) ?_
  replace hP := hP.sub (ws' := [(h0, .inr (0, fs_54)), (q_1, .inr (1, q_2)), (q_3, .inr (2, [.ref q_4, .int 0])), (q_4, .inl (ca 0, 16, .inl (fun _ => 0))), (q_14, .inl (ca 4, 148, .inr (.inr (.inr (.inr (fun _ => none))))))]) [0, 1, 2, 3, 4] rfl
  replace hD := hD.sub (ws' := [(h0, .inr (0, fs_54)), (q_1, .inr (1, q_2)), (q_3, .inr (2, [.ref q_4, .int 0])), (q_4, .inl (ca 0, 16, .inl (fun _ => 0))), (q_14, .inl (ca 4, 148, .inr (.inr (.inr (.inr (fun _ => none))))))]) [0, 1, 2, 3, 4] (by decide) rfl
  refine m_put M (fs := fs_54) (wt := [(q_1, .inr (1, q_2)), (q_3, .inr (2, [.ref q_4, .int 0])), (q_4, .inl (ca 0, 16, .inl (fun _ => 0))), (q_14, .inl (ca 4, 148, .inr (.inr (.inr (.inr (fun _ => none))))))]) (k := 76) (ty := .object "SourceBackModel$Ints") hP hD hS hlen (by decide) xm_136 rfl rfl (by decide +kernel) rfl rfl d_MM_init_594 ?_
  clear hP hD hS hlen
  intro H locs hlen hP hD hS
  obtain ⟨fs_55, e_55⟩ : ∃ z, z = fs_54.set 76 (.ref q_89) := ⟨_, rfl⟩
  rw [← e_55] at hP hD hlen
  replace hP : va_P (dC, dI) classes [(h0, .inr (0, fs_55)), (q_1, .inr (1, q_2)), (q_3, .inr (2, [.ref q_4, .int 0])), (q_4, .inl (ca 0, 16, .inl (fun _ => 0))), (q_14, .inl (ca 4, 148, .inr (.inr (.inr (.inr (fun _ => none))))))] H := hP
  replace hD : va_D A [(h0, .inr (0, fs_55)), (q_1, .inr (1, q_2)), (q_3, .inr (2, [.ref q_4, .int 0])), (q_4, .inl (ca 0, 16, .inl (fun _ => 0))), (q_14, .inl (ca 4, 148, .inr (.inr (.inr (.inr (fun _ => none))))))] := hD
  refine lv_aload_n hx hb d_MM_init_597 rfl (lv_at hl 0 rfl) ?_
  refine m_new M (wt := [(q_1, .inr (1, q_2)), (q_3, .inr (2, [.ref q_4, .int 0])), (q_4, .inl (ca 0, 16, .inl (fun _ => 0))), (q_14, .inl (ca 4, 148, .inr (.inr (.inr (.inr (fun _ => none))))))]) (ci := 3) (C := R_MI) (T := F_MI) (N := 2) (f0 := [.null, .int 0]) hP hD hS i_MI t_MI_ok xm_32 xm_33 xm_3 rfl (by decide +kernel) (Nat.le_of_ble_eq_true rfl) (Nat.le_of_ble_eq_true rfl) d_MM_init_598 d_MM_init_601 ?_
  clear hP hD hS
  intro q_91 H hP hD hS
  replace hP : va_P (dC, dI) classes [(h0, .inr (0, fs_55)), (q_1, .inr (1, q_2)), (q_3, .inr (2, [.ref q_4, .int 0])), (q_4, .inl (ca 0, 16, .inl (fun _ => 0))), (q_14, .inl (ca 4, 148, .inr (.inr (.inr (.inr (fun _ => none)))))), (q_91, .inr (3, [.null, .int 0]))] H := hP
  replace hD : va_D A [(h0, .inr (0, fs_55)), (q_1, .inr (1, q_2)), (q_3, .inr (2, [.ref q_4, .int 0])), (q_4, .inl (ca 0, 16, .inl (fun _ => 0))), (q_14, .inl (ca 4, 148, .inr (.inr (.inr (.inr (fun _ => none)))))), (q_91, .inr (3, [.null, .int 0]))] := hD
  refine W.widen (k := 109) (n := 524966) (Nat.le_of_ble_eq_true rfl) (Nat.le_of_ble_eq_true rfl) ?_
  refine lv_iconst (v := 4) hx hb d_MM_init_602 (by decide) ?_
  refine ax_I (k := 1) (As := [.int 4]) (rest := [.ref q_91, .ref h0]) (wr := [(h0, .inr (0, fs_55)), (q_1, .inr (1, q_2)), (q_3, .inr (2, [.ref q_4, .int 0])), (q_4, .inl (ca 0, 16, .inl (fun _ => 0))), (q_14, .inl (ca 4, 148, .inr (.inr (.inr (.inr (fun _ => none))))))]) rfl hx hb hml hown hts g_wm (mK_bl dC dI ca) (c_MI_init l dC dI ca q_91) rfl xm_34 xm_35 xm_3 xm_36 (by decide +kernel) rfl (Nat.le_of_ble_eq_true rfl) (Nat.le_of_ble_eq_true rfl) hl.1 (Nat.le_of_ble_eq_true rfl) (mK_up hK) hP hD hS hA [5] [0, 1, 2, 3, 4] rfl (by decide) rfl rfl (by decide) (by decide) (Nat.le_of_ble_eq_true rfl) (Nat.le_of_ble_eq_true rfl) d_MM_init_603 ?_
  clear hP hD hS
  intro v q_92 H locs hp hP hD hS
  obtain rfl : v = none := hp
  replace hP : va_P (dC, dI) classes [(h0, .inr (0, fs_55)), (q_1, .inr (1, q_2)), (q_3, .inr (2, [.ref q_4, .int 0])), (q_4, .inl (ca 0, 16, .inl (fun _ => 0))), (q_14, .inl (ca 4, 148, .inr (.inr (.inr (.inr (fun _ => none)))))), (q_91, .inr (3, [.ref q_92, .int 0])), (q_92, .inl (ca 1, 4, .inl (fun _ => 0)))] H := hP
  replace hD : va_D A [(h0, .inr (0, fs_55)), (q_1, .inr (1, q_2)), (q_3, .inr (2, [.ref q_4, .int 0])), (q_4, .inl (ca 0, 16, .inl (fun _ => 0))), (q_14, .inl (ca 4, 148, .inr (.inr (.inr (.inr (fun _ => none)))))), (q_91, .inr (3, [.ref q_92, .int 0])), (q_92, .inl (ca 1, 4, .inl (fun _ => 0)))] := hD
  refine W.eq (g2 := F0 m 606 ls [.ref q_91, .ref h0]) rfl ?_
  refine W.widen (k := 110) (n := 524970) (Nat.le_of_ble_eq_true rfl) (Nat.le_of_ble_eq_true rfl) ?_
  replace hP := hP.sub (ws' := [(h0, .inr (0, fs_55)), (q_1, .inr (1, q_2)), (q_3, .inr (2, [.ref q_4, .int 0])), (q_4, .inl (ca 0, 16, .inl (fun _ => 0))), (q_14, .inl (ca 4, 148, .inr (.inr (.inr (.inr (fun _ => none))))))]) [0, 1, 2, 3, 4] rfl
  replace hD := hD.sub (ws' := [(h0, .inr (0, fs_55)), (q_1, .inr (1, q_2)), (q_3, .inr (2, [.ref q_4, .int 0])), (q_4, .inl (ca 0, 16, .inl (fun _ => 0))), (q_14, .inl (ca 4, 148, .inr (.inr (.inr (.inr (fun _ => none))))))]) [0, 1, 2, 3, 4] (by decide) rfl
  refine m_put M (fs := fs_55) (wt := [(q_1, .inr (1, q_2)), (q_3, .inr (2, [.ref q_4, .int 0])), (q_4, .inl (ca 0, 16, .inl (fun _ => 0))), (q_14, .inl (ca 4, 148, .inr (.inr (.inr (.inr (fun _ => none))))))]) (k := 77) (ty := .object "SourceBackModel$Ints") hP hD hS hlen (by decide) xm_137 rfl rfl (by decide +kernel) rfl rfl d_MM_init_606 ?_
  clear hP hD hS hlen
  intro H locs hlen hP hD hS
  obtain ⟨fs_56, e_56⟩ : ∃ z, z = fs_55.set 77 (.ref q_91) := ⟨_, rfl⟩
  rw [← e_56] at hP hD hlen
  replace hP : va_P (dC, dI) classes [(h0, .inr (0, fs_56)), (q_1, .inr (1, q_2)), (q_3, .inr (2, [.ref q_4, .int 0])), (q_4, .inl (ca 0, 16, .inl (fun _ => 0))), (q_14, .inl (ca 4, 148, .inr (.inr (.inr (.inr (fun _ => none))))))] H := hP
  replace hD : va_D A [(h0, .inr (0, fs_56)), (q_1, .inr (1, q_2)), (q_3, .inr (2, [.ref q_4, .int 0])), (q_4, .inl (ca 0, 16, .inl (fun _ => 0))), (q_14, .inl (ca 4, 148, .inr (.inr (.inr (.inr (fun _ => none))))))] := hD
  subst e_56 e_55 e_54 e_53 e_52 e_51
  exact kk q_83 q_84 q_86 q_88 q_89 q_91 H locs hlen hP hD hS
set_option maxHeartbeats 4000000 in
set_option maxRecDepth 100000 in
theorem mi_56 {p : Program} {l : Launch} {e : Env} {s : State} {m : MethodId} {args : Array Value} {below : List Frame} {meth : Method} {c : Code} {H : Heap} {locs : List Loc} {Q : State → Prop} {dC : Nat → ClassId} {dI : Nat → Nat → Nat} {ca : Nat → ClassId} {A : Nat → Prop} {ls : Array Slot} {h0 : Nat} {sa : Nat → Nat} (M : mC p s m args meth c dC dI ca A ls h0) (hks : ∀ (i : Nat) (z : Nat × String), strs[i]? = some z → vk_R R_MM z.1 z.2 (sa i) s ∧ va_Any "java/lang/String" s s.heap (sa i) ∧ sa i ≠ h0) (hnA : ∀ (i : Nat) (z : Nat × String), strs[i]? = some z → ¬ A (sa i)) {fs_56 : List Value} {q_1 : Nat} {q_2 : List Value} {q_3 : Nat} {q_4 : Nat} {q_14 : Nat} (hP : va_P (dC, dI) classes ((h0, .inr (0, fs_56)) :: [(q_1, .inr (1, q_2)), (q_3, .inr (2, [.ref q_4, .int 0])), (q_4, .inl (ca 0, 16, .inl (fun _ => 0))), (q_14, .inl (ca 4, 148, .inr (.inr (.inr (.inr (fun _ => none))))))]) H) (hD : va_D A ((h0, .inr (0, fs_56)) :: [(q_1, .inr (1, q_2)), (q_3, .inr (2, [.ref q_4, .int 0])), (q_4, .inl (ca 0, 16, .inl (fun _ => 0))), (q_14, .inl (ca 4, 148, .inr (.inr (.inr (.inr (fun _ => none))))))])) (hS : va_S A s.heap H locs) (hlen : fs_56.length = 132)
    (kk : ∀ (q_93 q_94 : Nat) (H : Heap) (locs : List Loc), ((fs_56.set 78 (.ref q_93)).set 80 (.ref q_94)).length = 132 → va_P (dC, dI) classes ((h0, .inr (0, (fs_56.set 78 (.ref q_93)).set 80 (.ref q_94))) :: [(q_1, .inr (1, q_2)), (q_3, .inr (2, [.ref q_4, .int 0])), (q_4, .inl (ca 0, 16, .inl (fun _ => 0))), (q_14, .inl (ca 4, 148, .inr (.inr (.inr (.inr (fun _ => none))))))]) H → va_D A ((h0, .inr (0, (fs_56.set 78 (.ref q_93)).set 80 (.ref q_94))) :: [(q_1, .inr (1, q_2)), (q_3, .inr (2, [.ref q_4, .int 0])), (q_4, .inl (ca 0, 16, .inl (fun _ => 0))), (q_14, .inl (ca 4, 148, .inr (.inr (.inr (.inr (fun _ => none))))))]) → va_S A s.heap H locs → W p l e ({ frames := 7, cells := 166, slots := 640022, locals := 100 }) s m args below meth c H locs 112 524986 Q (F0 m 711 ls [])) :
    W p l e ({ frames := 7, cells := 166, slots := 640022, locals := 100 }) s m args below meth c H locs 110 524970 Q (F0 m 609 ls []) := by
  obtain ⟨hx, hb, hml, hown, hts, hin, hK, hA, hl⟩ := id M
  refine lv_aload_n hx hb d_MM_init_609 rfl (lv_at hl 0 rfl) ?_
  refine lv_bipush (v := 10) hx hb d_MM_init_610 (by decide +kernel) ?_
  refine ax_newqK (n := 10) (N' := 10) hx hb hown (hts _ xm_71) (hK.2.2 _ (List.mem_of_getElem? (i := 1) rfl)) hK.1 7 rfl hP hD hS hA (by decide +kernel) (by decide +kernel) (by decide +kernel) (Nat.le_of_ble_eq_true rfl) (Nat.le_of_ble_eq_true rfl) d_MM_init_612 ?_
  clear hP hD hS
  intro q_93 H hP hD hS
  replace hP : va_P (dC, dI) classes [(h0, .inr (0, fs_56)), (q_1, .inr (1, q_2)), (q_3, .inr (2, [.ref q_4, .int 0])), (q_4, .inl (ca 0, 16, .inl (fun _ => 0))), (q_14, .inl (ca 4, 148, .inr (.inr (.inr (.inr (fun _ => none)))))), (q_93, .inl (ca 7, 10, .inr (.inr (.inr (.inr (fun _ => none))))))] H := hP
  replace hD : va_D A [(h0, .inr (0, fs_56)), (q_1, .inr (1, q_2)), (q_3, .inr (2, [.ref q_4, .int 0])), (q_4, .inl (ca 0, 16, .inl (fun _ => 0))), (q_14, .inl (ca 4, 148, .inr (.inr (.inr (.inr (fun _ => none)))))), (q_93, .inl (ca 7, 10, .inr (.inr (.inr (.inr (fun _ => none))))))] := hD
  refine W.widen (k := 111) (n := 524980) (Nat.le_of_ble_eq_true rfl) (Nat.le_of_ble_eq_true rfl) ?_
  refine lv_dup hx hb d_MM_init_615 rfl ?_
  refine lv_iconst (v := 0) hx hb d_MM_init_616 (by decide) ?_
  refine va_ldcS hx hb hown (hks 0 _ rfl).1 d_MM_init_617 ?_
  refine va_astqM (E := "java/lang/String") hx hb hK.1 hP hD hS 5 7 rfl rfl (any_at (hks 0 _ rfl).2.1 hS (hnA 0 _ rfl)) (by unfold vp_in; decide) d_MM_init_619 ?_
  clear hP hD hS
  intro H locs hP hD hS
  replace hP : va_P (dC, dI) classes [(h0, .inr (0, fs_56)), (q_1, .inr (1, q_2)), (q_3, .inr (2, [.ref q_4, .int 0])), (q_4, .inl (ca 0, 16, .inl (fun _ => 0))), (q_14, .inl (ca 4, 148, .inr (.inr (.inr (.inr (fun _ => none)))))), (q_93, .inl (ca 7, 10, .inr (.inr (.inr (.inr (va_up (fun _ => none) 0 (some (sa 0))))))))] H := hP
  replace hD : va_D A [(h0, .inr (0, fs_56)), (q_1, .inr (1, q_2)), (q_3, .inr (2, [.ref q_4, .int 0])), (q_4, .inl (ca 0, 16, .inl (fun _ => 0))), (q_14, .inl (ca 4, 148, .inr (.inr (.inr (.inr (fun _ => none)))))), (q_93, .inl (ca 7, 10, .inr (.inr (.inr (.inr (va_up (fun _ => none) 0 (some (sa 0))))))))] := hD
  refine lv_dup hx hb d_MM_init_620 rfl ?_
  refine lv_iconst (v := 1) hx hb d_MM_init_621 (by decide) ?_
  refine va_ldcS hx hb hown (hks 1 _ rfl).1 d_MM_init_622 ?_
  refine va_astqM (E := "java/lang/String") hx hb hK.1 hP hD hS 5 7 rfl rfl (any_at (hks 1 _ rfl).2.1 hS (hnA 1 _ rfl)) (by unfold vp_in; decide) d_MM_init_624 ?_
  clear hP hD hS
  intro H locs hP hD hS
  replace hP : va_P (dC, dI) classes [(h0, .inr (0, fs_56)), (q_1, .inr (1, q_2)), (q_3, .inr (2, [.ref q_4, .int 0])), (q_4, .inl (ca 0, 16, .inl (fun _ => 0))), (q_14, .inl (ca 4, 148, .inr (.inr (.inr (.inr (fun _ => none)))))), (q_93, .inl (ca 7, 10, .inr (.inr (.inr (.inr (va_up (va_up (fun _ => none) 0 (some (sa 0))) 1 (some (sa 1))))))))] H := hP
  replace hD : va_D A [(h0, .inr (0, fs_56)), (q_1, .inr (1, q_2)), (q_3, .inr (2, [.ref q_4, .int 0])), (q_4, .inl (ca 0, 16, .inl (fun _ => 0))), (q_14, .inl (ca 4, 148, .inr (.inr (.inr (.inr (fun _ => none)))))), (q_93, .inl (ca 7, 10, .inr (.inr (.inr (.inr (va_up (va_up (fun _ => none) 0 (some (sa 0))) 1 (some (sa 1))))))))] := hD
  refine lv_dup hx hb d_MM_init_625 rfl ?_
  refine lv_iconst (v := 2) hx hb d_MM_init_626 (by decide) ?_
  refine va_ldcS hx hb hown (hks 2 _ rfl).1 d_MM_init_627 ?_
  refine va_astqM (E := "java/lang/String") hx hb hK.1 hP hD hS 5 7 rfl rfl (any_at (hks 2 _ rfl).2.1 hS (hnA 2 _ rfl)) (by unfold vp_in; decide) d_MM_init_629 ?_
  clear hP hD hS
  intro H locs hP hD hS
  replace hP : va_P (dC, dI) classes [(h0, .inr (0, fs_56)), (q_1, .inr (1, q_2)), (q_3, .inr (2, [.ref q_4, .int 0])), (q_4, .inl (ca 0, 16, .inl (fun _ => 0))), (q_14, .inl (ca 4, 148, .inr (.inr (.inr (.inr (fun _ => none)))))), (q_93, .inl (ca 7, 10, .inr (.inr (.inr (.inr (va_up (va_up (va_up (fun _ => none) 0 (some (sa 0))) 1 (some (sa 1))) 2 (some (sa 2))))))))] H := hP
  replace hD : va_D A [(h0, .inr (0, fs_56)), (q_1, .inr (1, q_2)), (q_3, .inr (2, [.ref q_4, .int 0])), (q_4, .inl (ca 0, 16, .inl (fun _ => 0))), (q_14, .inl (ca 4, 148, .inr (.inr (.inr (.inr (fun _ => none)))))), (q_93, .inl (ca 7, 10, .inr (.inr (.inr (.inr (va_up (va_up (va_up (fun _ => none) 0 (some (sa 0))) 1 (some (sa 1))) 2 (some (sa 2))))))))] := hD
  refine lv_dup hx hb d_MM_init_630 rfl ?_
  refine lv_iconst (v := 3) hx hb d_MM_init_631 (by decide) ?_
  refine va_ldcS hx hb hown (hks 3 _ rfl).1 d_MM_init_632 ?_
  refine va_astqM (E := "java/lang/String") hx hb hK.1 hP hD hS 5 7 rfl rfl (any_at (hks 3 _ rfl).2.1 hS (hnA 3 _ rfl)) (by unfold vp_in; decide) d_MM_init_634 ?_
  clear hP hD hS
  intro H locs hP hD hS
  replace hP : va_P (dC, dI) classes [(h0, .inr (0, fs_56)), (q_1, .inr (1, q_2)), (q_3, .inr (2, [.ref q_4, .int 0])), (q_4, .inl (ca 0, 16, .inl (fun _ => 0))), (q_14, .inl (ca 4, 148, .inr (.inr (.inr (.inr (fun _ => none)))))), (q_93, .inl (ca 7, 10, .inr (.inr (.inr (.inr (va_up (va_up (va_up (va_up (fun _ => none) 0 (some (sa 0))) 1 (some (sa 1))) 2 (some (sa 2))) 3 (some (sa 3))))))))] H := hP
  replace hD : va_D A [(h0, .inr (0, fs_56)), (q_1, .inr (1, q_2)), (q_3, .inr (2, [.ref q_4, .int 0])), (q_4, .inl (ca 0, 16, .inl (fun _ => 0))), (q_14, .inl (ca 4, 148, .inr (.inr (.inr (.inr (fun _ => none)))))), (q_93, .inl (ca 7, 10, .inr (.inr (.inr (.inr (va_up (va_up (va_up (va_up (fun _ => none) 0 (some (sa 0))) 1 (some (sa 1))) 2 (some (sa 2))) 3 (some (sa 3))))))))] := hD
  refine lv_dup hx hb d_MM_init_635 rfl ?_
  refine lv_iconst (v := 4) hx hb d_MM_init_636 (by decide) ?_
  refine va_ldcS hx hb hown (hks 4 _ rfl).1 d_MM_init_637 ?_
  refine va_astqM (E := "java/lang/String") hx hb hK.1 hP hD hS 5 7 rfl rfl (any_at (hks 4 _ rfl).2.1 hS (hnA 4 _ rfl)) (by unfold vp_in; decide) d_MM_init_639 ?_
  clear hP hD hS
  intro H locs hP hD hS
  replace hP : va_P (dC, dI) classes [(h0, .inr (0, fs_56)), (q_1, .inr (1, q_2)), (q_3, .inr (2, [.ref q_4, .int 0])), (q_4, .inl (ca 0, 16, .inl (fun _ => 0))), (q_14, .inl (ca 4, 148, .inr (.inr (.inr (.inr (fun _ => none)))))), (q_93, .inl (ca 7, 10, .inr (.inr (.inr (.inr (va_up (va_up (va_up (va_up (va_up (fun _ => none) 0 (some (sa 0))) 1 (some (sa 1))) 2 (some (sa 2))) 3 (some (sa 3))) 4 (some (sa 4))))))))] H := hP
  replace hD : va_D A [(h0, .inr (0, fs_56)), (q_1, .inr (1, q_2)), (q_3, .inr (2, [.ref q_4, .int 0])), (q_4, .inl (ca 0, 16, .inl (fun _ => 0))), (q_14, .inl (ca 4, 148, .inr (.inr (.inr (.inr (fun _ => none)))))), (q_93, .inl (ca 7, 10, .inr (.inr (.inr (.inr (va_up (va_up (va_up (va_up (va_up (fun _ => none) 0 (some (sa 0))) 1 (some (sa 1))) 2 (some (sa 2))) 3 (some (sa 3))) 4 (some (sa 4))))))))] := hD
  refine lv_dup hx hb d_MM_init_640 rfl ?_
  refine lv_iconst (v := 5) hx hb d_MM_init_641 (by decide) ?_
  refine va_ldcS hx hb hown (hks 5 _ rfl).1 d_MM_init_642 ?_
  refine va_astqM (E := "java/lang/String") hx hb hK.1 hP hD hS 5 7 rfl rfl (any_at (hks 5 _ rfl).2.1 hS (hnA 5 _ rfl)) (by unfold vp_in; decide) d_MM_init_644 ?_
  clear hP hD hS
  intro H locs hP hD hS
  replace hP : va_P (dC, dI) classes [(h0, .inr (0, fs_56)), (q_1, .inr (1, q_2)), (q_3, .inr (2, [.ref q_4, .int 0])), (q_4, .inl (ca 0, 16, .inl (fun _ => 0))), (q_14, .inl (ca 4, 148, .inr (.inr (.inr (.inr (fun _ => none)))))), (q_93, .inl (ca 7, 10, .inr (.inr (.inr (.inr (va_up (va_up (va_up (va_up (va_up (va_up (fun _ => none) 0 (some (sa 0))) 1 (some (sa 1))) 2 (some (sa 2))) 3 (some (sa 3))) 4 (some (sa 4))) 5 (some (sa 5))))))))] H := hP
  replace hD : va_D A [(h0, .inr (0, fs_56)), (q_1, .inr (1, q_2)), (q_3, .inr (2, [.ref q_4, .int 0])), (q_4, .inl (ca 0, 16, .inl (fun _ => 0))), (q_14, .inl (ca 4, 148, .inr (.inr (.inr (.inr (fun _ => none)))))), (q_93, .inl (ca 7, 10, .inr (.inr (.inr (.inr (va_up (va_up (va_up (va_up (va_up (va_up (fun _ => none) 0 (some (sa 0))) 1 (some (sa 1))) 2 (some (sa 2))) 3 (some (sa 3))) 4 (some (sa 4))) 5 (some (sa 5))))))))] := hD
  refine lv_dup hx hb d_MM_init_645 rfl ?_
  refine lv_bipush (v := 6) hx hb d_MM_init_646 (by decide +kernel) ?_
  refine va_ldcS hx hb hown (hks 6 _ rfl).1 d_MM_init_648 ?_
  refine va_astqM (E := "java/lang/String") hx hb hK.1 hP hD hS 5 7 rfl rfl (any_at (hks 6 _ rfl).2.1 hS (hnA 6 _ rfl)) (by unfold vp_in; decide) d_MM_init_650 ?_
  clear hP hD hS
  intro H locs hP hD hS
  replace hP : va_P (dC, dI) classes [(h0, .inr (0, fs_56)), (q_1, .inr (1, q_2)), (q_3, .inr (2, [.ref q_4, .int 0])), (q_4, .inl (ca 0, 16, .inl (fun _ => 0))), (q_14, .inl (ca 4, 148, .inr (.inr (.inr (.inr (fun _ => none)))))), (q_93, .inl (ca 7, 10, .inr (.inr (.inr (.inr (va_up (va_up (va_up (va_up (va_up (va_up (va_up (fun _ => none) 0 (some (sa 0))) 1 (some (sa 1))) 2 (some (sa 2))) 3 (some (sa 3))) 4 (some (sa 4))) 5 (some (sa 5))) 6 (some (sa 6))))))))] H := hP
  replace hD : va_D A [(h0, .inr (0, fs_56)), (q_1, .inr (1, q_2)), (q_3, .inr (2, [.ref q_4, .int 0])), (q_4, .inl (ca 0, 16, .inl (fun _ => 0))), (q_14, .inl (ca 4, 148, .inr (.inr (.inr (.inr (fun _ => none)))))), (q_93, .inl (ca 7, 10, .inr (.inr (.inr (.inr (va_up (va_up (va_up (va_up (va_up (va_up (va_up (fun _ => none) 0 (some (sa 0))) 1 (some (sa 1))) 2 (some (sa 2))) 3 (some (sa 3))) 4 (some (sa 4))) 5 (some (sa 5))) 6 (some (sa 6))))))))] := hD
  refine lv_dup hx hb d_MM_init_651 rfl ?_
  refine lv_bipush (v := 7) hx hb d_MM_init_652 (by decide +kernel) ?_
  refine va_ldcS hx hb hown (hks 7 _ rfl).1 d_MM_init_654 ?_
  refine va_astqM (E := "java/lang/String") hx hb hK.1 hP hD hS 5 7 rfl rfl (any_at (hks 7 _ rfl).2.1 hS (hnA 7 _ rfl)) (by unfold vp_in; decide) d_MM_init_656 ?_
  clear hP hD hS
  intro H locs hP hD hS
  replace hP : va_P (dC, dI) classes [(h0, .inr (0, fs_56)), (q_1, .inr (1, q_2)), (q_3, .inr (2, [.ref q_4, .int 0])), (q_4, .inl (ca 0, 16, .inl (fun _ => 0))), (q_14, .inl (ca 4, 148, .inr (.inr (.inr (.inr (fun _ => none)))))), (q_93, .inl (ca 7, 10, .inr (.inr (.inr (.inr (va_up (va_up (va_up (va_up (va_up (va_up (va_up (va_up (fun _ => none) 0 (some (sa 0))) 1 (some (sa 1))) 2 (some (sa 2))) 3 (some (sa 3))) 4 (some (sa 4))) 5 (some (sa 5))) 6 (some (sa 6))) 7 (some (sa 7))))))))] H := hP
  replace hD : va_D A [(h0, .inr (0, fs_56)), (q_1, .inr (1, q_2)), (q_3, .inr (2, [.ref q_4, .int 0])), (q_4, .inl (ca 0, 16, .inl (fun _ => 0))), (q_14, .inl (ca 4, 148, .inr (.inr (.inr (.inr (fun _ => none)))))), (q_93, .inl (ca 7, 10, .inr (.inr (.inr (.inr (va_up (va_up (va_up (va_up (va_up (va_up (va_up (va_up (fun _ => none) 0 (some (sa 0))) 1 (some (sa 1))) 2 (some (sa 2))) 3 (some (sa 3))) 4 (some (sa 4))) 5 (some (sa 5))) 6 (some (sa 6))) 7 (some (sa 7))))))))] := hD
  refine lv_dup hx hb d_MM_init_657 rfl ?_
  refine lv_bipush (v := 8) hx hb d_MM_init_658 (by decide +kernel) ?_
  refine va_ldcS hx hb hown (hks 8 _ rfl).1 d_MM_init_660 ?_
  refine va_astqM (E := "java/lang/String") hx hb hK.1 hP hD hS 5 7 rfl rfl (any_at (hks 8 _ rfl).2.1 hS (hnA 8 _ rfl)) (by unfold vp_in; decide) d_MM_init_662 ?_
  clear hP hD hS
  intro H locs hP hD hS
  replace hP : va_P (dC, dI) classes [(h0, .inr (0, fs_56)), (q_1, .inr (1, q_2)), (q_3, .inr (2, [.ref q_4, .int 0])), (q_4, .inl (ca 0, 16, .inl (fun _ => 0))), (q_14, .inl (ca 4, 148, .inr (.inr (.inr (.inr (fun _ => none)))))), (q_93, .inl (ca 7, 10, .inr (.inr (.inr (.inr (va_up (va_up (va_up (va_up (va_up (va_up (va_up (va_up (va_up (fun _ => none) 0 (some (sa 0))) 1 (some (sa 1))) 2 (some (sa 2))) 3 (some (sa 3))) 4 (some (sa 4))) 5 (some (sa 5))) 6 (some (sa 6))) 7 (some (sa 7))) 8 (some (sa 8))))))))] H := hP
  replace hD : va_D A [(h0, .inr (0, fs_56)), (q_1, .inr (1, q_2)), (q_3, .inr (2, [.ref q_4, .int 0])), (q_4, .inl (ca 0, 16, .inl (fun _ => 0))), (q_14, .inl (ca 4, 148, .inr (.inr (.inr (.inr (fun _ => none)))))), (q_93, .inl (ca 7, 10, .inr (.inr (.inr (.inr (va_up (va_up (va_up (va_up (va_up (va_up (va_up (va_up (va_up (fun _ => none) 0 (some (sa 0))) 1 (some (sa 1))) 2 (some (sa 2))) 3 (some (sa 3))) 4 (some (sa 4))) 5 (some (sa 5))) 6 (some (sa 6))) 7 (some (sa 7))) 8 (some (sa 8))))))))] := hD
  refine lv_dup hx hb d_MM_init_663 rfl ?_
  refine lv_bipush (v := 9) hx hb d_MM_init_664 (by decide +kernel) ?_
  refine va_ldcS hx hb hown (hks 9 _ rfl).1 d_MM_init_666 ?_
  refine va_astqM (E := "java/lang/String") hx hb hK.1 hP hD hS 5 7 rfl rfl (any_at (hks 9 _ rfl).2.1 hS (hnA 9 _ rfl)) (by unfold vp_in; decide) d_MM_init_668 ?_
  clear hP hD hS
  intro H locs hP hD hS
  replace hP : va_P (dC, dI) classes [(h0, .inr (0, fs_56)), (q_1, .inr (1, q_2)), (q_3, .inr (2, [.ref q_4, .int 0])), (q_4, .inl (ca 0, 16, .inl (fun _ => 0))), (q_14, .inl (ca 4, 148, .inr (.inr (.inr (.inr (fun _ => none)))))), (q_93, .inl (ca 7, 10, .inr (.inr (.inr (.inr (va_up (va_up (va_up (va_up (va_up (va_up (va_up (va_up (va_up (va_up (fun _ => none) 0 (some (sa 0))) 1 (some (sa 1))) 2 (some (sa 2))) 3 (some (sa 3))) 4 (some (sa 4))) 5 (some (sa 5))) 6 (some (sa 6))) 7 (some (sa 7))) 8 (some (sa 8))) 9 (some (sa 9))))))))] H := hP
  replace hD : va_D A [(h0, .inr (0, fs_56)), (q_1, .inr (1, q_2)), (q_3, .inr (2, [.ref q_4, .int 0])), (q_4, .inl (ca 0, 16, .inl (fun _ => 0))), (q_14, .inl (ca 4, 148, .inr (.inr (.inr (.inr (fun _ => none)))))), (q_93, .inl (ca 7, 10, .inr (.inr (.inr (.inr (va_up (va_up (va_up (va_up (va_up (va_up (va_up (va_up (va_up (va_up (fun _ => none) 0 (some (sa 0))) 1 (some (sa 1))) 2 (some (sa 2))) 3 (some (sa 3))) 4 (some (sa 4))) 5 (some (sa 5))) 6 (some (sa 6))) 7 (some (sa 7))) 8 (some (sa 8))) 9 (some (sa 9))))))))] := hD
  replace hP := hP.sub (ws' := [(h0, .inr (0, fs_56)), (q_1, .inr (1, q_2)), (q_3, .inr (2, [.ref q_4, .int 0])), (q_4, .inl (ca 0, 16, .inl (fun _ => 0))), (q_14, .inl (ca 4, 148, .inr (.inr (.inr (.inr (fun _ => none))))))]) [0, 1, 2, 3, 4] rfl
  replace hD := hD.sub (ws' := [(h0, .inr (0, fs_56)), (q_1, .inr (1, q_2)), (q_3, .inr (2, [.ref q_4, .int 0])), (q_4, .inl (ca 0, 16, .inl (fun _ => 0))), (q_14, .inl (ca 4, 148, .inr (.inr (.inr (.inr (fun _ => none))))))]) [0, 1, 2, 3, 4] (by decide) rfl
  refine m_put M (fs := fs_56) (wt := [(q_1, .inr (1, q_2)), (q_3, .inr (2, [.ref q_4, .int 0])), (q_4, .inl (ca 0, 16, .inl (fun _ => 0))), (q_14, .inl (ca 4, 148, .inr (.inr (.inr (.inr (fun _ => none))))))]) (k := 78) (ty := .array (.object "java/lang/String")) hP hD hS hlen (by decide) xm_138 rfl rfl (by decide +kernel) rfl rfl d_MM_init_669 ?_
  clear hP hD hS hlen
  intro H locs hlen hP hD hS
  obtain ⟨fs_57, e_57⟩ : ∃ z, z = fs_56.set 78 (.ref q_93) := ⟨_, rfl⟩
  rw [← e_57] at hP hD hlen
  replace hP : va_P (dC, dI) classes [(h0, .inr (0, fs_57)), (q_1, .inr (1, q_2)), (q_3, .inr (2, [.ref q_4, .int 0])), (q_4, .inl (ca 0, 16, .inl (fun _ => 0))), (q_14, .inl (ca 4, 148, .inr (.inr (.inr (.inr (fun _ => none))))))] H := hP
  replace hD : va_D A [(h0, .inr (0, fs_57)), (q_1, .inr (1, q_2)), (q_3, .inr (2, [.ref q_4, .int 0])), (q_4, .inl (ca 0, 16, .inl (fun _ => 0))), (q_14, .inl (ca 4, 148, .inr (.inr (.inr (.inr (fun _ => none))))))] := hD
  refine lv_aload_n hx hb d_MM_init_672 rfl (lv_at hl 0 rfl) ?_
  refine lv_bipush (v := 6) hx hb d_MM_init_673 (by decide +kernel) ?_
  refine ax_newqK (n := 6) (N' := 6) hx hb hown (hts _ xm_71) (hK.2.2 _ (List.mem_of_getElem? (i := 1) rfl)) hK.1 7 rfl hP hD hS hA (by decide +kernel) (by decide +kernel) (by decide +kernel) (Nat.le_of_ble_eq_true rfl) (Nat.le_of_ble_eq_true rfl) d_MM_init_675 ?_
  clear hP hD hS
  intro q_94 H hP hD hS
  replace hP : va_P (dC, dI) classes [(h0, .inr (0, fs_57)), (q_1, .inr (1, q_2)), (q_3, .inr (2, [.ref q_4, .int 0])), (q_4, .inl (ca 0, 16, .inl (fun _ => 0))), (q_14, .inl (ca 4, 148, .inr (.inr (.inr (.inr (fun _ => none)))))), (q_94, .inl (ca 7, 6, .inr (.inr (.inr (.inr (fun _ => none))))))] H := hP
  replace hD : va_D A [(h0, .inr (0, fs_57)), (q_1, .inr (1, q_2)), (q_3, .inr (2, [.ref q_4, .int 0])), (q_4, .inl (ca 0, 16, .inl (fun _ => 0))), (q_14, .inl (ca 4, 148, .inr (.inr (.inr (.inr (fun _ => none)))))), (q_94, .inl (ca 7, 6, .inr (.inr (.inr (.inr (fun _ => none))))))] := hD
  refine W.widen (k := 112) (n := 524986) (Nat.le_of_ble_eq_true rfl) (Nat.le_of_ble_eq_true rfl) ?_
  refine lv_dup hx hb d_MM_init_678 rfl ?_
  refine lv_iconst (v := 0) hx hb d_MM_init_679 (by decide) ?_
  refine va_ldcS hx hb hown (hks 10 _ rfl).1 d_MM_init_680 ?_
  refine va_astqM (E := "java/lang/String") hx hb hK.1 hP hD hS 5 7 rfl rfl (any_at (hks 10 _ rfl).2.1 hS (hnA 10 _ rfl)) (by unfold vp_in; decide) d_MM_init_682 ?_
  clear hP hD hS
  intro H locs hP hD hS
  replace hP : va_P (dC, dI) classes [(h0, .inr (0, fs_57)), (q_1, .inr (1, q_2)), (q_3, .inr (2, [.ref q_4, .int 0])), (q_4, .inl (ca 0, 16, .inl (fun _ => 0))), (q_14, .inl (ca 4, 148, .inr (.inr (.inr (.inr (fun _ => none)))))), (q_94, .inl (ca 7, 6, .inr (.inr (.inr (.inr (va_up (fun _ => none) 0 (some (sa 10))))))))] H := hP
  replace hD : va_D A [(h0, .inr (0, fs_57)), (q_1, .inr (1, q_2)), (q_3, .inr (2, [.ref q_4, .int 0])), (q_4, .inl (ca 0, 16, .inl (fun _ => 0))), (q_14, .inl (ca 4, 148, .inr (.inr (.inr (.inr (fun _ => none)))))), (q_94, .inl (ca 7, 6, .inr (.inr (.inr (.inr (va_up (fun _ => none) 0 (some (sa 10))))))))] := hD
  refine lv_dup hx hb d_MM_init_683 rfl ?_
  refine lv_iconst (v := 1) hx hb d_MM_init_684 (by decide) ?_
  refine va_ldcS hx hb hown (hks 11 _ rfl).1 d_MM_init_685 ?_
  refine va_astqM (E := "java/lang/String") hx hb hK.1 hP hD hS 5 7 rfl rfl (any_at (hks 11 _ rfl).2.1 hS (hnA 11 _ rfl)) (by unfold vp_in; decide) d_MM_init_687 ?_
  clear hP hD hS
  intro H locs hP hD hS
  replace hP : va_P (dC, dI) classes [(h0, .inr (0, fs_57)), (q_1, .inr (1, q_2)), (q_3, .inr (2, [.ref q_4, .int 0])), (q_4, .inl (ca 0, 16, .inl (fun _ => 0))), (q_14, .inl (ca 4, 148, .inr (.inr (.inr (.inr (fun _ => none)))))), (q_94, .inl (ca 7, 6, .inr (.inr (.inr (.inr (va_up (va_up (fun _ => none) 0 (some (sa 10))) 1 (some (sa 11))))))))] H := hP
  replace hD : va_D A [(h0, .inr (0, fs_57)), (q_1, .inr (1, q_2)), (q_3, .inr (2, [.ref q_4, .int 0])), (q_4, .inl (ca 0, 16, .inl (fun _ => 0))), (q_14, .inl (ca 4, 148, .inr (.inr (.inr (.inr (fun _ => none)))))), (q_94, .inl (ca 7, 6, .inr (.inr (.inr (.inr (va_up (va_up (fun _ => none) 0 (some (sa 10))) 1 (some (sa 11))))))))] := hD
  refine lv_dup hx hb d_MM_init_688 rfl ?_
  refine lv_iconst (v := 2) hx hb d_MM_init_689 (by decide) ?_
  refine va_ldcS hx hb hown (hks 12 _ rfl).1 d_MM_init_690 ?_
  refine va_astqM (E := "java/lang/String") hx hb hK.1 hP hD hS 5 7 rfl rfl (any_at (hks 12 _ rfl).2.1 hS (hnA 12 _ rfl)) (by unfold vp_in; decide) d_MM_init_692 ?_
  clear hP hD hS
  intro H locs hP hD hS
  replace hP : va_P (dC, dI) classes [(h0, .inr (0, fs_57)), (q_1, .inr (1, q_2)), (q_3, .inr (2, [.ref q_4, .int 0])), (q_4, .inl (ca 0, 16, .inl (fun _ => 0))), (q_14, .inl (ca 4, 148, .inr (.inr (.inr (.inr (fun _ => none)))))), (q_94, .inl (ca 7, 6, .inr (.inr (.inr (.inr (va_up (va_up (va_up (fun _ => none) 0 (some (sa 10))) 1 (some (sa 11))) 2 (some (sa 12))))))))] H := hP
  replace hD : va_D A [(h0, .inr (0, fs_57)), (q_1, .inr (1, q_2)), (q_3, .inr (2, [.ref q_4, .int 0])), (q_4, .inl (ca 0, 16, .inl (fun _ => 0))), (q_14, .inl (ca 4, 148, .inr (.inr (.inr (.inr (fun _ => none)))))), (q_94, .inl (ca 7, 6, .inr (.inr (.inr (.inr (va_up (va_up (va_up (fun _ => none) 0 (some (sa 10))) 1 (some (sa 11))) 2 (some (sa 12))))))))] := hD
  refine lv_dup hx hb d_MM_init_693 rfl ?_
  refine lv_iconst (v := 3) hx hb d_MM_init_694 (by decide) ?_
  refine va_ldcS hx hb hown (hks 13 _ rfl).1 d_MM_init_695 ?_
  refine va_astqM (E := "java/lang/String") hx hb hK.1 hP hD hS 5 7 rfl rfl (any_at (hks 13 _ rfl).2.1 hS (hnA 13 _ rfl)) (by unfold vp_in; decide) d_MM_init_697 ?_
  clear hP hD hS
  intro H locs hP hD hS
  replace hP : va_P (dC, dI) classes [(h0, .inr (0, fs_57)), (q_1, .inr (1, q_2)), (q_3, .inr (2, [.ref q_4, .int 0])), (q_4, .inl (ca 0, 16, .inl (fun _ => 0))), (q_14, .inl (ca 4, 148, .inr (.inr (.inr (.inr (fun _ => none)))))), (q_94, .inl (ca 7, 6, .inr (.inr (.inr (.inr (va_up (va_up (va_up (va_up (fun _ => none) 0 (some (sa 10))) 1 (some (sa 11))) 2 (some (sa 12))) 3 (some (sa 13))))))))] H := hP
  replace hD : va_D A [(h0, .inr (0, fs_57)), (q_1, .inr (1, q_2)), (q_3, .inr (2, [.ref q_4, .int 0])), (q_4, .inl (ca 0, 16, .inl (fun _ => 0))), (q_14, .inl (ca 4, 148, .inr (.inr (.inr (.inr (fun _ => none)))))), (q_94, .inl (ca 7, 6, .inr (.inr (.inr (.inr (va_up (va_up (va_up (va_up (fun _ => none) 0 (some (sa 10))) 1 (some (sa 11))) 2 (some (sa 12))) 3 (some (sa 13))))))))] := hD
  refine lv_dup hx hb d_MM_init_698 rfl ?_
  refine lv_iconst (v := 4) hx hb d_MM_init_699 (by decide) ?_
  refine va_ldcS hx hb hown (hks 14 _ rfl).1 d_MM_init_700 ?_
  refine va_astqM (E := "java/lang/String") hx hb hK.1 hP hD hS 5 7 rfl rfl (any_at (hks 14 _ rfl).2.1 hS (hnA 14 _ rfl)) (by unfold vp_in; decide) d_MM_init_702 ?_
  clear hP hD hS
  intro H locs hP hD hS
  replace hP : va_P (dC, dI) classes [(h0, .inr (0, fs_57)), (q_1, .inr (1, q_2)), (q_3, .inr (2, [.ref q_4, .int 0])), (q_4, .inl (ca 0, 16, .inl (fun _ => 0))), (q_14, .inl (ca 4, 148, .inr (.inr (.inr (.inr (fun _ => none)))))), (q_94, .inl (ca 7, 6, .inr (.inr (.inr (.inr (va_up (va_up (va_up (va_up (va_up (fun _ => none) 0 (some (sa 10))) 1 (some (sa 11))) 2 (some (sa 12))) 3 (some (sa 13))) 4 (some (sa 14))))))))] H := hP
  replace hD : va_D A [(h0, .inr (0, fs_57)), (q_1, .inr (1, q_2)), (q_3, .inr (2, [.ref q_4, .int 0])), (q_4, .inl (ca 0, 16, .inl (fun _ => 0))), (q_14, .inl (ca 4, 148, .inr (.inr (.inr (.inr (fun _ => none)))))), (q_94, .inl (ca 7, 6, .inr (.inr (.inr (.inr (va_up (va_up (va_up (va_up (va_up (fun _ => none) 0 (some (sa 10))) 1 (some (sa 11))) 2 (some (sa 12))) 3 (some (sa 13))) 4 (some (sa 14))))))))] := hD
  refine lv_dup hx hb d_MM_init_703 rfl ?_
  refine lv_iconst (v := 5) hx hb d_MM_init_704 (by decide) ?_
  refine va_ldcS hx hb hown (hks 15 _ rfl).1 d_MM_init_705 ?_
  refine va_astqM (E := "java/lang/String") hx hb hK.1 hP hD hS 5 7 rfl rfl (any_at (hks 15 _ rfl).2.1 hS (hnA 15 _ rfl)) (by unfold vp_in; decide) d_MM_init_707 ?_
  clear hP hD hS
  intro H locs hP hD hS
  replace hP : va_P (dC, dI) classes [(h0, .inr (0, fs_57)), (q_1, .inr (1, q_2)), (q_3, .inr (2, [.ref q_4, .int 0])), (q_4, .inl (ca 0, 16, .inl (fun _ => 0))), (q_14, .inl (ca 4, 148, .inr (.inr (.inr (.inr (fun _ => none)))))), (q_94, .inl (ca 7, 6, .inr (.inr (.inr (.inr (va_up (va_up (va_up (va_up (va_up (va_up (fun _ => none) 0 (some (sa 10))) 1 (some (sa 11))) 2 (some (sa 12))) 3 (some (sa 13))) 4 (some (sa 14))) 5 (some (sa 15))))))))] H := hP
  replace hD : va_D A [(h0, .inr (0, fs_57)), (q_1, .inr (1, q_2)), (q_3, .inr (2, [.ref q_4, .int 0])), (q_4, .inl (ca 0, 16, .inl (fun _ => 0))), (q_14, .inl (ca 4, 148, .inr (.inr (.inr (.inr (fun _ => none)))))), (q_94, .inl (ca 7, 6, .inr (.inr (.inr (.inr (va_up (va_up (va_up (va_up (va_up (va_up (fun _ => none) 0 (some (sa 10))) 1 (some (sa 11))) 2 (some (sa 12))) 3 (some (sa 13))) 4 (some (sa 14))) 5 (some (sa 15))))))))] := hD
  replace hP := hP.sub (ws' := [(h0, .inr (0, fs_57)), (q_1, .inr (1, q_2)), (q_3, .inr (2, [.ref q_4, .int 0])), (q_4, .inl (ca 0, 16, .inl (fun _ => 0))), (q_14, .inl (ca 4, 148, .inr (.inr (.inr (.inr (fun _ => none))))))]) [0, 1, 2, 3, 4] rfl
  replace hD := hD.sub (ws' := [(h0, .inr (0, fs_57)), (q_1, .inr (1, q_2)), (q_3, .inr (2, [.ref q_4, .int 0])), (q_4, .inl (ca 0, 16, .inl (fun _ => 0))), (q_14, .inl (ca 4, 148, .inr (.inr (.inr (.inr (fun _ => none))))))]) [0, 1, 2, 3, 4] (by decide) rfl
  refine m_put M (fs := fs_57) (wt := [(q_1, .inr (1, q_2)), (q_3, .inr (2, [.ref q_4, .int 0])), (q_4, .inl (ca 0, 16, .inl (fun _ => 0))), (q_14, .inl (ca 4, 148, .inr (.inr (.inr (.inr (fun _ => none))))))]) (k := 80) (ty := .array (.object "java/lang/String")) hP hD hS hlen (by decide) xm_139 rfl rfl (by decide +kernel) rfl rfl d_MM_init_708 ?_
  clear hP hD hS hlen
  intro H locs hlen hP hD hS
  obtain ⟨fs_58, e_58⟩ : ∃ z, z = fs_57.set 80 (.ref q_94) := ⟨_, rfl⟩
  rw [← e_58] at hP hD hlen
  replace hP : va_P (dC, dI) classes [(h0, .inr (0, fs_58)), (q_1, .inr (1, q_2)), (q_3, .inr (2, [.ref q_4, .int 0])), (q_4, .inl (ca 0, 16, .inl (fun _ => 0))), (q_14, .inl (ca 4, 148, .inr (.inr (.inr (.inr (fun _ => none))))))] H := hP
  replace hD : va_D A [(h0, .inr (0, fs_58)), (q_1, .inr (1, q_2)), (q_3, .inr (2, [.ref q_4, .int 0])), (q_4, .inl (ca 0, 16, .inl (fun _ => 0))), (q_14, .inl (ca 4, 148, .inr (.inr (.inr (.inr (fun _ => none))))))] := hD
  subst e_58 e_57
  exact kk q_93 q_94 H locs hlen hP hD hS
set_option maxHeartbeats 4000000 in
set_option maxRecDepth 100000 in
theorem mi_58 {p : Program} {l : Launch} {e : Env} {s : State} {m : MethodId} {args : Array Value} {below : List Frame} {meth : Method} {c : Code} {H : Heap} {locs : List Loc} {Q : State → Prop} {dC : Nat → ClassId} {dI : Nat → Nat → Nat} {ca : Nat → ClassId} {A : Nat → Prop} {ls : Array Slot} {h0 : Nat} {sa : Nat → Nat} (M : mC p s m args meth c dC dI ca A ls h0) (hks : ∀ (i : Nat) (z : Nat × String), strs[i]? = some z → vk_R R_MM z.1 z.2 (sa i) s ∧ va_Any "java/lang/String" s s.heap (sa i) ∧ sa i ≠ h0) (hnA : ∀ (i : Nat) (z : Nat × String), strs[i]? = some z → ¬ A (sa i)) {fs_58 : List Value} {q_1 : Nat} {q_2 : List Value} {q_3 : Nat} {q_4 : Nat} {q_14 : Nat} (hP : va_P (dC, dI) classes ((h0, .inr (0, fs_58)) :: [(q_1, .inr (1, q_2)), (q_3, .inr (2, [.ref q_4, .int 0])), (q_4, .inl (ca 0, 16, .inl (fun _ => 0))), (q_14, .inl (ca 4, 148, .inr (.inr (.inr (.inr (fun _ => none))))))]) H) (hD : va_D A ((h0, .inr (0, fs_58)) :: [(q_1, .inr (1, q_2)), (q_3, .inr (2, [.ref q_4, .int 0])), (q_4, .inl (ca 0, 16, .inl (fun _ => 0))), (q_14, .inl (ca 4, 148, .inr (.inr (.inr (.inr (fun _ => none))))))])) (hS : va_S A s.heap H locs) (hlen : fs_58.length = 132)
    (kk : ∀ (q_95 q_96 q_97 q_98 q_99 q_100 q_101 q_103 : Nat) (H : Heap) (locs : List Loc), ((((((((fs_58.set 90 (.ref q_95)).set 91 (.ref q_96)).set 93 (.ref q_97)).set 94 (.ref q_98)).set 95 (.ref q_99)).set 96 (.ref q_100)).set 103 (.ref q_101)).set 104 (.ref q_103)).length = 132 → va_P (dC, dI) classes ((h0, .inr (0, (((((((fs_58.set 90 (.ref q_95)).set 91 (.ref q_96)).set 93 (.ref q_97)).set 94 (.ref q_98)).set 95 (.ref q_99)).set 96 (.ref q_100)).set 103 (.ref q_101)).set 104 (.ref q_103))) :: [(q_1, .inr (1, q_2)), (q_3, .inr (2, [.ref q_4, .int 0])), (q_4, .inl (ca 0, 16, .inl (fun _ => 0))), (q_14, .inl (ca 4, 148, .inr (.inr (.inr (.inr (fun _ => none))))))]) H → va_D A ((h0, .inr (0, (((((((fs_58.set 90 (.ref q_95)).set 91 (.ref q_96)).set 93 (.ref q_97)).set 94 (.ref q_98)).set 95 (.ref q_99)).set 96 (.ref q_100)).set 103 (.ref q_101)).set 104 (.ref q_103))) :: [(q_1, .inr (1, q_2)), (q_3, .inr (2, [.ref q_4, .int 0])), (q_4, .inl (ca 0, 16, .inl (fun _ => 0))), (q_14, .inl (ca 4, 148, .inr (.inr (.inr (.inr (fun _ => none))))))]) → va_S A s.heap H locs → W p l e ({ frames := 7, cells := 166, slots := 640022, locals := 100 }) s m args below meth c H locs 122 525446 Q (F0 m 783 ls [])) :
    W p l e ({ frames := 7, cells := 166, slots := 640022, locals := 100 }) s m args below meth c H locs 112 524986 Q (F0 m 711 ls []) := by
  obtain ⟨hx, hb, hml, hown, hts, hin, hK, hA, hl⟩ := id M
  refine lv_aload_n hx hb d_MM_init_711 rfl (lv_at hl 0 rfl) ?_
  refine lv_bipush (v := 64) hx hb d_MM_init_712 (by decide +kernel) ?_
  refine m_arr M (atype := .int) (ty := .int) (fs := fs_58) (wt := [(q_1, .inr (1, q_2)), (q_3, .inr (2, [.ref q_4, .int 0])), (q_4, .inl (ca 0, 16, .inl (fun _ => 0))), (q_14, .inl (ca 4, 148, .inr (.inr (.inr (.inr (fun _ => none))))))]) (t0 := 1) (n := 64) (N' := 64) (k := 90) (tf := .array (.int)) (a0 := (64, .inl (fun _ => 0))) hP hD hS hlen rfl xm_11 rfl (fun C h => by cases h) (m_a_int 64) (by decide +kernel) (by decide +kernel) (by decide +kernel) (by decide) xm_140 rfl rfl (by decide +kernel) (fun _ => rfl) (fun _ => rfl) (Nat.le_of_ble_eq_true rfl) (Nat.le_of_ble_eq_true rfl) d_MM_init_714 d_MM_init_716 ?_
  clear hP hD hS hlen
  intro q_95 H locs hlen hP hD hS
  obtain ⟨fs_59, e_59⟩ : ∃ z, z = fs_58.set 90 (.ref q_95) := ⟨_, rfl⟩
  rw [← e_59] at hP hD hlen
  replace hP : va_P (dC, dI) classes [(h0, .inr (0, fs_59)), (q_1, .inr (1, q_2)), (q_3, .inr (2, [.ref q_4, .int 0])), (q_4, .inl (ca 0, 16, .inl (fun _ => 0))), (q_14, .inl (ca 4, 148, .inr (.inr (.inr (.inr (fun _ => none))))))] H := hP
  replace hD : va_D A [(h0, .inr (0, fs_59)), (q_1, .inr (1, q_2)), (q_3, .inr (2, [.ref q_4, .int 0])), (q_4, .inl (ca 0, 16, .inl (fun _ => 0))), (q_14, .inl (ca 4, 148, .inr (.inr (.inr (.inr (fun _ => none))))))] := hD
  refine W.widen (k := 113) (n := 525050) (Nat.le_of_ble_eq_true rfl) (Nat.le_of_ble_eq_true rfl) ?_
  refine lv_aload_n hx hb d_MM_init_719 rfl (lv_at hl 0 rfl) ?_
  refine lv_bipush (v := 64) hx hb d_MM_init_720 (by decide +kernel) ?_
  refine m_arr M (atype := .int) (ty := .int) (fs := fs_59) (wt := [(q_1, .inr (1, q_2)), (q_3, .inr (2, [.ref q_4, .int 0])), (q_4, .inl (ca 0, 16, .inl (fun _ => 0))), (q_14, .inl (ca 4, 148, .inr (.inr (.inr (.inr (fun _ => none))))))]) (t0 := 1) (n := 64) (N' := 64) (k := 91) (tf := .array (.int)) (a0 := (64, .inl (fun _ => 0))) hP hD hS hlen rfl xm_11 rfl (fun C h => by cases h) (m_a_int 64) (by decide +kernel) (by decide +kernel) (by decide +kernel) (by decide) xm_141 rfl rfl (by decide +kernel) (fun _ => rfl) (fun _ => rfl) (Nat.le_of_ble_eq_true rfl) (Nat.le_of_ble_eq_true rfl) d_MM_init_722 d_MM_init_724 ?_
  clear hP hD hS hlen
  intro q_96 H locs hlen hP hD hS
  obtain ⟨fs_60, e_60⟩ : ∃ z, z = fs_59.set 91 (.ref q_96) := ⟨_, rfl⟩
  rw [← e_60] at hP hD hlen
  replace hP : va_P (dC, dI) classes [(h0, .inr (0, fs_60)), (q_1, .inr (1, q_2)), (q_3, .inr (2, [.ref q_4, .int 0])), (q_4, .inl (ca 0, 16, .inl (fun _ => 0))), (q_14, .inl (ca 4, 148, .inr (.inr (.inr (.inr (fun _ => none))))))] H := hP
  replace hD : va_D A [(h0, .inr (0, fs_60)), (q_1, .inr (1, q_2)), (q_3, .inr (2, [.ref q_4, .int 0])), (q_4, .inl (ca 0, 16, .inl (fun _ => 0))), (q_14, .inl (ca 4, 148, .inr (.inr (.inr (.inr (fun _ => none))))))] := hD
  refine W.widen (k := 114) (n := 525114) (Nat.le_of_ble_eq_true rfl) (Nat.le_of_ble_eq_true rfl) ?_
  refine lv_aload_n hx hb d_MM_init_727 rfl (lv_at hl 0 rfl) ?_
  refine lv_bipush (v := 80) hx hb d_MM_init_728 (by decide +kernel) ?_
  refine m_arr M (atype := .int) (ty := .int) (fs := fs_60) (wt := [(q_1, .inr (1, q_2)), (q_3, .inr (2, [.ref q_4, .int 0])), (q_4, .inl (ca 0, 16, .inl (fun _ => 0))), (q_14, .inl (ca 4, 148, .inr (.inr (.inr (.inr (fun _ => none))))))]) (t0 := 1) (n := 80) (N' := 80) (k := 93) (tf := .array (.int)) (a0 := (80, .inl (fun _ => 0))) hP hD hS hlen rfl xm_11 rfl (fun C h => by cases h) (m_a_int 80) (by decide +kernel) (by decide +kernel) (by decide +kernel) (by decide) xm_142 rfl rfl (by decide +kernel) (fun _ => rfl) (fun _ => rfl) (Nat.le_of_ble_eq_true rfl) (Nat.le_of_ble_eq_true rfl) d_MM_init_730 d_MM_init_732 ?_
  clear hP hD hS hlen
  intro q_97 H locs hlen hP hD hS
  obtain ⟨fs_61, e_61⟩ : ∃ z, z = fs_60.set 93 (.ref q_97) := ⟨_, rfl⟩
  rw [← e_61] at hP hD hlen
  replace hP : va_P (dC, dI) classes [(h0, .inr (0, fs_61)), (q_1, .inr (1, q_2)), (q_3, .inr (2, [.ref q_4, .int 0])), (q_4, .inl (ca 0, 16, .inl (fun _ => 0))), (q_14, .inl (ca 4, 148, .inr (.inr (.inr (.inr (fun _ => none))))))] H := hP
  replace hD : va_D A [(h0, .inr (0, fs_61)), (q_1, .inr (1, q_2)), (q_3, .inr (2, [.ref q_4, .int 0])), (q_4, .inl (ca 0, 16, .inl (fun _ => 0))), (q_14, .inl (ca 4, 148, .inr (.inr (.inr (.inr (fun _ => none))))))] := hD
  refine W.widen (k := 115) (n := 525194) (Nat.le_of_ble_eq_true rfl) (Nat.le_of_ble_eq_true rfl) ?_
  refine lv_aload_n hx hb d_MM_init_735 rfl (lv_at hl 0 rfl) ?_
  refine lv_bipush (v := 80) hx hb d_MM_init_736 (by decide +kernel) ?_
  refine m_arr M (atype := .boolean) (ty := .boolean) (fs := fs_61) (wt := [(q_1, .inr (1, q_2)), (q_3, .inr (2, [.ref q_4, .int 0])), (q_4, .inl (ca 0, 16, .inl (fun _ => 0))), (q_14, .inl (ca 4, 148, .inr (.inr (.inr (.inr (fun _ => none))))))]) (t0 := 3) (n := 80) (N' := 80) (k := 94) (tf := .array (.boolean)) (a0 := (80, .inl (fun _ => 0))) hP hD hS hlen rfl xm_174 rfl (fun C h => by cases h) (m_a_boolean 80) (by decide +kernel) (by decide +kernel) (by decide +kernel) (by decide) xm_143 rfl rfl (by decide +kernel) (fun _ => rfl) (fun _ => rfl) (Nat.le_of_ble_eq_true rfl) (Nat.le_of_ble_eq_true rfl) d_MM_init_738 d_MM_init_740 ?_
  clear hP hD hS hlen
  intro q_98 H locs hlen hP hD hS
  obtain ⟨fs_62, e_62⟩ : ∃ z, z = fs_61.set 94 (.ref q_98) := ⟨_, rfl⟩
  rw [← e_62] at hP hD hlen
  replace hP : va_P (dC, dI) classes [(h0, .inr (0, fs_62)), (q_1, .inr (1, q_2)), (q_3, .inr (2, [.ref q_4, .int 0])), (q_4, .inl (ca 0, 16, .inl (fun _ => 0))), (q_14, .inl (ca 4, 148, .inr (.inr (.inr (.inr (fun _ => none))))))] H := hP
  replace hD : va_D A [(h0, .inr (0, fs_62)), (q_1, .inr (1, q_2)), (q_3, .inr (2, [.ref q_4, .int 0])), (q_4, .inl (ca 0, 16, .inl (fun _ => 0))), (q_14, .inl (ca 4, 148, .inr (.inr (.inr (.inr (fun _ => none))))))] := hD
  refine W.widen (k := 116) (n := 525274) (Nat.le_of_ble_eq_true rfl) (Nat.le_of_ble_eq_true rfl) ?_
  refine lv_aload_n hx hb d_MM_init_743 rfl (lv_at hl 0 rfl) ?_
  refine lv_bipush (v := 80) hx hb d_MM_init_744 (by decide +kernel) ?_
  refine m_arr M (atype := .int) (ty := .int) (fs := fs_62) (wt := [(q_1, .inr (1, q_2)), (q_3, .inr (2, [.ref q_4, .int 0])), (q_4, .inl (ca 0, 16, .inl (fun _ => 0))), (q_14, .inl (ca 4, 148, .inr (.inr (.inr (.inr (fun _ => none))))))]) (t0 := 1) (n := 80) (N' := 80) (k := 95) (tf := .array (.int)) (a0 := (80, .inl (fun _ => 0))) hP hD hS hlen rfl xm_11 rfl (fun C h => by cases h) (m_a_int 80) (by decide +kernel) (by decide +kernel) (by decide +kernel) (by decide) xm_144 rfl rfl (by decide +kernel) (fun _ => rfl) (fun _ => rfl) (Nat.le_of_ble_eq_true rfl) (Nat.le_of_ble_eq_true rfl) d_MM_init_746 d_MM_init_748 ?_
  clear hP hD hS hlen
  intro q_99 H locs hlen hP hD hS
  obtain ⟨fs_63, e_63⟩ : ∃ z, z = fs_62.set 95 (.ref q_99) := ⟨_, rfl⟩
  rw [← e_63] at hP hD hlen
  replace hP : va_P (dC, dI) classes [(h0, .inr (0, fs_63)), (q_1, .inr (1, q_2)), (q_3, .inr (2, [.ref q_4, .int 0])), (q_4, .inl (ca 0, 16, .inl (fun _ => 0))), (q_14, .inl (ca 4, 148, .inr (.inr (.inr (.inr (fun _ => none))))))] H := hP
  replace hD : va_D A [(h0, .inr (0, fs_63)), (q_1, .inr (1, q_2)), (q_3, .inr (2, [.ref q_4, .int 0])), (q_4, .inl (ca 0, 16, .inl (fun _ => 0))), (q_14, .inl (ca 4, 148, .inr (.inr (.inr (.inr (fun _ => none))))))] := hD
  refine W.widen (k := 117) (n := 525354) (Nat.le_of_ble_eq_true rfl) (Nat.le_of_ble_eq_true rfl) ?_
  refine lv_aload_n hx hb d_MM_init_751 rfl (lv_at hl 0 rfl) ?_
  refine lv_bipush (v := 80) hx hb d_MM_init_752 (by decide +kernel) ?_
  refine m_arr M (atype := .int) (ty := .int) (fs := fs_63) (wt := [(q_1, .inr (1, q_2)), (q_3, .inr (2, [.ref q_4, .int 0])), (q_4, .inl (ca 0, 16, .inl (fun _ => 0))), (q_14, .inl (ca 4, 148, .inr (.inr (.inr (.inr (fun _ => none))))))]) (t0 := 1) (n := 80) (N' := 80) (k := 96) (tf := .array (.int)) (a0 := (80, .inl (fun _ => 0))) hP hD hS hlen rfl xm_11 rfl (fun C h => by cases h) (m_a_int 80) (by decide +kernel) (by decide +kernel) (by decide +kernel) (by decide) xm_145 rfl rfl (by decide +kernel) (fun _ => rfl) (fun _ => rfl) (Nat.le_of_ble_eq_true rfl) (Nat.le_of_ble_eq_true rfl) d_MM_init_754 d_MM_init_756 ?_
  clear hP hD hS hlen
  intro q_100 H locs hlen hP hD hS
  obtain ⟨fs_64, e_64⟩ : ∃ z, z = fs_63.set 96 (.ref q_100) := ⟨_, rfl⟩
  rw [← e_64] at hP hD hlen
  replace hP : va_P (dC, dI) classes [(h0, .inr (0, fs_64)), (q_1, .inr (1, q_2)), (q_3, .inr (2, [.ref q_4, .int 0])), (q_4, .inl (ca 0, 16, .inl (fun _ => 0))), (q_14, .inl (ca 4, 148, .inr (.inr (.inr (.inr (fun _ => none))))))] H := hP
  replace hD : va_D A [(h0, .inr (0, fs_64)), (q_1, .inr (1, q_2)), (q_3, .inr (2, [.ref q_4, .int 0])), (q_4, .inl (ca 0, 16, .inl (fun _ => 0))), (q_14, .inl (ca 4, 148, .inr (.inr (.inr (.inr (fun _ => none))))))] := hD
  refine W.widen (k := 118) (n := 525434) (Nat.le_of_ble_eq_true rfl) (Nat.le_of_ble_eq_true rfl) ?_
  refine lv_aload_n hx hb d_MM_init_759 rfl (lv_at hl 0 rfl) ?_
  refine m_new M (wt := [(q_1, .inr (1, q_2)), (q_3, .inr (2, [.ref q_4, .int 0])), (q_4, .inl (ca 0, 16, .inl (fun _ => 0))), (q_14, .inl (ca 4, 148, .inr (.inr (.inr (.inr (fun _ => none))))))]) (ci := 4) (C := R_ML) (T := F_ML) (N := 2) (f0 := [.null, .int 0]) hP hD hS i_ML t_ML_ok xm_69 xm_50 xm_5 rfl (by decide +kernel) (Nat.le_of_ble_eq_true rfl) (Nat.le_of_ble_eq_true rfl) d_MM_init_760 d_MM_init_763 ?_
  clear hP hD hS
  intro q_101 H hP hD hS
  replace hP : va_P (dC, dI) classes [(h0, .inr (0, fs_64)), (q_1, .inr (1, q_2)), (q_3, .inr (2, [.ref q_4, .int 0])), (q_4, .inl (ca 0, 16, .inl (fun _ => 0))), (q_14, .inl (ca 4, 148, .inr (.inr (.inr (.inr (fun _ => none)))))), (q_101, .inr (4, [.null, .int 0]))] H := hP
  replace hD : va_D A [(h0, .inr (0, fs_64)), (q_1, .inr (1, q_2)), (q_3, .inr (2, [.ref q_4, .int 0])), (q_4, .inl (ca 0, 16, .inl (fun _ => 0))), (q_14, .inl (ca 4, 148, .inr (.inr (.inr (.inr (fun _ => none)))))), (q_101, .inr (4, [.null, .int 0]))] := hD
  refine W.widen (k := 119) (n := 525436) (Nat.le_of_ble_eq_true rfl) (Nat.le_of_ble_eq_true rfl) ?_
  refine lv_iconst (v := 4) hx hb d_MM_init_764 (by decide) ?_
  refine ax_I (k := 1) (As := [.int 4]) (rest := [.ref q_101, .ref h0]) (wr := [(h0, .inr (0, fs_64)), (q_1, .inr (1, q_2)), (q_3, .inr (2, [.ref q_4, .int 0])), (q_4, .inl (ca 0, 16, .inl (fun _ => 0))), (q_14, .inl (ca 4, 148, .inr (.inr (.inr (.inr (fun _ => none))))))]) rfl hx hb hml hown hts g_wm (mK_bl dC dI ca) (c_ML_init l dC dI ca q_101) rfl xm_70 xm_52 xm_5 xm_53 (by decide +kernel) rfl (Nat.le_of_ble_eq_true rfl) (Nat.le_of_ble_eq_true rfl) hl.1 (Nat.le_of_ble_eq_true rfl) (mK_up hK) hP hD hS hA [5] [0, 1, 2, 3, 4] rfl (by decide) rfl rfl (by decide) (by decide) (Nat.le_of_ble_eq_true rfl) (Nat.le_of_ble_eq_true rfl) d_MM_init_765 ?_
  clear hP hD hS
  intro v q_102 H locs hp hP hD hS
  obtain rfl : v = none := hp
  replace hP : va_P (dC, dI) classes [(h0, .inr (0, fs_64)), (q_1, .inr (1, q_2)), (q_3, .inr (2, [.ref q_4, .int 0])), (q_4, .inl (ca 0, 16, .inl (fun _ => 0))), (q_14, .inl (ca 4, 148, .inr (.inr (.inr (.inr (fun _ => none)))))), (q_101, .inr (4, [.ref q_102, .int 0])), (q_102, .inl (ca 2, 4, .inr (.inl (fun _ => 0))))] H := hP
  replace hD : va_D A [(h0, .inr (0, fs_64)), (q_1, .inr (1, q_2)), (q_3, .inr (2, [.ref q_4, .int 0])), (q_4, .inl (ca 0, 16, .inl (fun _ => 0))), (q_14, .inl (ca 4, 148, .inr (.inr (.inr (.inr (fun _ => none)))))), (q_101, .inr (4, [.ref q_102, .int 0])), (q_102, .inl (ca 2, 4, .inr (.inl (fun _ => 0))))] := hD
  refine W.eq (g2 := F0 m 768 ls [.ref q_101, .ref h0]) rfl ?_
  refine W.widen (k := 120) (n := 525440) (Nat.le_of_ble_eq_true rfl) (Nat.le_of_ble_eq_true rfl) ?_
  replace hP := hP.sub (ws' := [(h0, .inr (0, fs_64)), (q_1, .inr (1, q_2)), (q_3, .inr (2, [.ref q_4, .int 0])), (q_4, .inl (ca 0, 16, .inl (fun _ => 0))), (q_14, .inl (ca 4, 148, .inr (.inr (.inr (.inr (fun _ => none))))))]) [0, 1, 2, 3, 4] rfl
  replace hD := hD.sub (ws' := [(h0, .inr (0, fs_64)), (q_1, .inr (1, q_2)), (q_3, .inr (2, [.ref q_4, .int 0])), (q_4, .inl (ca 0, 16, .inl (fun _ => 0))), (q_14, .inl (ca 4, 148, .inr (.inr (.inr (.inr (fun _ => none))))))]) [0, 1, 2, 3, 4] (by decide) rfl
  refine m_put M (fs := fs_64) (wt := [(q_1, .inr (1, q_2)), (q_3, .inr (2, [.ref q_4, .int 0])), (q_4, .inl (ca 0, 16, .inl (fun _ => 0))), (q_14, .inl (ca 4, 148, .inr (.inr (.inr (.inr (fun _ => none))))))]) (k := 103) (ty := .object "SourceBackModel$Longs") hP hD hS hlen (by decide) xm_146 rfl rfl (by decide +kernel) rfl rfl d_MM_init_768 ?_
  clear hP hD hS hlen
  intro H locs hlen hP hD hS
  obtain ⟨fs_65, e_65⟩ : ∃ z, z = fs_64.set 103 (.ref q_101) := ⟨_, rfl⟩
  rw [← e_65] at hP hD hlen
  replace hP : va_P (dC, dI) classes [(h0, .inr (0, fs_65)), (q_1, .inr (1, q_2)), (q_3, .inr (2, [.ref q_4, .int 0])), (q_4, .inl (ca 0, 16, .inl (fun _ => 0))), (q_14, .inl (ca 4, 148, .inr (.inr (.inr (.inr (fun _ => none))))))] H := hP
  replace hD : va_D A [(h0, .inr (0, fs_65)), (q_1, .inr (1, q_2)), (q_3, .inr (2, [.ref q_4, .int 0])), (q_4, .inl (ca 0, 16, .inl (fun _ => 0))), (q_14, .inl (ca 4, 148, .inr (.inr (.inr (.inr (fun _ => none))))))] := hD
  refine lv_aload_n hx hb d_MM_init_771 rfl (lv_at hl 0 rfl) ?_
  refine m_new M (wt := [(q_1, .inr (1, q_2)), (q_3, .inr (2, [.ref q_4, .int 0])), (q_4, .inl (ca 0, 16, .inl (fun _ => 0))), (q_14, .inl (ca 4, 148, .inr (.inr (.inr (.inr (fun _ => none))))))]) (ci := 3) (C := R_MI) (T := F_MI) (N := 2) (f0 := [.null, .int 0]) hP hD hS i_MI t_MI_ok xm_32 xm_33 xm_3 rfl (by decide +kernel) (Nat.le_of_ble_eq_true rfl) (Nat.le_of_ble_eq_true rfl) d_MM_init_772 d_MM_init_775 ?_
  clear hP hD hS
  intro q_103 H hP hD hS
  replace hP : va_P (dC, dI) classes [(h0, .inr (0, fs_65)), (q_1, .inr (1, q_2)), (q_3, .inr (2, [.ref q_4, .int 0])), (q_4, .inl (ca 0, 16, .inl (fun _ => 0))), (q_14, .inl (ca 4, 148, .inr (.inr (.inr (.inr (fun _ => none)))))), (q_103, .inr (3, [.null, .int 0]))] H := hP
  replace hD : va_D A [(h0, .inr (0, fs_65)), (q_1, .inr (1, q_2)), (q_3, .inr (2, [.ref q_4, .int 0])), (q_4, .inl (ca 0, 16, .inl (fun _ => 0))), (q_14, .inl (ca 4, 148, .inr (.inr (.inr (.inr (fun _ => none)))))), (q_103, .inr (3, [.null, .int 0]))] := hD
  refine W.widen (k := 121) (n := 525442) (Nat.le_of_ble_eq_true rfl) (Nat.le_of_ble_eq_true rfl) ?_
  refine lv_iconst (v := 4) hx hb d_MM_init_776 (by decide) ?_
  refine ax_I (k := 1) (As := [.int 4]) (rest := [.ref q_103, .ref h0]) (wr := [(h0, .inr (0, fs_65)), (q_1, .inr (1, q_2)), (q_3, .inr (2, [.ref q_4, .int 0])), (q_4, .inl (ca 0, 16, .inl (fun _ => 0))), (q_14, .inl (ca 4, 148, .inr (.inr (.inr (.inr (fun _ => none))))))]) rfl hx hb hml hown hts g_wm (mK_bl dC dI ca) (c_MI_init l dC dI ca q_103) rfl xm_34 xm_35 xm_3 xm_36 (by decide +kernel) rfl (Nat.le_of_ble_eq_true rfl) (Nat.le_of_ble_eq_true rfl) hl.1 (Nat.le_of_ble_eq_true rfl) (mK_up hK) hP hD hS hA [5] [0, 1, 2, 3, 4] rfl (by decide) rfl rfl (by decide) (by decide) (Nat.le_of_ble_eq_true rfl) (Nat.le_of_ble_eq_true rfl) d_MM_init_777 ?_
  clear hP hD hS
  intro v q_104 H locs hp hP hD hS
  obtain rfl : v = none := hp
  replace hP : va_P (dC, dI) classes [(h0, .inr (0, fs_65)), (q_1, .inr (1, q_2)), (q_3, .inr (2, [.ref q_4, .int 0])), (q_4, .inl (ca 0, 16, .inl (fun _ => 0))), (q_14, .inl (ca 4, 148, .inr (.inr (.inr (.inr (fun _ => none)))))), (q_103, .inr (3, [.ref q_104, .int 0])), (q_104, .inl (ca 1, 4, .inl (fun _ => 0)))] H := hP
  replace hD : va_D A [(h0, .inr (0, fs_65)), (q_1, .inr (1, q_2)), (q_3, .inr (2, [.ref q_4, .int 0])), (q_4, .inl (ca 0, 16, .inl (fun _ => 0))), (q_14, .inl (ca 4, 148, .inr (.inr (.inr (.inr (fun _ => none)))))), (q_103, .inr (3, [.ref q_104, .int 0])), (q_104, .inl (ca 1, 4, .inl (fun _ => 0)))] := hD
  refine W.eq (g2 := F0 m 780 ls [.ref q_103, .ref h0]) rfl ?_
  refine W.widen (k := 122) (n := 525446) (Nat.le_of_ble_eq_true rfl) (Nat.le_of_ble_eq_true rfl) ?_
  replace hP := hP.sub (ws' := [(h0, .inr (0, fs_65)), (q_1, .inr (1, q_2)), (q_3, .inr (2, [.ref q_4, .int 0])), (q_4, .inl (ca 0, 16, .inl (fun _ => 0))), (q_14, .inl (ca 4, 148, .inr (.inr (.inr (.inr (fun _ => none))))))]) [0, 1, 2, 3, 4] rfl
  replace hD := hD.sub (ws' := [(h0, .inr (0, fs_65)), (q_1, .inr (1, q_2)), (q_3, .inr (2, [.ref q_4, .int 0])), (q_4, .inl (ca 0, 16, .inl (fun _ => 0))), (q_14, .inl (ca 4, 148, .inr (.inr (.inr (.inr (fun _ => none))))))]) [0, 1, 2, 3, 4] (by decide) rfl
  refine m_put M (fs := fs_65) (wt := [(q_1, .inr (1, q_2)), (q_3, .inr (2, [.ref q_4, .int 0])), (q_4, .inl (ca 0, 16, .inl (fun _ => 0))), (q_14, .inl (ca 4, 148, .inr (.inr (.inr (.inr (fun _ => none))))))]) (k := 104) (ty := .object "SourceBackModel$Ints") hP hD hS hlen (by decide) xm_147 rfl rfl (by decide +kernel) rfl rfl d_MM_init_780 ?_
  clear hP hD hS hlen
  intro H locs hlen hP hD hS
  obtain ⟨fs_66, e_66⟩ : ∃ z, z = fs_65.set 104 (.ref q_103) := ⟨_, rfl⟩
  rw [← e_66] at hP hD hlen
  replace hP : va_P (dC, dI) classes [(h0, .inr (0, fs_66)), (q_1, .inr (1, q_2)), (q_3, .inr (2, [.ref q_4, .int 0])), (q_4, .inl (ca 0, 16, .inl (fun _ => 0))), (q_14, .inl (ca 4, 148, .inr (.inr (.inr (.inr (fun _ => none))))))] H := hP
  replace hD : va_D A [(h0, .inr (0, fs_66)), (q_1, .inr (1, q_2)), (q_3, .inr (2, [.ref q_4, .int 0])), (q_4, .inl (ca 0, 16, .inl (fun _ => 0))), (q_14, .inl (ca 4, 148, .inr (.inr (.inr (.inr (fun _ => none))))))] := hD
  subst e_66 e_65 e_64 e_63 e_62 e_61 e_60 e_59
  exact kk q_95 q_96 q_97 q_98 q_99 q_100 q_101 q_103 H locs hlen hP hD hS
set_option maxHeartbeats 4000000 in
set_option maxRecDepth 100000 in
theorem mi_66 {p : Program} {l : Launch} {e : Env} {s : State} {m : MethodId} {args : Array Value} {below : List Frame} {meth : Method} {c : Code} {H : Heap} {locs : List Loc} {Q : State → Prop} {dC : Nat → ClassId} {dI : Nat → Nat → Nat} {ca : Nat → ClassId} {A : Nat → Prop} {ls : Array Slot} {h0 : Nat} {sa : Nat → Nat} (M : mC p s m args meth c dC dI ca A ls h0) (hks : ∀ (i : Nat) (z : Nat × String), strs[i]? = some z → vk_R R_MM z.1 z.2 (sa i) s ∧ va_Any "java/lang/String" s s.heap (sa i) ∧ sa i ≠ h0) (hnA : ∀ (i : Nat) (z : Nat × String), strs[i]? = some z → ¬ A (sa i)) {fs_66 : List Value} {q_1 : Nat} {q_2 : List Value} {q_3 : Nat} {q_4 : Nat} {q_14 : Nat} (hP : va_P (dC, dI) classes ((h0, .inr (0, fs_66)) :: [(q_1, .inr (1, q_2)), (q_3, .inr (2, [.ref q_4, .int 0])), (q_4, .inl (ca 0, 16, .inl (fun _ => 0))), (q_14, .inl (ca 4, 148, .inr (.inr (.inr (.inr (fun _ => none))))))]) H) (hD : va_D A ((h0, .inr (0, fs_66)) :: [(q_1, .inr (1, q_2)), (q_3, .inr (2, [.ref q_4, .int 0])), (q_4, .inl (ca 0, 16, .inl (fun _ => 0))), (q_14, .inl (ca 4, 148, .inr (.inr (.inr (.inr (fun _ => none))))))])) (hS : va_S A s.heap H locs) (hlen : fs_66.length = 132)
    (kk : ∀ (q_105 q_107 q_109 q_111 q_112 q_113 q_114 : Nat) (H : Heap) (locs : List Loc), (((((((fs_66.set 106 (.ref q_105)).set 108 (.ref q_107)).set 109 (.ref q_109)).set 110 (.ref q_111)).set 111 (.ref q_112)).set 112 (.ref q_113)).set 113 (.ref q_114)).length = 132 → va_P (dC, dI) classes ((h0, .inr (0, ((((((fs_66.set 106 (.ref q_105)).set 108 (.ref q_107)).set 109 (.ref q_109)).set 110 (.ref q_111)).set 111 (.ref q_112)).set 112 (.ref q_113)).set 113 (.ref q_114))) :: [(q_1, .inr (1, q_2)), (q_3, .inr (2, [.ref q_4, .int 0])), (q_4, .inl (ca 0, 16, .inl (fun _ => 0))), (q_14, .inl (ca 4, 148, .inr (.inr (.inr (.inr (fun _ => none)))))), (q_111, .inl (ca 1, 2, .inl (fun _ => 0))), (q_112, .inl (ca 2, 2, .inr (.inl (fun _ => 0)))), (q_113, .inl (ca 1, 2, .inl (fun _ => 0))), (q_114, .inl (ca 2, 2, .inr (.inl (fun _ => 0))))]) H → va_D A ((h0, .inr (0, ((((((fs_66.set 106 (.ref q_105)).set 108 (.ref q_107)).set 109 (.ref q_109)).set 110 (.ref q_111)).set 111 (.ref q_112)).set 112 (.ref q_113)).set 113 (.ref q_114))) :: [(q_1, .inr (1, q_2)), (q_3, .inr (2, [.ref q_4, .int 0])), (q_4, .inl (ca 0, 16, .inl (fun _ => 0))), (q_14, .inl (ca 4, 148, .inr (.inr (.inr (.inr (fun _ => none)))))), (q_111, .inl (ca 1, 2, .inl (fun _ => 0))), (q_112, .inl (ca 2, 2, .inr (.inl (fun _ => 0)))), (q_113, .inl (ca 1, 2, .inl (fun _ => 0))), (q_114, .inl (ca 2, 2, .inr (.inl (fun _ => 0))))]) → va_S A s.heap H locs → W p l e ({ frames := 7, cells := 166, slots := 640022, locals := 100 }) s m args below meth c H locs 151 525574 Q (F0 m 846 ls [])) :
    W p l e ({ frames := 7, cells := 166, slots := 640022, locals := 100 }) s m args below meth c H locs 122 525446 Q (F0 m 783 ls []) := by
  obtain ⟨hx, hb, hml, hown, hts, hin, hK, hA, hl⟩ := id M
  refine lv_aload_n hx hb d_MM_init_783 rfl (lv_at hl 0 rfl) ?_
  refine m_new M (wt := [(q_1, .inr (1, q_2)), (q_3, .inr (2, [.ref q_4, .int 0])), (q_4, .inl (ca 0, 16, .inl (fun _ => 0))), (q_14, .inl (ca 4, 148, .inr (.inr (.inr (.inr (fun _ => none))))))]) (ci := 5) (C := R_MR) (T := F_MR) (N := 24) (f0 := [.int 0, .int 0, .int 0, .int 0, .int 0, .int 0, .int 0, .null, .null, .null, .null, .null, .null, .null, .null, .null, .null, .null, .int 0, .int 0, .int 0, .int 0, .null, .int 0]) hP hD hS i_MR t_MR_ok xm_41 xm_42 xm_4 rfl (by decide +kernel) (Nat.le_of_ble_eq_true rfl) (Nat.le_of_ble_eq_true rfl) d_MM_init_784 d_MM_init_787 ?_
  clear hP hD hS
  intro q_105 H hP hD hS
  replace hP : va_P (dC, dI) classes [(h0, .inr (0, fs_66)), (q_1, .inr (1, q_2)), (q_3, .inr (2, [.ref q_4, .int 0])), (q_4, .inl (ca 0, 16, .inl (fun _ => 0))), (q_14, .inl (ca 4, 148, .inr (.inr (.inr (.inr (fun _ => none)))))), (q_105, .inr (5, [.int 0, .int 0, .int 0, .int 0, .int 0, .int 0, .int 0, .null, .null, .null, .null, .null, .null, .null, .null, .null, .null, .null, .int 0, .int 0, .int 0, .int 0, .null, .int 0]))] H := hP
  replace hD : va_D A [(h0, .inr (0, fs_66)), (q_1, .inr (1, q_2)), (q_3, .inr (2, [.ref q_4, .int 0])), (q_4, .inl (ca 0, 16, .inl (fun _ => 0))), (q_14, .inl (ca 4, 148, .inr (.inr (.inr (.inr (fun _ => none)))))), (q_105, .inr (5, [.int 0, .int 0, .int 0, .int 0, .int 0, .int 0, .int 0, .null, .null, .null, .null, .null, .null, .null, .null, .null, .null, .null, .int 0, .int 0, .int 0, .int 0, .null, .int 0]))] := hD
  refine W.widen (k := 123) (n := 525470) (Nat.le_of_ble_eq_true rfl) (Nat.le_of_ble_eq_true rfl) ?_
  refine lv_iconst (v := 4) hx hb d_MM_init_788 (by decide) ?_
  refine lv_iconst (v := 4) hx hb d_MM_init_789 (by decide) ?_
  refine ax_I (k := 2) (As := [.int 4, .int 4]) (rest := [.ref q_105, .ref h0]) (wr := [(h0, .inr (0, fs_66)), (q_1, .inr (1, q_2)), (q_3, .inr (2, [.ref q_4, .int 0])), (q_4, .inl (ca 0, 16, .inl (fun _ => 0))), (q_14, .inl (ca 4, 148, .inr (.inr (.inr (.inr (fun _ => none))))))]) rfl hx hb hml hown hts g_wm (mK_bl dC dI ca) (c_MR_init l dC dI ca q_105) rfl xm_43 xm_44 xm_4 xm_45 (by decide +kernel) rfl (Nat.le_of_ble_eq_true rfl) (Nat.le_of_ble_eq_true rfl) hl.1 (Nat.le_of_ble_eq_true rfl) (mK_up hK) hP hD hS hA [5] [0, 1, 2, 3, 4] rfl (by decide) rfl rfl (by decide) (by decide) (Nat.le_of_ble_eq_true rfl) (Nat.le_of_ble_eq_true rfl) d_MM_init_790 ?_
  clear hP hD hS
  intro v q_106 H locs hp hP hD hS
  obtain rfl : v = none := hp
  replace hP : va_P (dC, dI) classes [(h0, .inr (0, fs_66)), (q_1, .inr (1, q_2)), (q_3, .inr (2, [.ref q_4, .int 0])), (q_4, .inl (ca 0, 16, .inl (fun _ => 0))), (q_14, .inl (ca 4, 148, .inr (.inr (.inr (.inr (fun _ => none)))))), (q_105, .inr (5, q_106))] H := hP
  replace hD : va_D A [(h0, .inr (0, fs_66)), (q_1, .inr (1, q_2)), (q_3, .inr (2, [.ref q_4, .int 0])), (q_4, .inl (ca 0, 16, .inl (fun _ => 0))), (q_14, .inl (ca 4, 148, .inr (.inr (.inr (.inr (fun _ => none)))))), (q_105, .inr (5, q_106))] := hD
  refine W.eq (g2 := F0 m 793 ls [.ref q_105, .ref h0]) rfl ?_
  refine W.widen (k := 143) (n := 525530) (Nat.le_of_ble_eq_true rfl) (Nat.le_of_ble_eq_true rfl) ?_
  replace hP := hP.sub (ws' := [(h0, .inr (0, fs_66)), (q_1, .inr (1, q_2)), (q_3, .inr (2, [.ref q_4, .int 0])), (q_4, .inl (ca 0, 16, .inl (fun _ => 0))), (q_14, .inl (ca 4, 148, .inr (.inr (.inr (.inr (fun _ => none))))))]) [0, 1, 2, 3, 4] rfl
  replace hD := hD.sub (ws' := [(h0, .inr (0, fs_66)), (q_1, .inr (1, q_2)), (q_3, .inr (2, [.ref q_4, .int 0])), (q_4, .inl (ca 0, 16, .inl (fun _ => 0))), (q_14, .inl (ca 4, 148, .inr (.inr (.inr (.inr (fun _ => none))))))]) [0, 1, 2, 3, 4] (by decide) rfl
  refine m_put M (fs := fs_66) (wt := [(q_1, .inr (1, q_2)), (q_3, .inr (2, [.ref q_4, .int 0])), (q_4, .inl (ca 0, 16, .inl (fun _ => 0))), (q_14, .inl (ca 4, 148, .inr (.inr (.inr (.inr (fun _ => none))))))]) (k := 106) (ty := .object "SourceBackModel$Member") hP hD hS hlen (by decide) xm_149 rfl rfl (by decide +kernel) rfl rfl d_MM_init_793 ?_
  clear hP hD hS hlen
  intro H locs hlen hP hD hS
  obtain ⟨fs_67, e_67⟩ : ∃ z, z = fs_66.set 106 (.ref q_105) := ⟨_, rfl⟩
  rw [← e_67] at hP hD hlen
  replace hP : va_P (dC, dI) classes [(h0, .inr (0, fs_67)), (q_1, .inr (1, q_2)), (q_3, .inr (2, [.ref q_4, .int 0])), (q_4, .inl (ca 0, 16, .inl (fun _ => 0))), (q_14, .inl (ca 4, 148, .inr (.inr (.inr (.inr (fun _ => none))))))] H := hP
  replace hD : va_D A [(h0, .inr (0, fs_67)), (q_1, .inr (1, q_2)), (q_3, .inr (2, [.ref q_4, .int 0])), (q_4, .inl (ca 0, 16, .inl (fun _ => 0))), (q_14, .inl (ca 4, 148, .inr (.inr (.inr (.inr (fun _ => none))))))] := hD
  refine lv_aload_n hx hb d_MM_init_796 rfl (lv_at hl 0 rfl) ?_
  refine m_new M (wt := [(q_1, .inr (1, q_2)), (q_3, .inr (2, [.ref q_4, .int 0])), (q_4, .inl (ca 0, 16, .inl (fun _ => 0))), (q_14, .inl (ca 4, 148, .inr (.inr (.inr (.inr (fun _ => none))))))]) (ci := 2) (C := R_MB) (T := F_MB) (N := 2) (f0 := [.null, .int 0]) hP hD hS i_MB t_MB_ok xm_25 xm_26 xm_2 rfl (by decide +kernel) (Nat.le_of_ble_eq_true rfl) (Nat.le_of_ble_eq_true rfl) d_MM_init_797 d_MM_init_800 ?_
  clear hP hD hS
  intro q_107 H hP hD hS
  replace hP : va_P (dC, dI) classes [(h0, .inr (0, fs_67)), (q_1, .inr (1, q_2)), (q_3, .inr (2, [.ref q_4, .int 0])), (q_4, .inl (ca 0, 16, .inl (fun _ => 0))), (q_14, .inl (ca 4, 148, .inr (.inr (.inr (.inr (fun _ => none)))))), (q_107, .inr (2, [.null, .int 0]))] H := hP
  replace hD : va_D A [(h0, .inr (0, fs_67)), (q_1, .inr (1, q_2)), (q_3, .inr (2, [.ref q_4, .int 0])), (q_4, .inl (ca 0, 16, .inl (fun _ => 0))), (q_14, .inl (ca 4, 148, .inr (.inr (.inr (.inr (fun _ => none)))))), (q_107, .inr (2, [.null, .int 0]))] := hD
  refine W.widen (k := 144) (n := 525532) (Nat.le_of_ble_eq_true rfl) (Nat.le_of_ble_eq_true rfl) ?_
  refine ax_IN (k := 0) (As := []) (rest := [.ref q_107, .ref h0]) (wr := [(h0, .inr (0, fs_67)), (q_1, .inr (1, q_2)), (q_3, .inr (2, [.ref q_4, .int 0])), (q_4, .inl (ca 0, 16, .inl (fun _ => 0))), (q_14, .inl (ca 4, 148, .inr (.inr (.inr (.inr (fun _ => none))))))]) rfl hx hb hml hown hts g_wm (mK_bl dC dI ca) (c_MB_init l dC dI ca q_107) rfl (hK.2.1 _ zm_3) xm_27 xm_2 xm_28 (by decide +kernel) rfl (Nat.le_of_ble_eq_true rfl) (Nat.le_of_ble_eq_true rfl) hl.1 (Nat.le_of_ble_eq_true rfl) (mK_up hK) hP hD hS hA [5] [0, 1, 2, 3, 4] rfl (by decide) rfl rfl (by decide) (by decide) (Nat.le_of_ble_eq_true rfl) (Nat.le_of_ble_eq_true rfl) d_MM_init_801 ?_
  clear hP hD hS
  intro v q_108 H locs hp hP hD hS
  obtain rfl : v = none := hp
  replace hP : va_P (dC, dI) classes [(h0, .inr (0, fs_67)), (q_1, .inr (1, q_2)), (q_3, .inr (2, [.ref q_4, .int 0])), (q_4, .inl (ca 0, 16, .inl (fun _ => 0))), (q_14, .inl (ca 4, 148, .inr (.inr (.inr (.inr (fun _ => none)))))), (q_107, .inr (2, [.ref q_108, .int 0])), (q_108, .inl (ca 0, 16, .inl (fun _ => 0)))] H := hP
  replace hD : va_D A [(h0, .inr (0, fs_67)), (q_1, .inr (1, q_2)), (q_3, .inr (2, [.ref q_4, .int 0])), (q_4, .inl (ca 0, 16, .inl (fun _ => 0))), (q_14, .inl (ca 4, 148, .inr (.inr (.inr (.inr (fun _ => none)))))), (q_107, .inr (2, [.ref q_108, .int 0])), (q_108, .inl (ca 0, 16, .inl (fun _ => 0)))] := hD
  refine W.eq (g2 := F0 m 804 ls [.ref q_107, .ref h0]) rfl ?_
  refine W.widen (k := 145) (n := 525548) (Nat.le_of_ble_eq_true rfl) (Nat.le_of_ble_eq_true rfl) ?_
  replace hP := hP.sub (ws' := [(h0, .inr (0, fs_67)), (q_1, .inr (1, q_2)), (q_3, .inr (2, [.ref q_4, .int 0])), (q_4, .inl (ca 0, 16, .inl (fun _ => 0))), (q_14, .inl (ca 4, 148, .inr (.inr (.inr (.inr (fun _ => none))))))]) [0, 1, 2, 3, 4] rfl
  replace hD := hD.sub (ws' := [(h0, .inr (0, fs_67)), (q_1, .inr (1, q_2)), (q_3, .inr (2, [.ref q_4, .int 0])), (q_4, .inl (ca 0, 16, .inl (fun _ => 0))), (q_14, .inl (ca 4, 148, .inr (.inr (.inr (.inr (fun _ => none))))))]) [0, 1, 2, 3, 4] (by decide) rfl
  refine m_put M (fs := fs_67) (wt := [(q_1, .inr (1, q_2)), (q_3, .inr (2, [.ref q_4, .int 0])), (q_4, .inl (ca 0, 16, .inl (fun _ => 0))), (q_14, .inl (ca 4, 148, .inr (.inr (.inr (.inr (fun _ => none))))))]) (k := 108) (ty := .object "SourceBackModel$Bytes") hP hD hS hlen (by decide) xm_150 rfl rfl (by decide +kernel) rfl rfl d_MM_init_804 ?_
  clear hP hD hS hlen
  intro H locs hlen hP hD hS
  obtain ⟨fs_68, e_68⟩ : ∃ z, z = fs_67.set 108 (.ref q_107) := ⟨_, rfl⟩
  rw [← e_68] at hP hD hlen
  replace hP : va_P (dC, dI) classes [(h0, .inr (0, fs_68)), (q_1, .inr (1, q_2)), (q_3, .inr (2, [.ref q_4, .int 0])), (q_4, .inl (ca 0, 16, .inl (fun _ => 0))), (q_14, .inl (ca 4, 148, .inr (.inr (.inr (.inr (fun _ => none))))))] H := hP
  replace hD : va_D A [(h0, .inr (0, fs_68)), (q_1, .inr (1, q_2)), (q_3, .inr (2, [.ref q_4, .int 0])), (q_4, .inl (ca 0, 16, .inl (fun _ => 0))), (q_14, .inl (ca 4, 148, .inr (.inr (.inr (.inr (fun _ => none))))))] := hD
  refine lv_aload_n hx hb d_MM_init_807 rfl (lv_at hl 0 rfl) ?_
  refine m_new M (wt := [(q_1, .inr (1, q_2)), (q_3, .inr (2, [.ref q_4, .int 0])), (q_4, .inl (ca 0, 16, .inl (fun _ => 0))), (q_14, .inl (ca 4, 148, .inr (.inr (.inr (.inr (fun _ => none))))))]) (ci := 2) (C := R_MB) (T := F_MB) (N := 2) (f0 := [.null, .int 0]) hP hD hS i_MB t_MB_ok xm_25 xm_26 xm_2 rfl (by decide +kernel) (Nat.le_of_ble_eq_true rfl) (Nat.le_of_ble_eq_true rfl) d_MM_init_808 d_MM_init_811 ?_
  clear hP hD hS
  intro q_109 H hP hD hS
  replace hP : va_P (dC, dI) classes [(h0, .inr (0, fs_68)), (q_1, .inr (1, q_2)), (q_3, .inr (2, [.ref q_4, .int 0])), (q_4, .inl (ca 0, 16, .inl (fun _ => 0))), (q_14, .inl (ca 4, 148, .inr (.inr (.inr (.inr (fun _ => none)))))), (q_109, .inr (2, [.null, .int 0]))] H := hP
  replace hD : va_D A [(h0, .inr (0, fs_68)), (q_1, .inr (1, q_2)), (q_3, .inr (2, [.ref q_4, .int 0])), (q_4, .inl (ca 0, 16, .inl (fun _ => 0))), (q_14, .inl (ca 4, 148, .inr (.inr (.inr (.inr (fun _ => none)))))), (q_109, .inr (2, [.null, .int 0]))] := hD
  refine W.widen (k := 146) (n := 525550) (Nat.le_of_ble_eq_true rfl) (Nat.le_of_ble_eq_true rfl) ?_
  refine ax_IN (k := 0) (As := []) (rest := [.ref q_109, .ref h0]) (wr := [(h0, .inr (0, fs_68)), (q_1, .inr (1, q_2)), (q_3, .inr (2, [.ref q_4, .int 0])), (q_4, .inl (ca 0, 16, .inl (fun _ => 0))), (q_14, .inl (ca 4, 148, .inr (.inr (.inr (.inr (fun _ => none))))))]) rfl hx hb hml hown hts g_wm (mK_bl dC dI ca) (c_MB_init l dC dI ca q_109) rfl (hK.2.1 _ zm_3) xm_27 xm_2 xm_28 (by decide +kernel) rfl (Nat.le_of_ble_eq_true rfl) (Nat.le_of_ble_eq_true rfl) hl.1 (Nat.le_of_ble_eq_true rfl) (mK_up hK) hP hD hS hA [5] [0, 1, 2, 3, 4] rfl (by decide) rfl rfl (by decide) (by decide) (Nat.le_of_ble_eq_true rfl) (Nat.le_of_ble_eq_true rfl) d_MM_init_812 ?_
  clear hP hD hS
  intro v q_110 H locs hp hP hD hS
  obtain rfl : v = none := hp
  replace hP : va_P (dC, dI) classes [(h0, .inr (0, fs_68)), (q_1, .inr (1, q_2)), (q_3, .inr (2, [.ref q_4, .int 0])), (q_4, .inl (ca 0, 16, .inl (fun _ => 0))), (q_14, .inl (ca 4, 148, .inr (.inr (.inr (.inr (fun _ => none)))))), (q_109, .inr (2, [.ref q_110, .int 0])), (q_110, .inl (ca 0, 16, .inl (fun _ => 0)))] H := hP
  replace hD : va_D A [(h0, .inr (0, fs_68)), (q_1, .inr (1, q_2)), (q_3, .inr (2, [.ref q_4, .int 0])), (q_4, .inl (ca 0, 16, .inl (fun _ => 0))), (q_14, .inl (ca 4, 148, .inr (.inr (.inr (.inr (fun _ => none)))))), (q_109, .inr (2, [.ref q_110, .int 0])), (q_110, .inl (ca 0, 16, .inl (fun _ => 0)))] := hD
  refine W.eq (g2 := F0 m 815 ls [.ref q_109, .ref h0]) rfl ?_
  refine W.widen (k := 147) (n := 525566) (Nat.le_of_ble_eq_true rfl) (Nat.le_of_ble_eq_true rfl) ?_
  replace hP := hP.sub (ws' := [(h0, .inr (0, fs_68)), (q_1, .inr (1, q_2)), (q_3, .inr (2, [.ref q_4, .int 0])), (q_4, .inl (ca 0, 16, .inl (fun _ => 0))), (q_14, .inl (ca 4, 148, .inr (.inr (.inr (.inr (fun _ => none))))))]) [0, 1, 2, 3, 4] rfl
  replace hD := hD.sub (ws' := [(h0, .inr (0, fs_68)), (q_1, .inr (1, q_2)), (q_3, .inr (2, [.ref q_4, .int 0])), (q_4, .inl (ca 0, 16, .inl (fun _ => 0))), (q_14, .inl (ca 4, 148, .inr (.inr (.inr (.inr (fun _ => none))))))]) [0, 1, 2, 3, 4] (by decide) rfl
  refine m_put M (fs := fs_68) (wt := [(q_1, .inr (1, q_2)), (q_3, .inr (2, [.ref q_4, .int 0])), (q_4, .inl (ca 0, 16, .inl (fun _ => 0))), (q_14, .inl (ca 4, 148, .inr (.inr (.inr (.inr (fun _ => none))))))]) (k := 109) (ty := .object "SourceBackModel$Bytes") hP hD hS hlen (by decide) xm_151 rfl rfl (by decide +kernel) rfl rfl d_MM_init_815 ?_
  clear hP hD hS hlen
  intro H locs hlen hP hD hS
  obtain ⟨fs_69, e_69⟩ : ∃ z, z = fs_68.set 109 (.ref q_109) := ⟨_, rfl⟩
  rw [← e_69] at hP hD hlen
  replace hP : va_P (dC, dI) classes [(h0, .inr (0, fs_69)), (q_1, .inr (1, q_2)), (q_3, .inr (2, [.ref q_4, .int 0])), (q_4, .inl (ca 0, 16, .inl (fun _ => 0))), (q_14, .inl (ca 4, 148, .inr (.inr (.inr (.inr (fun _ => none))))))] H := hP
  replace hD : va_D A [(h0, .inr (0, fs_69)), (q_1, .inr (1, q_2)), (q_3, .inr (2, [.ref q_4, .int 0])), (q_4, .inl (ca 0, 16, .inl (fun _ => 0))), (q_14, .inl (ca 4, 148, .inr (.inr (.inr (.inr (fun _ => none))))))] := hD
  refine lv_aload_n hx hb d_MM_init_818 rfl (lv_at hl 0 rfl) ?_
  refine lv_iconst (v := 2) hx hb d_MM_init_819 (by decide) ?_
  refine m_arrK M (atype := .int) (ty := .int) (fs := fs_69) (wt := [(q_1, .inr (1, q_2)), (q_3, .inr (2, [.ref q_4, .int 0])), (q_4, .inl (ca 0, 16, .inl (fun _ => 0))), (q_14, .inl (ca 4, 148, .inr (.inr (.inr (.inr (fun _ => none))))))]) (t0 := 1) (n := 2) (N' := 2) (k := 110) (tf := .array (.int)) (a0 := (2, .inl (fun _ => 0))) hP hD hS hlen rfl xm_11 rfl (fun C h => by cases h) (m_a_int 2) (by decide +kernel) (by decide +kernel) (by decide +kernel) (by decide) xm_152 rfl rfl (by decide +kernel) (fun _ => rfl) (fun _ => rfl) (Nat.le_of_ble_eq_true rfl) (Nat.le_of_ble_eq_true rfl) d_MM_init_820 d_MM_init_822 ?_
  clear hP hD hS hlen
  intro q_111 H locs hlen hP hD hS
  obtain ⟨fs_70, e_70⟩ : ∃ z, z = fs_69.set 110 (.ref q_111) := ⟨_, rfl⟩
  rw [← e_70] at hP hD hlen
  replace hP : va_P (dC, dI) classes [(h0, .inr (0, fs_70)), (q_1, .inr (1, q_2)), (q_3, .inr (2, [.ref q_4, .int 0])), (q_4, .inl (ca 0, 16, .inl (fun _ => 0))), (q_14, .inl (ca 4, 148, .inr (.inr (.inr (.inr (fun _ => none)))))), (q_111, .inl (ca 1, 2, .inl (fun _ => 0)))] H := hP
  replace hD : va_D A [(h0, .inr (0, fs_70)), (q_1, .inr (1, q_2)), (q_3, .inr (2, [.ref q_4, .int 0])), (q_4, .inl (ca 0, 16, .inl (fun _ => 0))), (q_14, .inl (ca 4, 148, .inr (.inr (.inr (.inr (fun _ => none)))))), (q_111, .inl (ca 1, 2, .inl (fun _ => 0)))] := hD
  refine W.widen (k := 148) (n := 525568) (Nat.le_of_ble_eq_true rfl) (Nat.le_of_ble_eq_true rfl) ?_
  refine lv_aload_n hx hb d_MM_init_825 rfl (lv_at hl 0 rfl) ?_
  refine lv_iconst (v := 2) hx hb d_MM_init_826 (by decide) ?_
  refine m_arrK M (atype := .long) (ty := .long) (fs := fs_70) (wt := [(q_1, .inr (1, q_2)), (q_3, .inr (2, [.ref q_4, .int 0])), (q_4, .inl (ca 0, 16, .inl (fun _ => 0))), (q_14, .inl (ca 4, 148, .inr (.inr (.inr (.inr (fun _ => none)))))), (q_111, .inl (ca 1, 2, .inl (fun _ => 0)))]) (t0 := 2) (n := 2) (N' := 2) (k := 111) (tf := .array (.long)) (a0 := (2, .inr (.inl (fun _ => 0)))) hP hD hS hlen rfl xm_12 rfl (fun C h => by cases h) (m_a_long 2) (by decide +kernel) (by decide +kernel) (by decide +kernel) (by decide) xm_153 rfl rfl (by decide +kernel) (fun _ => rfl) (fun _ => rfl) (Nat.le_of_ble_eq_true rfl) (Nat.le_of_ble_eq_true rfl) d_MM_init_827 d_MM_init_829 ?_
  clear hP hD hS hlen
  intro q_112 H locs hlen hP hD hS
  obtain ⟨fs_71, e_71⟩ : ∃ z, z = fs_70.set 111 (.ref q_112) := ⟨_, rfl⟩
  rw [← e_71] at hP hD hlen
  replace hP : va_P (dC, dI) classes [(h0, .inr (0, fs_71)), (q_1, .inr (1, q_2)), (q_3, .inr (2, [.ref q_4, .int 0])), (q_4, .inl (ca 0, 16, .inl (fun _ => 0))), (q_14, .inl (ca 4, 148, .inr (.inr (.inr (.inr (fun _ => none)))))), (q_111, .inl (ca 1, 2, .inl (fun _ => 0))), (q_112, .inl (ca 2, 2, .inr (.inl (fun _ => 0))))] H := hP
  replace hD : va_D A [(h0, .inr (0, fs_71)), (q_1, .inr (1, q_2)), (q_3, .inr (2, [.ref q_4, .int 0])), (q_4, .inl (ca 0, 16, .inl (fun _ => 0))), (q_14, .inl (ca 4, 148, .inr (.inr (.inr (.inr (fun _ => none)))))), (q_111, .inl (ca 1, 2, .inl (fun _ => 0))), (q_112, .inl (ca 2, 2, .inr (.inl (fun _ => 0))))] := hD
  refine W.widen (k := 149) (n := 525570) (Nat.le_of_ble_eq_true rfl) (Nat.le_of_ble_eq_true rfl) ?_
  refine lv_aload_n hx hb d_MM_init_832 rfl (lv_at hl 0 rfl) ?_
  refine lv_iconst (v := 2) hx hb d_MM_init_833 (by decide) ?_
  refine m_arrK M (atype := .int) (ty := .int) (fs := fs_71) (wt := [(q_1, .inr (1, q_2)), (q_3, .inr (2, [.ref q_4, .int 0])), (q_4, .inl (ca 0, 16, .inl (fun _ => 0))), (q_14, .inl (ca 4, 148, .inr (.inr (.inr (.inr (fun _ => none)))))), (q_111, .inl (ca 1, 2, .inl (fun _ => 0))), (q_112, .inl (ca 2, 2, .inr (.inl (fun _ => 0))))]) (t0 := 1) (n := 2) (N' := 2) (k := 112) (tf := .array (.int)) (a0 := (2, .inl (fun _ => 0))) hP hD hS hlen rfl xm_11 rfl (fun C h => by cases h) (m_a_int 2) (by decide +kernel) (by decide +kernel) (by decide +kernel) (by decide) xm_154 rfl rfl (by decide +kernel) (fun _ => rfl) (fun _ => rfl) (Nat.le_of_ble_eq_true rfl) (Nat.le_of_ble_eq_true rfl) d_MM_init_834 d_MM_init_836 ?_
  clear hP hD hS hlen
  intro q_113 H locs hlen hP hD hS
  obtain ⟨fs_72, e_72⟩ : ∃ z, z = fs_71.set 112 (.ref q_113) := ⟨_, rfl⟩
  rw [← e_72] at hP hD hlen
  replace hP : va_P (dC, dI) classes [(h0, .inr (0, fs_72)), (q_1, .inr (1, q_2)), (q_3, .inr (2, [.ref q_4, .int 0])), (q_4, .inl (ca 0, 16, .inl (fun _ => 0))), (q_14, .inl (ca 4, 148, .inr (.inr (.inr (.inr (fun _ => none)))))), (q_111, .inl (ca 1, 2, .inl (fun _ => 0))), (q_112, .inl (ca 2, 2, .inr (.inl (fun _ => 0)))), (q_113, .inl (ca 1, 2, .inl (fun _ => 0)))] H := hP
  replace hD : va_D A [(h0, .inr (0, fs_72)), (q_1, .inr (1, q_2)), (q_3, .inr (2, [.ref q_4, .int 0])), (q_4, .inl (ca 0, 16, .inl (fun _ => 0))), (q_14, .inl (ca 4, 148, .inr (.inr (.inr (.inr (fun _ => none)))))), (q_111, .inl (ca 1, 2, .inl (fun _ => 0))), (q_112, .inl (ca 2, 2, .inr (.inl (fun _ => 0)))), (q_113, .inl (ca 1, 2, .inl (fun _ => 0)))] := hD
  refine W.widen (k := 150) (n := 525572) (Nat.le_of_ble_eq_true rfl) (Nat.le_of_ble_eq_true rfl) ?_
  refine lv_aload_n hx hb d_MM_init_839 rfl (lv_at hl 0 rfl) ?_
  refine lv_iconst (v := 2) hx hb d_MM_init_840 (by decide) ?_
  refine m_arrK M (atype := .long) (ty := .long) (fs := fs_72) (wt := [(q_1, .inr (1, q_2)), (q_3, .inr (2, [.ref q_4, .int 0])), (q_4, .inl (ca 0, 16, .inl (fun _ => 0))), (q_14, .inl (ca 4, 148, .inr (.inr (.inr (.inr (fun _ => none)))))), (q_111, .inl (ca 1, 2, .inl (fun _ => 0))), (q_112, .inl (ca 2, 2, .inr (.inl (fun _ => 0)))), (q_113, .inl (ca 1, 2, .inl (fun _ => 0)))]) (t0 := 2) (n := 2) (N' := 2) (k := 113) (tf := .array (.long)) (a0 := (2, .inr (.inl (fun _ => 0)))) hP hD hS hlen rfl xm_12 rfl (fun C h => by cases h) (m_a_long 2) (by decide +kernel) (by decide +kernel) (by decide +kernel) (by decide) xm_155 rfl rfl (by decide +kernel) (fun _ => rfl) (fun _ => rfl) (Nat.le_of_ble_eq_true rfl) (Nat.le_of_ble_eq_true rfl) d_MM_init_841 d_MM_init_843 ?_
  clear hP hD hS hlen
  intro q_114 H locs hlen hP hD hS
  obtain ⟨fs_73, e_73⟩ : ∃ z, z = fs_72.set 113 (.ref q_114) := ⟨_, rfl⟩
  rw [← e_73] at hP hD hlen
  replace hP : va_P (dC, dI) classes [(h0, .inr (0, fs_73)), (q_1, .inr (1, q_2)), (q_3, .inr (2, [.ref q_4, .int 0])), (q_4, .inl (ca 0, 16, .inl (fun _ => 0))), (q_14, .inl (ca 4, 148, .inr (.inr (.inr (.inr (fun _ => none)))))), (q_111, .inl (ca 1, 2, .inl (fun _ => 0))), (q_112, .inl (ca 2, 2, .inr (.inl (fun _ => 0)))), (q_113, .inl (ca 1, 2, .inl (fun _ => 0))), (q_114, .inl (ca 2, 2, .inr (.inl (fun _ => 0))))] H := hP
  replace hD : va_D A [(h0, .inr (0, fs_73)), (q_1, .inr (1, q_2)), (q_3, .inr (2, [.ref q_4, .int 0])), (q_4, .inl (ca 0, 16, .inl (fun _ => 0))), (q_14, .inl (ca 4, 148, .inr (.inr (.inr (.inr (fun _ => none)))))), (q_111, .inl (ca 1, 2, .inl (fun _ => 0))), (q_112, .inl (ca 2, 2, .inr (.inl (fun _ => 0)))), (q_113, .inl (ca 1, 2, .inl (fun _ => 0))), (q_114, .inl (ca 2, 2, .inr (.inl (fun _ => 0))))] := hD
  refine W.widen (k := 151) (n := 525574) (Nat.le_of_ble_eq_true rfl) (Nat.le_of_ble_eq_true rfl) ?_
  subst e_73 e_72 e_71 e_70 e_69 e_68 e_67
  exact kk q_105 q_107 q_109 q_111 q_112 q_113 q_114 H locs hlen hP hD hS
set_option maxHeartbeats 4000000 in
set_option maxRecDepth 100000 in
theorem mi_73 {p : Program} {l : Launch} {e : Env} {s : State} {m : MethodId} {args : Array Value} {below : List Frame} {meth : Method} {c : Code} {H : Heap} {locs : List Loc} {Q : State → Prop} {dC : Nat → ClassId} {dI : Nat → Nat → Nat} {ca : Nat → ClassId} {A : Nat → Prop} {ls : Array Slot} {h0 : Nat} {sa : Nat → Nat} (M : mC p s m args meth c dC dI ca A ls h0) (hks : ∀ (i : Nat) (z : Nat × String), strs[i]? = some z → vk_R R_MM z.1 z.2 (sa i) s ∧ va_Any "java/lang/String" s s.heap (sa i) ∧ sa i ≠ h0) (hnA : ∀ (i : Nat) (z : Nat × String), strs[i]? = some z → ¬ A (sa i)) {fs_73 : List Value} {q_1 : Nat} {q_2 : List Value} {q_3 : Nat} {q_4 : Nat} {q_14 : Nat} {q_111 : Nat} {q_112 : Nat} {q_113 : Nat} {q_114 : Nat} (hP : va_P (dC, dI) classes ((h0, .inr (0, fs_73)) :: [(q_1, .inr (1, q_2)), (q_3, .inr (2, [.ref q_4, .int 0])), (q_4, .inl (ca 0, 16, .inl (fun _ => 0))), (q_14, .inl (ca 4, 148, .inr (.inr (.inr (.inr (fun _ => none)))))), (q_111, .inl (ca 1, 2, .inl (fun _ => 0))), (q_112, .inl (ca 2, 2, .inr (.inl (fun _ => 0)))), (q_113, .inl (ca 1, 2, .inl (fun _ => 0))), (q_114, .inl (ca 2, 2, .inr (.inl (fun _ => 0))))]) H) (hD : va_D A ((h0, .inr (0, fs_73)) :: [(q_1, .inr (1, q_2)), (q_3, .inr (2, [.ref q_4, .int 0])), (q_4, .inl (ca 0, 16, .inl (fun _ => 0))), (q_14, .inl (ca 4, 148, .inr (.inr (.inr (.inr (fun _ => none)))))), (q_111, .inl (ca 1, 2, .inl (fun _ => 0))), (q_112, .inl (ca 2, 2, .inr (.inl (fun _ => 0)))), (q_113, .inl (ca 1, 2, .inl (fun _ => 0))), (q_114, .inl (ca 2, 2, .inr (.inl (fun _ => 0))))])) (hS : va_S A s.heap H locs) (hlen : fs_73.length = 132)
    (kk : ∀ (q_115 q_116 q_117 q_118 q_119 q_120 q_121 q_122 q_123 q_124 q_125 : Nat) (H : Heap) (locs : List Loc), (((((((((((fs_73.set 114 (.ref q_115)).set 116 (.ref q_116)).set 117 (.ref q_117)).set 118 (.ref q_118)).set 119 (.ref q_119)).set 120 (.ref q_120)).set 121 (.ref q_121)).set 122 (.ref q_122)).set 123 (.ref q_123)).set 124 (.ref q_124)).set 125 (.ref q_125)).length = 132 → va_P (dC, dI) classes ((h0, .inr (0, ((((((((((fs_73.set 114 (.ref q_115)).set 116 (.ref q_116)).set 117 (.ref q_117)).set 118 (.ref q_118)).set 119 (.ref q_119)).set 120 (.ref q_120)).set 121 (.ref q_121)).set 122 (.ref q_122)).set 123 (.ref q_123)).set 124 (.ref q_124)).set 125 (.ref q_125))) :: [(q_1, .inr (1, q_2)), (q_3, .inr (2, [.ref q_4, .int 0])), (q_4, .inl (ca 0, 16, .inl (fun _ => 0))), (q_14, .inl (ca 4, 148, .inr (.inr (.inr (.inr (fun _ => none)))))), (q_111, .inl (ca 1, 2, .inl (fun _ => 0))), (q_112, .inl (ca 2, 2, .inr (.inl (fun _ => 0)))), (q_113, .inl (ca 1, 2, .inl (fun _ => 0))), (q_114, .inl (ca 2, 2, .inr (.inl (fun _ => 0)))), (q_115, .inl (ca 2, 2, .inr (.inl (fun _ => 0)))), (q_117, .inl (ca 1, 2, .inl (fun _ => 0))), (q_118, .inl (ca 1, 2, .inl (fun _ => 0))), (q_120, .inl (ca 1, 8000, .inl (fun _ => 0))), (q_122, .inl (ca 1, 2, .inl (fun _ => 0)))]) H → va_D A ((h0, .inr (0, ((((((((((fs_73.set 114 (.ref q_115)).set 116 (.ref q_116)).set 117 (.ref q_117)).set 118 (.ref q_118)).set 119 (.ref q_119)).set 120 (.ref q_120)).set 121 (.ref q_121)).set 122 (.ref q_122)).set 123 (.ref q_123)).set 124 (.ref q_124)).set 125 (.ref q_125))) :: [(q_1, .inr (1, q_2)), (q_3, .inr (2, [.ref q_4, .int 0])), (q_4, .inl (ca 0, 16, .inl (fun _ => 0))), (q_14, .inl (ca 4, 148, .inr (.inr (.inr (.inr (fun _ => none)))))), (q_111, .inl (ca 1, 2, .inl (fun _ => 0))), (q_112, .inl (ca 2, 2, .inr (.inl (fun _ => 0)))), (q_113, .inl (ca 1, 2, .inl (fun _ => 0))), (q_114, .inl (ca 2, 2, .inr (.inl (fun _ => 0)))), (q_115, .inl (ca 2, 2, .inr (.inl (fun _ => 0)))), (q_117, .inl (ca 1, 2, .inl (fun _ => 0))), (q_118, .inl (ca 1, 2, .inl (fun _ => 0))), (q_120, .inl (ca 1, 8000, .inl (fun _ => 0))), (q_122, .inl (ca 1, 2, .inl (fun _ => 0)))]) → va_S A s.heap H locs → W p l e ({ frames := 7, cells := 166, slots := 640022, locals := 100 }) s m args below meth c H locs 162 625142 Q (F0 m 935 ls [])) :
    W p l e ({ frames := 7, cells := 166, slots := 640022, locals := 100 }) s m args below meth c H locs 151 525574 Q (F0 m 846 ls []) := by
  obtain ⟨hx, hb, hml, hown, hts, hin, hK, hA, hl⟩ := id M
  refine lv_aload_n hx hb d_MM_init_846 rfl (lv_at hl 0 rfl) ?_
  refine lv_iconst (v := 2) hx hb d_MM_init_847 (by decide) ?_
  refine m_arrK M (atype := .long) (ty := .long) (fs := fs_73) (wt := [(q_1, .inr (1, q_2)), (q_3, .inr (2, [.ref q_4, .int 0])), (q_4, .inl (ca 0, 16, .inl (fun _ => 0))), (q_14, .inl (ca 4, 148, .inr (.inr (.inr (.inr (fun _ => none)))))), (q_111, .inl (ca 1, 2, .inl (fun _ => 0))), (q_112, .inl (ca 2, 2, .inr (.inl (fun _ => 0)))), (q_113, .inl (ca 1, 2, .inl (fun _ => 0))), (q_114, .inl (ca 2, 2, .inr (.inl (fun _ => 0))))]) (t0 := 2) (n := 2) (N' := 2) (k := 114) (tf := .array (.long)) (a0 := (2, .inr (.inl (fun _ => 0)))) hP hD hS hlen rfl xm_12 rfl (fun C h => by cases h) (m_a_long 2) (by decide +kernel) (by decide +kernel) (by decide +kernel) (by decide) xm_156 rfl rfl (by decide +kernel) (fun _ => rfl) (fun _ => rfl) (Nat.le_of_ble_eq_true rfl) (Nat.le_of_ble_eq_true rfl) d_MM_init_848 d_MM_init_850 ?_
  clear hP hD hS hlen
  intro q_115 H locs hlen hP hD hS
  obtain ⟨fs_74, e_74⟩ : ∃ z, z = fs_73.set 114 (.ref q_115) := ⟨_, rfl⟩
  rw [← e_74] at hP hD hlen
  replace hP : va_P (dC, dI) classes [(h0, .inr (0, fs_74)), (q_1, .inr (1, q_2)), (q_3, .inr (2, [.ref q_4, .int 0])), (q_4, .inl (ca 0, 16, .inl (fun _ => 0))), (q_14, .inl (ca 4, 148, .inr (.inr (.inr (.inr (fun _ => none)))))), (q_111, .inl (ca 1, 2, .inl (fun _ => 0))), (q_112, .inl (ca 2, 2, .inr (.inl (fun _ => 0)))), (q_113, .inl (ca 1, 2, .inl (fun _ => 0))), (q_114, .inl (ca 2, 2, .inr (.inl (fun _ => 0)))), (q_115, .inl (ca 2, 2, .inr (.inl (fun _ => 0))))] H := hP
  replace hD : va_D A [(h0, .inr (0, fs_74)), (q_1, .inr (1, q_2)), (q_3, .inr (2, [.ref q_4, .int 0])), (q_4, .inl (ca 0, 16, .inl (fun _ => 0))), (q_14, .inl (ca 4, 148, .inr (.inr (.inr (.inr (fun _ => none)))))), (q_111, .inl (ca 1, 2, .inl (fun _ => 0))), (q_112, .inl (ca 2, 2, .inr (.inl (fun _ => 0)))), (q_113, .inl (ca 1, 2, .inl (fun _ => 0))), (q_114, .inl (ca 2, 2, .inr (.inl (fun _ => 0)))), (q_115, .inl (ca 2, 2, .inr (.inl (fun _ => 0))))] := hD
  refine W.widen (k := 152) (n := 525576) (Nat.le_of_ble_eq_true rfl) (Nat.le_of_ble_eq_true rfl) ?_
  refine lv_aload_n hx hb d_MM_init_853 rfl (lv_at hl 0 rfl) ?_
  refine lv_sipush (v := 3200) hx hb d_MM_init_854 (by decide +kernel) ?_
  refine m_arr M (atype := .long) (ty := .long) (fs := fs_74) (wt := [(q_1, .inr (1, q_2)), (q_3, .inr (2, [.ref q_4, .int 0])), (q_4, .inl (ca 0, 16, .inl (fun _ => 0))), (q_14, .inl (ca 4, 148, .inr (.inr (.inr (.inr (fun _ => none)))))), (q_111, .inl (ca 1, 2, .inl (fun _ => 0))), (q_112, .inl (ca 2, 2, .inr (.inl (fun _ => 0)))), (q_113, .inl (ca 1, 2, .inl (fun _ => 0))), (q_114, .inl (ca 2, 2, .inr (.inl (fun _ => 0)))), (q_115, .inl (ca 2, 2, .inr (.inl (fun _ => 0))))]) (t0 := 2) (n := 3200) (N' := 3200) (k := 116) (tf := .array (.long)) (a0 := (3200, .inr (.inl (fun _ => 0)))) hP hD hS hlen rfl xm_12 rfl (fun C h => by cases h) (m_a_long 3200) (by decide +kernel) (by decide +kernel) (by decide +kernel) (by decide) xm_158 rfl rfl (by decide +kernel) (fun _ => rfl) (fun _ => rfl) (Nat.le_of_ble_eq_true rfl) (Nat.le_of_ble_eq_true rfl) d_MM_init_857 d_MM_init_859 ?_
  clear hP hD hS hlen
  intro q_116 H locs hlen hP hD hS
  obtain ⟨fs_75, e_75⟩ : ∃ z, z = fs_74.set 116 (.ref q_116) := ⟨_, rfl⟩
  rw [← e_75] at hP hD hlen
  replace hP : va_P (dC, dI) classes [(h0, .inr (0, fs_75)), (q_1, .inr (1, q_2)), (q_3, .inr (2, [.ref q_4, .int 0])), (q_4, .inl (ca 0, 16, .inl (fun _ => 0))), (q_14, .inl (ca 4, 148, .inr (.inr (.inr (.inr (fun _ => none)))))), (q_111, .inl (ca 1, 2, .inl (fun _ => 0))), (q_112, .inl (ca 2, 2, .inr (.inl (fun _ => 0)))), (q_113, .inl (ca 1, 2, .inl (fun _ => 0))), (q_114, .inl (ca 2, 2, .inr (.inl (fun _ => 0)))), (q_115, .inl (ca 2, 2, .inr (.inl (fun _ => 0))))] H := hP
  replace hD : va_D A [(h0, .inr (0, fs_75)), (q_1, .inr (1, q_2)), (q_3, .inr (2, [.ref q_4, .int 0])), (q_4, .inl (ca 0, 16, .inl (fun _ => 0))), (q_14, .inl (ca 4, 148, .inr (.inr (.inr (.inr (fun _ => none)))))), (q_111, .inl (ca 1, 2, .inl (fun _ => 0))), (q_112, .inl (ca 2, 2, .inr (.inl (fun _ => 0)))), (q_113, .inl (ca 1, 2, .inl (fun _ => 0))), (q_114, .inl (ca 2, 2, .inr (.inl (fun _ => 0)))), (q_115, .inl (ca 2, 2, .inr (.inl (fun _ => 0))))] := hD
  refine W.widen (k := 153) (n := 528776) (Nat.le_of_ble_eq_true rfl) (Nat.le_of_ble_eq_true rfl) ?_
  refine lv_aload_n hx hb d_MM_init_862 rfl (lv_at hl 0 rfl) ?_
  refine lv_iconst (v := 2) hx hb d_MM_init_863 (by decide) ?_
  refine m_arrK M (atype := .int) (ty := .int) (fs := fs_75) (wt := [(q_1, .inr (1, q_2)), (q_3, .inr (2, [.ref q_4, .int 0])), (q_4, .inl (ca 0, 16, .inl (fun _ => 0))), (q_14, .inl (ca 4, 148, .inr (.inr (.inr (.inr (fun _ => none)))))), (q_111, .inl (ca 1, 2, .inl (fun _ => 0))), (q_112, .inl (ca 2, 2, .inr (.inl (fun _ => 0)))), (q_113, .inl (ca 1, 2, .inl (fun _ => 0))), (q_114, .inl (ca 2, 2, .inr (.inl (fun _ => 0)))), (q_115, .inl (ca 2, 2, .inr (.inl (fun _ => 0))))]) (t0 := 1) (n := 2) (N' := 2) (k := 117) (tf := .array (.int)) (a0 := (2, .inl (fun _ => 0))) hP hD hS hlen rfl xm_11 rfl (fun C h => by cases h) (m_a_int 2) (by decide +kernel) (by decide +kernel) (by decide +kernel) (by decide) xm_159 rfl rfl (by decide +kernel) (fun _ => rfl) (fun _ => rfl) (Nat.le_of_ble_eq_true rfl) (Nat.le_of_ble_eq_true rfl) d_MM_init_864 d_MM_init_866 ?_
  clear hP hD hS hlen
  intro q_117 H locs hlen hP hD hS
  obtain ⟨fs_76, e_76⟩ : ∃ z, z = fs_75.set 117 (.ref q_117) := ⟨_, rfl⟩
  rw [← e_76] at hP hD hlen
  replace hP : va_P (dC, dI) classes [(h0, .inr (0, fs_76)), (q_1, .inr (1, q_2)), (q_3, .inr (2, [.ref q_4, .int 0])), (q_4, .inl (ca 0, 16, .inl (fun _ => 0))), (q_14, .inl (ca 4, 148, .inr (.inr (.inr (.inr (fun _ => none)))))), (q_111, .inl (ca 1, 2, .inl (fun _ => 0))), (q_112, .inl (ca 2, 2, .inr (.inl (fun _ => 0)))), (q_113, .inl (ca 1, 2, .inl (fun _ => 0))), (q_114, .inl (ca 2, 2, .inr (.inl (fun _ => 0)))), (q_115, .inl (ca 2, 2, .inr (.inl (fun _ => 0)))), (q_117, .inl (ca 1, 2, .inl (fun _ => 0)))] H := hP
  replace hD : va_D A [(h0, .inr (0, fs_76)), (q_1, .inr (1, q_2)), (q_3, .inr (2, [.ref q_4, .int 0])), (q_4, .inl (ca 0, 16, .inl (fun _ => 0))), (q_14, .inl (ca 4, 148, .inr (.inr (.inr (.inr (fun _ => none)))))), (q_111, .inl (ca 1, 2, .inl (fun _ => 0))), (q_112, .inl (ca 2, 2, .inr (.inl (fun _ => 0)))), (q_113, .inl (ca 1, 2, .inl (fun _ => 0))), (q_114, .inl (ca 2, 2, .inr (.inl (fun _ => 0)))), (q_115, .inl (ca 2, 2, .inr (.inl (fun _ => 0)))), (q_117, .inl (ca 1, 2, .inl (fun _ => 0)))] := hD
  refine W.widen (k := 154) (n := 528778) (Nat.le_of_ble_eq_true rfl) (Nat.le_of_ble_eq_true rfl) ?_
  refine lv_aload_n hx hb d_MM_init_869 rfl (lv_at hl 0 rfl) ?_
  refine lv_iconst (v := 2) hx hb d_MM_init_870 (by decide) ?_
  refine m_arrK M (atype := .int) (ty := .int) (fs := fs_76) (wt := [(q_1, .inr (1, q_2)), (q_3, .inr (2, [.ref q_4, .int 0])), (q_4, .inl (ca 0, 16, .inl (fun _ => 0))), (q_14, .inl (ca 4, 148, .inr (.inr (.inr (.inr (fun _ => none)))))), (q_111, .inl (ca 1, 2, .inl (fun _ => 0))), (q_112, .inl (ca 2, 2, .inr (.inl (fun _ => 0)))), (q_113, .inl (ca 1, 2, .inl (fun _ => 0))), (q_114, .inl (ca 2, 2, .inr (.inl (fun _ => 0)))), (q_115, .inl (ca 2, 2, .inr (.inl (fun _ => 0)))), (q_117, .inl (ca 1, 2, .inl (fun _ => 0)))]) (t0 := 1) (n := 2) (N' := 2) (k := 118) (tf := .array (.int)) (a0 := (2, .inl (fun _ => 0))) hP hD hS hlen rfl xm_11 rfl (fun C h => by cases h) (m_a_int 2) (by decide +kernel) (by decide +kernel) (by decide +kernel) (by decide) xm_160 rfl rfl (by decide +kernel) (fun _ => rfl) (fun _ => rfl) (Nat.le_of_ble_eq_true rfl) (Nat.le_of_ble_eq_true rfl) d_MM_init_871 d_MM_init_873 ?_
  clear hP hD hS hlen
  intro q_118 H locs hlen hP hD hS
  obtain ⟨fs_77, e_77⟩ : ∃ z, z = fs_76.set 118 (.ref q_118) := ⟨_, rfl⟩
  rw [← e_77] at hP hD hlen
  replace hP : va_P (dC, dI) classes [(h0, .inr (0, fs_77)), (q_1, .inr (1, q_2)), (q_3, .inr (2, [.ref q_4, .int 0])), (q_4, .inl (ca 0, 16, .inl (fun _ => 0))), (q_14, .inl (ca 4, 148, .inr (.inr (.inr (.inr (fun _ => none)))))), (q_111, .inl (ca 1, 2, .inl (fun _ => 0))), (q_112, .inl (ca 2, 2, .inr (.inl (fun _ => 0)))), (q_113, .inl (ca 1, 2, .inl (fun _ => 0))), (q_114, .inl (ca 2, 2, .inr (.inl (fun _ => 0)))), (q_115, .inl (ca 2, 2, .inr (.inl (fun _ => 0)))), (q_117, .inl (ca 1, 2, .inl (fun _ => 0))), (q_118, .inl (ca 1, 2, .inl (fun _ => 0)))] H := hP
  replace hD : va_D A [(h0, .inr (0, fs_77)), (q_1, .inr (1, q_2)), (q_3, .inr (2, [.ref q_4, .int 0])), (q_4, .inl (ca 0, 16, .inl (fun _ => 0))), (q_14, .inl (ca 4, 148, .inr (.inr (.inr (.inr (fun _ => none)))))), (q_111, .inl (ca 1, 2, .inl (fun _ => 0))), (q_112, .inl (ca 2, 2, .inr (.inl (fun _ => 0)))), (q_113, .inl (ca 1, 2, .inl (fun _ => 0))), (q_114, .inl (ca 2, 2, .inr (.inl (fun _ => 0)))), (q_115, .inl (ca 2, 2, .inr (.inl (fun _ => 0)))), (q_117, .inl (ca 1, 2, .inl (fun _ => 0))), (q_118, .inl (ca 1, 2, .inl (fun _ => 0)))] := hD
  refine W.widen (k := 155) (n := 528780) (Nat.le_of_ble_eq_true rfl) (Nat.le_of_ble_eq_true rfl) ?_
  refine lv_aload_n hx hb d_MM_init_876 rfl (lv_at hl 0 rfl) ?_
  refine lv_sipush (v := 8000) hx hb d_MM_init_877 (by decide +kernel) ?_
  refine m_arr M (atype := .int) (ty := .int) (fs := fs_77) (wt := [(q_1, .inr (1, q_2)), (q_3, .inr (2, [.ref q_4, .int 0])), (q_4, .inl (ca 0, 16, .inl (fun _ => 0))), (q_14, .inl (ca 4, 148, .inr (.inr (.inr (.inr (fun _ => none)))))), (q_111, .inl (ca 1, 2, .inl (fun _ => 0))), (q_112, .inl (ca 2, 2, .inr (.inl (fun _ => 0)))), (q_113, .inl (ca 1, 2, .inl (fun _ => 0))), (q_114, .inl (ca 2, 2, .inr (.inl (fun _ => 0)))), (q_115, .inl (ca 2, 2, .inr (.inl (fun _ => 0)))), (q_117, .inl (ca 1, 2, .inl (fun _ => 0))), (q_118, .inl (ca 1, 2, .inl (fun _ => 0)))]) (t0 := 1) (n := 8000) (N' := 8000) (k := 119) (tf := .array (.int)) (a0 := (8000, .inl (fun _ => 0))) hP hD hS hlen rfl xm_11 rfl (fun C h => by cases h) (m_a_int 8000) (by decide +kernel) (by decide +kernel) (by decide +kernel) (by decide) xm_161 rfl rfl (by decide +kernel) (fun _ => rfl) (fun _ => rfl) (Nat.le_of_ble_eq_true rfl) (Nat.le_of_ble_eq_true rfl) d_MM_init_880 d_MM_init_882 ?_
  clear hP hD hS hlen
  intro q_119 H locs hlen hP hD hS
  obtain ⟨fs_78, e_78⟩ : ∃ z, z = fs_77.set 119 (.ref q_119) := ⟨_, rfl⟩
  rw [← e_78] at hP hD hlen
  replace hP : va_P (dC, dI) classes [(h0, .inr (0, fs_78)), (q_1, .inr (1, q_2)), (q_3, .inr (2, [.ref q_4, .int 0])), (q_4, .inl (ca 0, 16, .inl (fun _ => 0))), (q_14, .inl (ca 4, 148, .inr (.inr (.inr (.inr (fun _ => none)))))), (q_111, .inl (ca 1, 2, .inl (fun _ => 0))), (q_112, .inl (ca 2, 2, .inr (.inl (fun _ => 0)))), (q_113, .inl (ca 1, 2, .inl (fun _ => 0))), (q_114, .inl (ca 2, 2, .inr (.inl (fun _ => 0)))), (q_115, .inl (ca 2, 2, .inr (.inl (fun _ => 0)))), (q_117, .inl (ca 1, 2, .inl (fun _ => 0))), (q_118, .inl (ca 1, 2, .inl (fun _ => 0)))] H := hP
  replace hD : va_D A [(h0, .inr (0, fs_78)), (q_1, .inr (1, q_2)), (q_3, .inr (2, [.ref q_4, .int 0])), (q_4, .inl (ca 0, 16, .inl (fun _ => 0))), (q_14, .inl (ca 4, 148, .inr (.inr (.inr (.inr (fun _ => none)))))), (q_111, .inl (ca 1, 2, .inl (fun _ => 0))), (q_112, .inl (ca 2, 2, .inr (.inl (fun _ => 0)))), (q_113, .inl (ca 1, 2, .inl (fun _ => 0))), (q_114, .inl (ca 2, 2, .inr (.inl (fun _ => 0)))), (q_115, .inl (ca 2, 2, .inr (.inl (fun _ => 0)))), (q_117, .inl (ca 1, 2, .inl (fun _ => 0))), (q_118, .inl (ca 1, 2, .inl (fun _ => 0)))] := hD
  refine W.widen (k := 156) (n := 536780) (Nat.le_of_ble_eq_true rfl) (Nat.le_of_ble_eq_true rfl) ?_
  refine lv_aload_n hx hb d_MM_init_885 rfl (lv_at hl 0 rfl) ?_
  refine lv_sipush (v := 8000) hx hb d_MM_init_886 (by decide +kernel) ?_
  refine m_arrK M (atype := .int) (ty := .int) (fs := fs_78) (wt := [(q_1, .inr (1, q_2)), (q_3, .inr (2, [.ref q_4, .int 0])), (q_4, .inl (ca 0, 16, .inl (fun _ => 0))), (q_14, .inl (ca 4, 148, .inr (.inr (.inr (.inr (fun _ => none)))))), (q_111, .inl (ca 1, 2, .inl (fun _ => 0))), (q_112, .inl (ca 2, 2, .inr (.inl (fun _ => 0)))), (q_113, .inl (ca 1, 2, .inl (fun _ => 0))), (q_114, .inl (ca 2, 2, .inr (.inl (fun _ => 0)))), (q_115, .inl (ca 2, 2, .inr (.inl (fun _ => 0)))), (q_117, .inl (ca 1, 2, .inl (fun _ => 0))), (q_118, .inl (ca 1, 2, .inl (fun _ => 0)))]) (t0 := 1) (n := 8000) (N' := 8000) (k := 120) (tf := .array (.int)) (a0 := (8000, .inl (fun _ => 0))) hP hD hS hlen rfl xm_11 rfl (fun C h => by cases h) (m_a_int 8000) (by decide +kernel) (by decide +kernel) (by decide +kernel) (by decide) xm_162 rfl rfl (by decide +kernel) (fun _ => rfl) (fun _ => rfl) (Nat.le_of_ble_eq_true rfl) (Nat.le_of_ble_eq_true rfl) d_MM_init_889 d_MM_init_891 ?_
  clear hP hD hS hlen
  intro q_120 H locs hlen hP hD hS
  obtain ⟨fs_79, e_79⟩ : ∃ z, z = fs_78.set 120 (.ref q_120) := ⟨_, rfl⟩
  rw [← e_79] at hP hD hlen
  replace hP : va_P (dC, dI) classes [(h0, .inr (0, fs_79)), (q_1, .inr (1, q_2)), (q_3, .inr (2, [.ref q_4, .int 0])), (q_4, .inl (ca 0, 16, .inl (fun _ => 0))), (q_14, .inl (ca 4, 148, .inr (.inr (.inr (.inr (fun _ => none)))))), (q_111, .inl (ca 1, 2, .inl (fun _ => 0))), (q_112, .inl (ca 2, 2, .inr (.inl (fun _ => 0)))), (q_113, .inl (ca 1, 2, .inl (fun _ => 0))), (q_114, .inl (ca 2, 2, .inr (.inl (fun _ => 0)))), (q_115, .inl (ca 2, 2, .inr (.inl (fun _ => 0)))), (q_117, .inl (ca 1, 2, .inl (fun _ => 0))), (q_118, .inl (ca 1, 2, .inl (fun _ => 0))), (q_120, .inl (ca 1, 8000, .inl (fun _ => 0)))] H := hP
  replace hD : va_D A [(h0, .inr (0, fs_79)), (q_1, .inr (1, q_2)), (q_3, .inr (2, [.ref q_4, .int 0])), (q_4, .inl (ca 0, 16, .inl (fun _ => 0))), (q_14, .inl (ca 4, 148, .inr (.inr (.inr (.inr (fun _ => none)))))), (q_111, .inl (ca 1, 2, .inl (fun _ => 0))), (q_112, .inl (ca 2, 2, .inr (.inl (fun _ => 0)))), (q_113, .inl (ca 1, 2, .inl (fun _ => 0))), (q_114, .inl (ca 2, 2, .inr (.inl (fun _ => 0)))), (q_115, .inl (ca 2, 2, .inr (.inl (fun _ => 0)))), (q_117, .inl (ca 1, 2, .inl (fun _ => 0))), (q_118, .inl (ca 1, 2, .inl (fun _ => 0))), (q_120, .inl (ca 1, 8000, .inl (fun _ => 0)))] := hD
  refine W.widen (k := 157) (n := 544780) (Nat.le_of_ble_eq_true rfl) (Nat.le_of_ble_eq_true rfl) ?_
  refine lv_aload_n hx hb d_MM_init_894 rfl (lv_at hl 0 rfl) ?_
  refine lv_ldcw (v := 80000) hx hb hown (hts _ xm_72) d_MM_init_895 ?_
  refine m_arr M (atype := .long) (ty := .long) (fs := fs_79) (wt := [(q_1, .inr (1, q_2)), (q_3, .inr (2, [.ref q_4, .int 0])), (q_4, .inl (ca 0, 16, .inl (fun _ => 0))), (q_14, .inl (ca 4, 148, .inr (.inr (.inr (.inr (fun _ => none)))))), (q_111, .inl (ca 1, 2, .inl (fun _ => 0))), (q_112, .inl (ca 2, 2, .inr (.inl (fun _ => 0)))), (q_113, .inl (ca 1, 2, .inl (fun _ => 0))), (q_114, .inl (ca 2, 2, .inr (.inl (fun _ => 0)))), (q_115, .inl (ca 2, 2, .inr (.inl (fun _ => 0)))), (q_117, .inl (ca 1, 2, .inl (fun _ => 0))), (q_118, .inl (ca 1, 2, .inl (fun _ => 0))), (q_120, .inl (ca 1, 8000, .inl (fun _ => 0)))]) (t0 := 2) (n := 80000) (N' := 80000) (k := 121) (tf := .array (.long)) (a0 := (80000, .inr (.inl (fun _ => 0)))) hP hD hS hlen rfl xm_12 rfl (fun C h => by cases h) (m_a_long 80000) (by decide +kernel) (by decide +kernel) (by decide +kernel) (by decide) xm_163 rfl rfl (by decide +kernel) (fun _ => rfl) (fun _ => rfl) (Nat.le_of_ble_eq_true rfl) (Nat.le_of_ble_eq_true rfl) d_MM_init_898 d_MM_init_900 ?_
  clear hP hD hS hlen
  intro q_121 H locs hlen hP hD hS
  obtain ⟨fs_80, e_80⟩ : ∃ z, z = fs_79.set 121 (.ref q_121) := ⟨_, rfl⟩
  rw [← e_80] at hP hD hlen
  replace hP : va_P (dC, dI) classes [(h0, .inr (0, fs_80)), (q_1, .inr (1, q_2)), (q_3, .inr (2, [.ref q_4, .int 0])), (q_4, .inl (ca 0, 16, .inl (fun _ => 0))), (q_14, .inl (ca 4, 148, .inr (.inr (.inr (.inr (fun _ => none)))))), (q_111, .inl (ca 1, 2, .inl (fun _ => 0))), (q_112, .inl (ca 2, 2, .inr (.inl (fun _ => 0)))), (q_113, .inl (ca 1, 2, .inl (fun _ => 0))), (q_114, .inl (ca 2, 2, .inr (.inl (fun _ => 0)))), (q_115, .inl (ca 2, 2, .inr (.inl (fun _ => 0)))), (q_117, .inl (ca 1, 2, .inl (fun _ => 0))), (q_118, .inl (ca 1, 2, .inl (fun _ => 0))), (q_120, .inl (ca 1, 8000, .inl (fun _ => 0)))] H := hP
  replace hD : va_D A [(h0, .inr (0, fs_80)), (q_1, .inr (1, q_2)), (q_3, .inr (2, [.ref q_4, .int 0])), (q_4, .inl (ca 0, 16, .inl (fun _ => 0))), (q_14, .inl (ca 4, 148, .inr (.inr (.inr (.inr (fun _ => none)))))), (q_111, .inl (ca 1, 2, .inl (fun _ => 0))), (q_112, .inl (ca 2, 2, .inr (.inl (fun _ => 0)))), (q_113, .inl (ca 1, 2, .inl (fun _ => 0))), (q_114, .inl (ca 2, 2, .inr (.inl (fun _ => 0)))), (q_115, .inl (ca 2, 2, .inr (.inl (fun _ => 0)))), (q_117, .inl (ca 1, 2, .inl (fun _ => 0))), (q_118, .inl (ca 1, 2, .inl (fun _ => 0))), (q_120, .inl (ca 1, 8000, .inl (fun _ => 0)))] := hD
  refine W.widen (k := 158) (n := 624780) (Nat.le_of_ble_eq_true rfl) (Nat.le_of_ble_eq_true rfl) ?_
  refine lv_aload_n hx hb d_MM_init_903 rfl (lv_at hl 0 rfl) ?_
  refine lv_iconst (v := 2) hx hb d_MM_init_904 (by decide) ?_
  refine m_arrK M (atype := .int) (ty := .int) (fs := fs_80) (wt := [(q_1, .inr (1, q_2)), (q_3, .inr (2, [.ref q_4, .int 0])), (q_4, .inl (ca 0, 16, .inl (fun _ => 0))), (q_14, .inl (ca 4, 148, .inr (.inr (.inr (.inr (fun _ => none)))))), (q_111, .inl (ca 1, 2, .inl (fun _ => 0))), (q_112, .inl (ca 2, 2, .inr (.inl (fun _ => 0)))), (q_113, .inl (ca 1, 2, .inl (fun _ => 0))), (q_114, .inl (ca 2, 2, .inr (.inl (fun _ => 0)))), (q_115, .inl (ca 2, 2, .inr (.inl (fun _ => 0)))), (q_117, .inl (ca 1, 2, .inl (fun _ => 0))), (q_118, .inl (ca 1, 2, .inl (fun _ => 0))), (q_120, .inl (ca 1, 8000, .inl (fun _ => 0)))]) (t0 := 1) (n := 2) (N' := 2) (k := 122) (tf := .array (.int)) (a0 := (2, .inl (fun _ => 0))) hP hD hS hlen rfl xm_11 rfl (fun C h => by cases h) (m_a_int 2) (by decide +kernel) (by decide +kernel) (by decide +kernel) (by decide) xm_164 rfl rfl (by decide +kernel) (fun _ => rfl) (fun _ => rfl) (Nat.le_of_ble_eq_true rfl) (Nat.le_of_ble_eq_true rfl) d_MM_init_905 d_MM_init_907 ?_
  clear hP hD hS hlen
  intro q_122 H locs hlen hP hD hS
  obtain ⟨fs_81, e_81⟩ : ∃ z, z = fs_80.set 122 (.ref q_122) := ⟨_, rfl⟩
  rw [← e_81] at hP hD hlen
  replace hP : va_P (dC, dI) classes [(h0, .inr (0, fs_81)), (q_1, .inr (1, q_2)), (q_3, .inr (2, [.ref q_4, .int 0])), (q_4, .inl (ca 0, 16, .inl (fun _ => 0))), (q_14, .inl (ca 4, 148, .inr (.inr (.inr (.inr (fun _ => none)))))), (q_111, .inl (ca 1, 2, .inl (fun _ => 0))), (q_112, .inl (ca 2, 2, .inr (.inl (fun _ => 0)))), (q_113, .inl (ca 1, 2, .inl (fun _ => 0))), (q_114, .inl (ca 2, 2, .inr (.inl (fun _ => 0)))), (q_115, .inl (ca 2, 2, .inr (.inl (fun _ => 0)))), (q_117, .inl (ca 1, 2, .inl (fun _ => 0))), (q_118, .inl (ca 1, 2, .inl (fun _ => 0))), (q_120, .inl (ca 1, 8000, .inl (fun _ => 0))), (q_122, .inl (ca 1, 2, .inl (fun _ => 0)))] H := hP
  replace hD : va_D A [(h0, .inr (0, fs_81)), (q_1, .inr (1, q_2)), (q_3, .inr (2, [.ref q_4, .int 0])), (q_4, .inl (ca 0, 16, .inl (fun _ => 0))), (q_14, .inl (ca 4, 148, .inr (.inr (.inr (.inr (fun _ => none)))))), (q_111, .inl (ca 1, 2, .inl (fun _ => 0))), (q_112, .inl (ca 2, 2, .inr (.inl (fun _ => 0)))), (q_113, .inl (ca 1, 2, .inl (fun _ => 0))), (q_114, .inl (ca 2, 2, .inr (.inl (fun _ => 0)))), (q_115, .inl (ca 2, 2, .inr (.inl (fun _ => 0)))), (q_117, .inl (ca 1, 2, .inl (fun _ => 0))), (q_118, .inl (ca 1, 2, .inl (fun _ => 0))), (q_120, .inl (ca 1, 8000, .inl (fun _ => 0))), (q_122, .inl (ca 1, 2, .inl (fun _ => 0)))] := hD
  refine W.widen (k := 159) (n := 624782) (Nat.le_of_ble_eq_true rfl) (Nat.le_of_ble_eq_true rfl) ?_
  refine lv_aload_n hx hb d_MM_init_910 rfl (lv_at hl 0 rfl) ?_
  refine lv_bipush (v := 120) hx hb d_MM_init_911 (by decide +kernel) ?_
  refine m_arr M (atype := .int) (ty := .int) (fs := fs_81) (wt := [(q_1, .inr (1, q_2)), (q_3, .inr (2, [.ref q_4, .int 0])), (q_4, .inl (ca 0, 16, .inl (fun _ => 0))), (q_14, .inl (ca 4, 148, .inr (.inr (.inr (.inr (fun _ => none)))))), (q_111, .inl (ca 1, 2, .inl (fun _ => 0))), (q_112, .inl (ca 2, 2, .inr (.inl (fun _ => 0)))), (q_113, .inl (ca 1, 2, .inl (fun _ => 0))), (q_114, .inl (ca 2, 2, .inr (.inl (fun _ => 0)))), (q_115, .inl (ca 2, 2, .inr (.inl (fun _ => 0)))), (q_117, .inl (ca 1, 2, .inl (fun _ => 0))), (q_118, .inl (ca 1, 2, .inl (fun _ => 0))), (q_120, .inl (ca 1, 8000, .inl (fun _ => 0))), (q_122, .inl (ca 1, 2, .inl (fun _ => 0)))]) (t0 := 1) (n := 120) (N' := 120) (k := 123) (tf := .array (.int)) (a0 := (120, .inl (fun _ => 0))) hP hD hS hlen rfl xm_11 rfl (fun C h => by cases h) (m_a_int 120) (by decide +kernel) (by decide +kernel) (by decide +kernel) (by decide) xm_165 rfl rfl (by decide +kernel) (fun _ => rfl) (fun _ => rfl) (Nat.le_of_ble_eq_true rfl) (Nat.le_of_ble_eq_true rfl) d_MM_init_913 d_MM_init_915 ?_
  clear hP hD hS hlen
  intro q_123 H locs hlen hP hD hS
  obtain ⟨fs_82, e_82⟩ : ∃ z, z = fs_81.set 123 (.ref q_123) := ⟨_, rfl⟩
  rw [← e_82] at hP hD hlen
  replace hP : va_P (dC, dI) classes [(h0, .inr (0, fs_82)), (q_1, .inr (1, q_2)), (q_3, .inr (2, [.ref q_4, .int 0])), (q_4, .inl (ca 0, 16, .inl (fun _ => 0))), (q_14, .inl (ca 4, 148, .inr (.inr (.inr (.inr (fun _ => none)))))), (q_111, .inl (ca 1, 2, .inl (fun _ => 0))), (q_112, .inl (ca 2, 2, .inr (.inl (fun _ => 0)))), (q_113, .inl (ca 1, 2, .inl (fun _ => 0))), (q_114, .inl (ca 2, 2, .inr (.inl (fun _ => 0)))), (q_115, .inl (ca 2, 2, .inr (.inl (fun _ => 0)))), (q_117, .inl (ca 1, 2, .inl (fun _ => 0))), (q_118, .inl (ca 1, 2, .inl (fun _ => 0))), (q_120, .inl (ca 1, 8000, .inl (fun _ => 0))), (q_122, .inl (ca 1, 2, .inl (fun _ => 0)))] H := hP
  replace hD : va_D A [(h0, .inr (0, fs_82)), (q_1, .inr (1, q_2)), (q_3, .inr (2, [.ref q_4, .int 0])), (q_4, .inl (ca 0, 16, .inl (fun _ => 0))), (q_14, .inl (ca 4, 148, .inr (.inr (.inr (.inr (fun _ => none)))))), (q_111, .inl (ca 1, 2, .inl (fun _ => 0))), (q_112, .inl (ca 2, 2, .inr (.inl (fun _ => 0)))), (q_113, .inl (ca 1, 2, .inl (fun _ => 0))), (q_114, .inl (ca 2, 2, .inr (.inl (fun _ => 0)))), (q_115, .inl (ca 2, 2, .inr (.inl (fun _ => 0)))), (q_117, .inl (ca 1, 2, .inl (fun _ => 0))), (q_118, .inl (ca 1, 2, .inl (fun _ => 0))), (q_120, .inl (ca 1, 8000, .inl (fun _ => 0))), (q_122, .inl (ca 1, 2, .inl (fun _ => 0)))] := hD
  refine W.widen (k := 160) (n := 624902) (Nat.le_of_ble_eq_true rfl) (Nat.le_of_ble_eq_true rfl) ?_
  refine lv_aload_n hx hb d_MM_init_918 rfl (lv_at hl 0 rfl) ?_
  refine lv_bipush (v := 120) hx hb d_MM_init_919 (by decide +kernel) ?_
  refine m_arr M (atype := .int) (ty := .int) (fs := fs_82) (wt := [(q_1, .inr (1, q_2)), (q_3, .inr (2, [.ref q_4, .int 0])), (q_4, .inl (ca 0, 16, .inl (fun _ => 0))), (q_14, .inl (ca 4, 148, .inr (.inr (.inr (.inr (fun _ => none)))))), (q_111, .inl (ca 1, 2, .inl (fun _ => 0))), (q_112, .inl (ca 2, 2, .inr (.inl (fun _ => 0)))), (q_113, .inl (ca 1, 2, .inl (fun _ => 0))), (q_114, .inl (ca 2, 2, .inr (.inl (fun _ => 0)))), (q_115, .inl (ca 2, 2, .inr (.inl (fun _ => 0)))), (q_117, .inl (ca 1, 2, .inl (fun _ => 0))), (q_118, .inl (ca 1, 2, .inl (fun _ => 0))), (q_120, .inl (ca 1, 8000, .inl (fun _ => 0))), (q_122, .inl (ca 1, 2, .inl (fun _ => 0)))]) (t0 := 1) (n := 120) (N' := 120) (k := 124) (tf := .array (.int)) (a0 := (120, .inl (fun _ => 0))) hP hD hS hlen rfl xm_11 rfl (fun C h => by cases h) (m_a_int 120) (by decide +kernel) (by decide +kernel) (by decide +kernel) (by decide) xm_166 rfl rfl (by decide +kernel) (fun _ => rfl) (fun _ => rfl) (Nat.le_of_ble_eq_true rfl) (Nat.le_of_ble_eq_true rfl) d_MM_init_921 d_MM_init_923 ?_
  clear hP hD hS hlen
  intro q_124 H locs hlen hP hD hS
  obtain ⟨fs_83, e_83⟩ : ∃ z, z = fs_82.set 124 (.ref q_124) := ⟨_, rfl⟩
  rw [← e_83] at hP hD hlen
  replace hP : va_P (dC, dI) classes [(h0, .inr (0, fs_83)), (q_1, .inr (1, q_2)), (q_3, .inr (2, [.ref q_4, .int 0])), (q_4, .inl (ca 0, 16, .inl (fun _ => 0))), (q_14, .inl (ca 4, 148, .inr (.inr (.inr (.inr (fun _ => none)))))), (q_111, .inl (ca 1, 2, .inl (fun _ => 0))), (q_112, .inl (ca 2, 2, .inr (.inl (fun _ => 0)))), (q_113, .inl (ca 1, 2, .inl (fun _ => 0))), (q_114, .inl (ca 2, 2, .inr (.inl (fun _ => 0)))), (q_115, .inl (ca 2, 2, .inr (.inl (fun _ => 0)))), (q_117, .inl (ca 1, 2, .inl (fun _ => 0))), (q_118, .inl (ca 1, 2, .inl (fun _ => 0))), (q_120, .inl (ca 1, 8000, .inl (fun _ => 0))), (q_122, .inl (ca 1, 2, .inl (fun _ => 0)))] H := hP
  replace hD : va_D A [(h0, .inr (0, fs_83)), (q_1, .inr (1, q_2)), (q_3, .inr (2, [.ref q_4, .int 0])), (q_4, .inl (ca 0, 16, .inl (fun _ => 0))), (q_14, .inl (ca 4, 148, .inr (.inr (.inr (.inr (fun _ => none)))))), (q_111, .inl (ca 1, 2, .inl (fun _ => 0))), (q_112, .inl (ca 2, 2, .inr (.inl (fun _ => 0)))), (q_113, .inl (ca 1, 2, .inl (fun _ => 0))), (q_114, .inl (ca 2, 2, .inr (.inl (fun _ => 0)))), (q_115, .inl (ca 2, 2, .inr (.inl (fun _ => 0)))), (q_117, .inl (ca 1, 2, .inl (fun _ => 0))), (q_118, .inl (ca 1, 2, .inl (fun _ => 0))), (q_120, .inl (ca 1, 8000, .inl (fun _ => 0))), (q_122, .inl (ca 1, 2, .inl (fun _ => 0)))] := hD
  refine W.widen (k := 161) (n := 625022) (Nat.le_of_ble_eq_true rfl) (Nat.le_of_ble_eq_true rfl) ?_
  refine lv_aload_n hx hb d_MM_init_926 rfl (lv_at hl 0 rfl) ?_
  refine lv_bipush (v := 120) hx hb d_MM_init_927 (by decide +kernel) ?_
  refine m_refs M (fs := fs_83) (wt := [(q_1, .inr (1, q_2)), (q_3, .inr (2, [.ref q_4, .int 0])), (q_4, .inl (ca 0, 16, .inl (fun _ => 0))), (q_14, .inl (ca 4, 148, .inr (.inr (.inr (.inr (fun _ => none)))))), (q_111, .inl (ca 1, 2, .inl (fun _ => 0))), (q_112, .inl (ca 2, 2, .inr (.inl (fun _ => 0)))), (q_113, .inl (ca 1, 2, .inl (fun _ => 0))), (q_114, .inl (ca 2, 2, .inr (.inl (fun _ => 0)))), (q_115, .inl (ca 2, 2, .inr (.inl (fun _ => 0)))), (q_117, .inl (ca 1, 2, .inl (fun _ => 0))), (q_118, .inl (ca 1, 2, .inl (fun _ => 0))), (q_120, .inl (ca 1, 8000, .inl (fun _ => 0))), (q_122, .inl (ca 1, 2, .inl (fun _ => 0)))]) (n := 120) (N' := 120) (k := 125) (tf := .array (.object "SourceBackModel$Member")) hP hD hS hlen xm_41 (List.mem_of_getElem? (i := 2) rfl) (by decide +kernel) (by decide +kernel) (by decide +kernel) (by decide) xm_167 rfl rfl (by decide +kernel) (fun _ => rfl) (fun _ => rfl) (Nat.le_of_ble_eq_true rfl) (Nat.le_of_ble_eq_true rfl) d_MM_init_929 d_MM_init_932 ?_
  clear hP hD hS hlen
  intro q_125 H locs hlen hP hD hS
  obtain ⟨fs_84, e_84⟩ : ∃ z, z = fs_83.set 125 (.ref q_125) := ⟨_, rfl⟩
  rw [← e_84] at hP hD hlen
  replace hP : va_P (dC, dI) classes [(h0, .inr (0, fs_84)), (q_1, .inr (1, q_2)), (q_3, .inr (2, [.ref q_4, .int 0])), (q_4, .inl (ca 0, 16, .inl (fun _ => 0))), (q_14, .inl (ca 4, 148, .inr (.inr (.inr (.inr (fun _ => none)))))), (q_111, .inl (ca 1, 2, .inl (fun _ => 0))), (q_112, .inl (ca 2, 2, .inr (.inl (fun _ => 0)))), (q_113, .inl (ca 1, 2, .inl (fun _ => 0))), (q_114, .inl (ca 2, 2, .inr (.inl (fun _ => 0)))), (q_115, .inl (ca 2, 2, .inr (.inl (fun _ => 0)))), (q_117, .inl (ca 1, 2, .inl (fun _ => 0))), (q_118, .inl (ca 1, 2, .inl (fun _ => 0))), (q_120, .inl (ca 1, 8000, .inl (fun _ => 0))), (q_122, .inl (ca 1, 2, .inl (fun _ => 0)))] H := hP
  replace hD : va_D A [(h0, .inr (0, fs_84)), (q_1, .inr (1, q_2)), (q_3, .inr (2, [.ref q_4, .int 0])), (q_4, .inl (ca 0, 16, .inl (fun _ => 0))), (q_14, .inl (ca 4, 148, .inr (.inr (.inr (.inr (fun _ => none)))))), (q_111, .inl (ca 1, 2, .inl (fun _ => 0))), (q_112, .inl (ca 2, 2, .inr (.inl (fun _ => 0)))), (q_113, .inl (ca 1, 2, .inl (fun _ => 0))), (q_114, .inl (ca 2, 2, .inr (.inl (fun _ => 0)))), (q_115, .inl (ca 2, 2, .inr (.inl (fun _ => 0)))), (q_117, .inl (ca 1, 2, .inl (fun _ => 0))), (q_118, .inl (ca 1, 2, .inl (fun _ => 0))), (q_120, .inl (ca 1, 8000, .inl (fun _ => 0))), (q_122, .inl (ca 1, 2, .inl (fun _ => 0)))] := hD
  refine W.widen (k := 162) (n := 625142) (Nat.le_of_ble_eq_true rfl) (Nat.le_of_ble_eq_true rfl) ?_
  subst e_84 e_83 e_82 e_81 e_80 e_79 e_78 e_77 e_76 e_75 e_74
  exact kk q_115 q_116 q_117 q_118 q_119 q_120 q_121 q_122 q_123 q_124 q_125 H locs hlen hP hD hS
set_option maxHeartbeats 4000000 in
set_option maxRecDepth 100000 in
theorem mi_84 {p : Program} {l : Launch} {e : Env} {s : State} {m : MethodId} {args : Array Value} {below : List Frame} {meth : Method} {c : Code} {H : Heap} {locs : List Loc} {Q : State → Prop} {dC : Nat → ClassId} {dI : Nat → Nat → Nat} {ca : Nat → ClassId} {A : Nat → Prop} {ls : Array Slot} {h0 : Nat} {sa : Nat → Nat} (M : mC p s m args meth c dC dI ca A ls h0) (hks : ∀ (i : Nat) (z : Nat × String), strs[i]? = some z → vk_R R_MM z.1 z.2 (sa i) s ∧ va_Any "java/lang/String" s s.heap (sa i) ∧ sa i ≠ h0) (hnA : ∀ (i : Nat) (z : Nat × String), strs[i]? = some z → ¬ A (sa i)) {fs_84 : List Value} {q_1 : Nat} {q_2 : List Value} {q_3 : Nat} {q_4 : Nat} {q_14 : Nat} {q_111 : Nat} {q_112 : Nat} {q_113 : Nat} {q_114 : Nat} {q_115 : Nat} {q_117 : Nat} {q_118 : Nat} {q_120 : Nat} {q_122 : Nat} (hP : va_P (dC, dI) classes ((h0, .inr (0, fs_84)) :: [(q_1, .inr (1, q_2)), (q_3, .inr (2, [.ref q_4, .int 0])), (q_4, .inl (ca 0, 16, .inl (fun _ => 0))), (q_14, .inl (ca 4, 148, .inr (.inr (.inr (.inr (fun _ => none)))))), (q_111, .inl (ca 1, 2, .inl (fun _ => 0))), (q_112, .inl (ca 2, 2, .inr (.inl (fun _ => 0)))), (q_113, .inl (ca 1, 2, .inl (fun _ => 0))), (q_114, .inl (ca 2, 2, .inr (.inl (fun _ => 0)))), (q_115, .inl (ca 2, 2, .inr (.inl (fun _ => 0)))), (q_117, .inl (ca 1, 2, .inl (fun _ => 0))), (q_118, .inl (ca 1, 2, .inl (fun _ => 0))), (q_120, .inl (ca 1, 8000, .inl (fun _ => 0))), (q_122, .inl (ca 1, 2, .inl (fun _ => 0)))]) H) (hD : va_D A ((h0, .inr (0, fs_84)) :: [(q_1, .inr (1, q_2)), (q_3, .inr (2, [.ref q_4, .int 0])), (q_4, .inl (ca 0, 16, .inl (fun _ => 0))), (q_14, .inl (ca 4, 148, .inr (.inr (.inr (.inr (fun _ => none)))))), (q_111, .inl (ca 1, 2, .inl (fun _ => 0))), (q_112, .inl (ca 2, 2, .inr (.inl (fun _ => 0)))), (q_113, .inl (ca 1, 2, .inl (fun _ => 0))), (q_114, .inl (ca 2, 2, .inr (.inl (fun _ => 0)))), (q_115, .inl (ca 2, 2, .inr (.inl (fun _ => 0)))), (q_117, .inl (ca 1, 2, .inl (fun _ => 0))), (q_118, .inl (ca 1, 2, .inl (fun _ => 0))), (q_120, .inl (ca 1, 8000, .inl (fun _ => 0))), (q_122, .inl (ca 1, 2, .inl (fun _ => 0)))])) (hS : va_S A s.heap H locs) (hlen : fs_84.length = 132)
    (kk : ∀ (q_126 q_127 q_128 q_129 : Nat) (H : Heap) (locs : List Loc), ((((fs_84.set 126 (.ref q_126)).set 127 (.ref q_127)).set 128 (.ref q_128)).set 129 (.ref q_129)).length = 132 → va_P (dC, dI) classes ((h0, .inr (0, (((fs_84.set 126 (.ref q_126)).set 127 (.ref q_127)).set 128 (.ref q_128)).set 129 (.ref q_129))) :: [(q_1, .inr (1, q_2)), (q_3, .inr (2, [.ref q_4, .int 0])), (q_4, .inl (ca 0, 16, .inl (fun _ => 0))), (q_14, .inl (ca 4, 148, .inr (.inr (.inr (.inr (fun _ => none)))))), (q_111, .inl (ca 1, 2, .inl (fun _ => 0))), (q_112, .inl (ca 2, 2, .inr (.inl (fun _ => 0)))), (q_113, .inl (ca 1, 2, .inl (fun _ => 0))), (q_114, .inl (ca 2, 2, .inr (.inl (fun _ => 0)))), (q_115, .inl (ca 2, 2, .inr (.inl (fun _ => 0)))), (q_117, .inl (ca 1, 2, .inl (fun _ => 0))), (q_118, .inl (ca 1, 2, .inl (fun _ => 0))), (q_120, .inl (ca 1, 8000, .inl (fun _ => 0))), (q_122, .inl (ca 1, 2, .inl (fun _ => 0)))]) H → va_D A ((h0, .inr (0, (((fs_84.set 126 (.ref q_126)).set 127 (.ref q_127)).set 128 (.ref q_128)).set 129 (.ref q_129))) :: [(q_1, .inr (1, q_2)), (q_3, .inr (2, [.ref q_4, .int 0])), (q_4, .inl (ca 0, 16, .inl (fun _ => 0))), (q_14, .inl (ca 4, 148, .inr (.inr (.inr (.inr (fun _ => none)))))), (q_111, .inl (ca 1, 2, .inl (fun _ => 0))), (q_112, .inl (ca 2, 2, .inr (.inl (fun _ => 0)))), (q_113, .inl (ca 1, 2, .inl (fun _ => 0))), (q_114, .inl (ca 2, 2, .inr (.inl (fun _ => 0)))), (q_115, .inl (ca 2, 2, .inr (.inl (fun _ => 0)))), (q_117, .inl (ca 1, 2, .inl (fun _ => 0))), (q_118, .inl (ca 1, 2, .inl (fun _ => 0))), (q_120, .inl (ca 1, 8000, .inl (fun _ => 0))), (q_122, .inl (ca 1, 2, .inl (fun _ => 0)))]) → va_S A s.heap H locs → W p l e ({ frames := 7, cells := 166, slots := 640022, locals := 100 }) s m args below meth c H locs 166 640022 Q (F0 m 969 ls [])) :
    W p l e ({ frames := 7, cells := 166, slots := 640022, locals := 100 }) s m args below meth c H locs 162 625142 Q (F0 m 935 ls []) := by
  obtain ⟨hx, hb, hml, hown, hts, hin, hK, hA, hl⟩ := id M
  refine lv_aload_n hx hb d_MM_init_935 rfl (lv_at hl 0 rfl) ?_
  refine lv_bipush (v := 120) hx hb d_MM_init_936 (by decide +kernel) ?_
  refine m_arr M (atype := .int) (ty := .int) (fs := fs_84) (wt := [(q_1, .inr (1, q_2)), (q_3, .inr (2, [.ref q_4, .int 0])), (q_4, .inl (ca 0, 16, .inl (fun _ => 0))), (q_14, .inl (ca 4, 148, .inr (.inr (.inr (.inr (fun _ => none)))))), (q_111, .inl (ca 1, 2, .inl (fun _ => 0))), (q_112, .inl (ca 2, 2, .inr (.inl (fun _ => 0)))), (q_113, .inl (ca 1, 2, .inl (fun _ => 0))), (q_114, .inl (ca 2, 2, .inr (.inl (fun _ => 0)))), (q_115, .inl (ca 2, 2, .inr (.inl (fun _ => 0)))), (q_117, .inl (ca 1, 2, .inl (fun _ => 0))), (q_118, .inl (ca 1, 2, .inl (fun _ => 0))), (q_120, .inl (ca 1, 8000, .inl (fun _ => 0))), (q_122, .inl (ca 1, 2, .inl (fun _ => 0)))]) (t0 := 1) (n := 120) (N' := 120) (k := 126) (tf := .array (.int)) (a0 := (120, .inl (fun _ => 0))) hP hD hS hlen rfl xm_11 rfl (fun C h => by cases h) (m_a_int 120) (by decide +kernel) (by decide +kernel) (by decide +kernel) (by decide) xm_168 rfl rfl (by decide +kernel) (fun _ => rfl) (fun _ => rfl) (Nat.le_of_ble_eq_true rfl) (Nat.le_of_ble_eq_true rfl) d_MM_init_938 d_MM_init_940 ?_
  clear hP hD hS hlen
  intro q_126 H locs hlen hP hD hS
  obtain ⟨fs_85, e_85⟩ : ∃ z, z = fs_84.set 126 (.ref q_126) := ⟨_, rfl⟩
  rw [← e_85] at hP hD hlen
  replace hP : va_P (dC, dI) classes [(h0, .inr (0, fs_85)), (q_1, .inr (1, q_2)), (q_3, .inr (2, [.ref q_4, .int 0])), (q_4, .inl (ca 0, 16, .inl (fun _ => 0))), (q_14, .inl (ca 4, 148, .inr (.inr (.inr (.inr (fun _ => none)))))), (q_111, .inl (ca 1, 2, .inl (fun _ => 0))), (q_112, .inl (ca 2, 2, .inr (.inl (fun _ => 0)))), (q_113, .inl (ca 1, 2, .inl (fun _ => 0))), (q_114, .inl (ca 2, 2, .inr (.inl (fun _ => 0)))), (q_115, .inl (ca 2, 2, .inr (.inl (fun _ => 0)))), (q_117, .inl (ca 1, 2, .inl (fun _ => 0))), (q_118, .inl (ca 1, 2, .inl (fun _ => 0))), (q_120, .inl (ca 1, 8000, .inl (fun _ => 0))), (q_122, .inl (ca 1, 2, .inl (fun _ => 0)))] H := hP
  replace hD : va_D A [(h0, .inr (0, fs_85)), (q_1, .inr (1, q_2)), (q_3, .inr (2, [.ref q_4, .int 0])), (q_4, .inl (ca 0, 16, .inl (fun _ => 0))), (q_14, .inl (ca 4, 148, .inr (.inr (.inr (.inr (fun _ => none)))))), (q_111, .inl (ca 1, 2, .inl (fun _ => 0))), (q_112, .inl (ca 2, 2, .inr (.inl (fun _ => 0)))), (q_113, .inl (ca 1, 2, .inl (fun _ => 0))), (q_114, .inl (ca 2, 2, .inr (.inl (fun _ => 0)))), (q_115, .inl (ca 2, 2, .inr (.inl (fun _ => 0)))), (q_117, .inl (ca 1, 2, .inl (fun _ => 0))), (q_118, .inl (ca 1, 2, .inl (fun _ => 0))), (q_120, .inl (ca 1, 8000, .inl (fun _ => 0))), (q_122, .inl (ca 1, 2, .inl (fun _ => 0)))] := hD
  refine W.widen (k := 163) (n := 625262) (Nat.le_of_ble_eq_true rfl) (Nat.le_of_ble_eq_true rfl) ?_
  refine lv_aload_n hx hb d_MM_init_943 rfl (lv_at hl 0 rfl) ?_
  refine lv_bipush (v := 120) hx hb d_MM_init_944 (by decide +kernel) ?_
  refine m_arr M (atype := .int) (ty := .int) (fs := fs_85) (wt := [(q_1, .inr (1, q_2)), (q_3, .inr (2, [.ref q_4, .int 0])), (q_4, .inl (ca 0, 16, .inl (fun _ => 0))), (q_14, .inl (ca 4, 148, .inr (.inr (.inr (.inr (fun _ => none)))))), (q_111, .inl (ca 1, 2, .inl (fun _ => 0))), (q_112, .inl (ca 2, 2, .inr (.inl (fun _ => 0)))), (q_113, .inl (ca 1, 2, .inl (fun _ => 0))), (q_114, .inl (ca 2, 2, .inr (.inl (fun _ => 0)))), (q_115, .inl (ca 2, 2, .inr (.inl (fun _ => 0)))), (q_117, .inl (ca 1, 2, .inl (fun _ => 0))), (q_118, .inl (ca 1, 2, .inl (fun _ => 0))), (q_120, .inl (ca 1, 8000, .inl (fun _ => 0))), (q_122, .inl (ca 1, 2, .inl (fun _ => 0)))]) (t0 := 1) (n := 120) (N' := 120) (k := 127) (tf := .array (.int)) (a0 := (120, .inl (fun _ => 0))) hP hD hS hlen rfl xm_11 rfl (fun C h => by cases h) (m_a_int 120) (by decide +kernel) (by decide +kernel) (by decide +kernel) (by decide) xm_169 rfl rfl (by decide +kernel) (fun _ => rfl) (fun _ => rfl) (Nat.le_of_ble_eq_true rfl) (Nat.le_of_ble_eq_true rfl) d_MM_init_946 d_MM_init_948 ?_
  clear hP hD hS hlen
  intro q_127 H locs hlen hP hD hS
  obtain ⟨fs_86, e_86⟩ : ∃ z, z = fs_85.set 127 (.ref q_127) := ⟨_, rfl⟩
  rw [← e_86] at hP hD hlen
  replace hP : va_P (dC, dI) classes [(h0, .inr (0, fs_86)), (q_1, .inr (1, q_2)), (q_3, .inr (2, [.ref q_4, .int 0])), (q_4, .inl (ca 0, 16, .inl (fun _ => 0))), (q_14, .inl (ca 4, 148, .inr (.inr (.inr (.inr (fun _ => none)))))), (q_111, .inl (ca 1, 2, .inl (fun _ => 0))), (q_112, .inl (ca 2, 2, .inr (.inl (fun _ => 0)))), (q_113, .inl (ca 1, 2, .inl (fun _ => 0))), (q_114, .inl (ca 2, 2, .inr (.inl (fun _ => 0)))), (q_115, .inl (ca 2, 2, .inr (.inl (fun _ => 0)))), (q_117, .inl (ca 1, 2, .inl (fun _ => 0))), (q_118, .inl (ca 1, 2, .inl (fun _ => 0))), (q_120, .inl (ca 1, 8000, .inl (fun _ => 0))), (q_122, .inl (ca 1, 2, .inl (fun _ => 0)))] H := hP
  replace hD : va_D A [(h0, .inr (0, fs_86)), (q_1, .inr (1, q_2)), (q_3, .inr (2, [.ref q_4, .int 0])), (q_4, .inl (ca 0, 16, .inl (fun _ => 0))), (q_14, .inl (ca 4, 148, .inr (.inr (.inr (.inr (fun _ => none)))))), (q_111, .inl (ca 1, 2, .inl (fun _ => 0))), (q_112, .inl (ca 2, 2, .inr (.inl (fun _ => 0)))), (q_113, .inl (ca 1, 2, .inl (fun _ => 0))), (q_114, .inl (ca 2, 2, .inr (.inl (fun _ => 0)))), (q_115, .inl (ca 2, 2, .inr (.inl (fun _ => 0)))), (q_117, .inl (ca 1, 2, .inl (fun _ => 0))), (q_118, .inl (ca 1, 2, .inl (fun _ => 0))), (q_120, .inl (ca 1, 8000, .inl (fun _ => 0))), (q_122, .inl (ca 1, 2, .inl (fun _ => 0)))] := hD
  refine W.widen (k := 164) (n := 625382) (Nat.le_of_ble_eq_true rfl) (Nat.le_of_ble_eq_true rfl) ?_
  refine lv_aload_n hx hb d_MM_init_951 rfl (lv_at hl 0 rfl) ?_
  refine lv_sipush (v := 7200) hx hb d_MM_init_952 (by decide +kernel) ?_
  refine m_arr M (atype := .long) (ty := .long) (fs := fs_86) (wt := [(q_1, .inr (1, q_2)), (q_3, .inr (2, [.ref q_4, .int 0])), (q_4, .inl (ca 0, 16, .inl (fun _ => 0))), (q_14, .inl (ca 4, 148, .inr (.inr (.inr (.inr (fun _ => none)))))), (q_111, .inl (ca 1, 2, .inl (fun _ => 0))), (q_112, .inl (ca 2, 2, .inr (.inl (fun _ => 0)))), (q_113, .inl (ca 1, 2, .inl (fun _ => 0))), (q_114, .inl (ca 2, 2, .inr (.inl (fun _ => 0)))), (q_115, .inl (ca 2, 2, .inr (.inl (fun _ => 0)))), (q_117, .inl (ca 1, 2, .inl (fun _ => 0))), (q_118, .inl (ca 1, 2, .inl (fun _ => 0))), (q_120, .inl (ca 1, 8000, .inl (fun _ => 0))), (q_122, .inl (ca 1, 2, .inl (fun _ => 0)))]) (t0 := 2) (n := 7200) (N' := 7200) (k := 128) (tf := .array (.long)) (a0 := (7200, .inr (.inl (fun _ => 0)))) hP hD hS hlen rfl xm_12 rfl (fun C h => by cases h) (m_a_long 7200) (by decide +kernel) (by decide +kernel) (by decide +kernel) (by decide) xm_170 rfl rfl (by decide +kernel) (fun _ => rfl) (fun _ => rfl) (Nat.le_of_ble_eq_true rfl) (Nat.le_of_ble_eq_true rfl) d_MM_init_955 d_MM_init_957 ?_
  clear hP hD hS hlen
  intro q_128 H locs hlen hP hD hS
  obtain ⟨fs_87, e_87⟩ : ∃ z, z = fs_86.set 128 (.ref q_128) := ⟨_, rfl⟩
  rw [← e_87] at hP hD hlen
  replace hP : va_P (dC, dI) classes [(h0, .inr (0, fs_87)), (q_1, .inr (1, q_2)), (q_3, .inr (2, [.ref q_4, .int 0])), (q_4, .inl (ca 0, 16, .inl (fun _ => 0))), (q_14, .inl (ca 4, 148, .inr (.inr (.inr (.inr (fun _ => none)))))), (q_111, .inl (ca 1, 2, .inl (fun _ => 0))), (q_112, .inl (ca 2, 2, .inr (.inl (fun _ => 0)))), (q_113, .inl (ca 1, 2, .inl (fun _ => 0))), (q_114, .inl (ca 2, 2, .inr (.inl (fun _ => 0)))), (q_115, .inl (ca 2, 2, .inr (.inl (fun _ => 0)))), (q_117, .inl (ca 1, 2, .inl (fun _ => 0))), (q_118, .inl (ca 1, 2, .inl (fun _ => 0))), (q_120, .inl (ca 1, 8000, .inl (fun _ => 0))), (q_122, .inl (ca 1, 2, .inl (fun _ => 0)))] H := hP
  replace hD : va_D A [(h0, .inr (0, fs_87)), (q_1, .inr (1, q_2)), (q_3, .inr (2, [.ref q_4, .int 0])), (q_4, .inl (ca 0, 16, .inl (fun _ => 0))), (q_14, .inl (ca 4, 148, .inr (.inr (.inr (.inr (fun _ => none)))))), (q_111, .inl (ca 1, 2, .inl (fun _ => 0))), (q_112, .inl (ca 2, 2, .inr (.inl (fun _ => 0)))), (q_113, .inl (ca 1, 2, .inl (fun _ => 0))), (q_114, .inl (ca 2, 2, .inr (.inl (fun _ => 0)))), (q_115, .inl (ca 2, 2, .inr (.inl (fun _ => 0)))), (q_117, .inl (ca 1, 2, .inl (fun _ => 0))), (q_118, .inl (ca 1, 2, .inl (fun _ => 0))), (q_120, .inl (ca 1, 8000, .inl (fun _ => 0))), (q_122, .inl (ca 1, 2, .inl (fun _ => 0)))] := hD
  refine W.widen (k := 165) (n := 632582) (Nat.le_of_ble_eq_true rfl) (Nat.le_of_ble_eq_true rfl) ?_
  refine lv_aload_n hx hb d_MM_init_960 rfl (lv_at hl 0 rfl) ?_
  refine lv_sipush (v := 7440) hx hb d_MM_init_961 (by decide +kernel) ?_
  refine m_arr M (atype := .long) (ty := .long) (fs := fs_87) (wt := [(q_1, .inr (1, q_2)), (q_3, .inr (2, [.ref q_4, .int 0])), (q_4, .inl (ca 0, 16, .inl (fun _ => 0))), (q_14, .inl (ca 4, 148, .inr (.inr (.inr (.inr (fun _ => none)))))), (q_111, .inl (ca 1, 2, .inl (fun _ => 0))), (q_112, .inl (ca 2, 2, .inr (.inl (fun _ => 0)))), (q_113, .inl (ca 1, 2, .inl (fun _ => 0))), (q_114, .inl (ca 2, 2, .inr (.inl (fun _ => 0)))), (q_115, .inl (ca 2, 2, .inr (.inl (fun _ => 0)))), (q_117, .inl (ca 1, 2, .inl (fun _ => 0))), (q_118, .inl (ca 1, 2, .inl (fun _ => 0))), (q_120, .inl (ca 1, 8000, .inl (fun _ => 0))), (q_122, .inl (ca 1, 2, .inl (fun _ => 0)))]) (t0 := 2) (n := 7440) (N' := 7440) (k := 129) (tf := .array (.long)) (a0 := (7440, .inr (.inl (fun _ => 0)))) hP hD hS hlen rfl xm_12 rfl (fun C h => by cases h) (m_a_long 7440) (by decide +kernel) (by decide +kernel) (by decide +kernel) (by decide) xm_171 rfl rfl (by decide +kernel) (fun _ => rfl) (fun _ => rfl) (Nat.le_of_ble_eq_true rfl) (Nat.le_of_ble_eq_true rfl) d_MM_init_964 d_MM_init_966 ?_
  clear hP hD hS hlen
  intro q_129 H locs hlen hP hD hS
  obtain ⟨fs_88, e_88⟩ : ∃ z, z = fs_87.set 129 (.ref q_129) := ⟨_, rfl⟩
  rw [← e_88] at hP hD hlen
  replace hP : va_P (dC, dI) classes [(h0, .inr (0, fs_88)), (q_1, .inr (1, q_2)), (q_3, .inr (2, [.ref q_4, .int 0])), (q_4, .inl (ca 0, 16, .inl (fun _ => 0))), (q_14, .inl (ca 4, 148, .inr (.inr (.inr (.inr (fun _ => none)))))), (q_111, .inl (ca 1, 2, .inl (fun _ => 0))), (q_112, .inl (ca 2, 2, .inr (.inl (fun _ => 0)))), (q_113, .inl (ca 1, 2, .inl (fun _ => 0))), (q_114, .inl (ca 2, 2, .inr (.inl (fun _ => 0)))), (q_115, .inl (ca 2, 2, .inr (.inl (fun _ => 0)))), (q_117, .inl (ca 1, 2, .inl (fun _ => 0))), (q_118, .inl (ca 1, 2, .inl (fun _ => 0))), (q_120, .inl (ca 1, 8000, .inl (fun _ => 0))), (q_122, .inl (ca 1, 2, .inl (fun _ => 0)))] H := hP
  replace hD : va_D A [(h0, .inr (0, fs_88)), (q_1, .inr (1, q_2)), (q_3, .inr (2, [.ref q_4, .int 0])), (q_4, .inl (ca 0, 16, .inl (fun _ => 0))), (q_14, .inl (ca 4, 148, .inr (.inr (.inr (.inr (fun _ => none)))))), (q_111, .inl (ca 1, 2, .inl (fun _ => 0))), (q_112, .inl (ca 2, 2, .inr (.inl (fun _ => 0)))), (q_113, .inl (ca 1, 2, .inl (fun _ => 0))), (q_114, .inl (ca 2, 2, .inr (.inl (fun _ => 0)))), (q_115, .inl (ca 2, 2, .inr (.inl (fun _ => 0)))), (q_117, .inl (ca 1, 2, .inl (fun _ => 0))), (q_118, .inl (ca 1, 2, .inl (fun _ => 0))), (q_120, .inl (ca 1, 8000, .inl (fun _ => 0))), (q_122, .inl (ca 1, 2, .inl (fun _ => 0)))] := hD
  refine W.widen (k := 166) (n := 640022) (Nat.le_of_ble_eq_true rfl) (Nat.le_of_ble_eq_true rfl) ?_
  subst e_88 e_87 e_86 e_85
  exact kk q_126 q_127 q_128 q_129 H locs hlen hP hD hS
