/-! THE LAW'S HELPERS -/
def lE (dC : Nat → ClassId) (dI : Nat → Nat → Nat) (ca : Nat → ClassId) (U : State) : Prop := sE dC dI ca U ∧ va_Nc "java/lang/IllegalStateException" "java/lang/IllegalArgumentException" U
theorem lE_bl (dC : Nat → ClassId) (dI : Nat → Nat → Nat) (ca : Nat → ClassId) : ax_bl (lE dC dI ca) := fun U g mk a h => ⟨sE_bl dC dI ca U g mk a h.1, va_Nc.moved (u := U) (U := U.calling g mk a) (Vm.Alike.refl U.vm) h.2⟩
theorem lE_up {dC : Nat → ClassId} {dI : Nat → Nat → Nat} {ca : Nat → ClassId} {s : State} {H : Heap} (h : lE dC dI ca s) (hst : ∀ (q : Nat) (cell : Cell), s.heap[q]? = some cell → cell.vm.isStatics = true → H[q]? = some cell) : ∀ U : State, U.heap = H → s.WarmedH U.vm → lE dC dI ca U :=
  fun U hU hW => ⟨sE_up h.1 hst U hU hW, va_Nc.moved hW.alike h.2⟩
theorem d_LW_entry_0 : decode b_LW_entry 0 = .ok (.aload 4, 2) := by decide +kernel
theorem d_LW_entry_2 : decode b_LW_entry 2 = .ok (.iconst 0, 1) := by decide +kernel
theorem d_LW_entry_3 : decode b_LW_entry 3 = .ok (.aload_n 0, 1) := by decide +kernel
theorem d_LW_entry_4 : decode b_LW_entry 4 = .ok (.iload_n 1, 1) := by decide +kernel
theorem d_LW_entry_5 : decode b_LW_entry 5 = .ok (.iload_n 2, 1) := by decide +kernel
theorem d_LW_entry_6 : decode b_LW_entry 6 = .ok (.iload_n 3, 1) := by decide +kernel
theorem d_LW_entry_7 : decode b_LW_entry 7 = .ok (.invokevirtual 7, 3) := by decide +kernel
theorem d_LW_entry_14 : decode b_LW_entry 14 = .ok (.astore 5, 2) := by decide +kernel
theorem d_LW_entry_16 : decode b_LW_entry 16 = .ok (.iconst 1, 1) := by decide +kernel
theorem d_LW_entry_17 : decode b_LW_entry 17 = .ok (.ireturn, 1) := by decide +kernel
set_option maxHeartbeats 4000000 in
set_option maxRecDepth 100000 in
theorem h_entry (l : Launch) (hl9 : l.stackTraces = false) (dC : Nat → ClassId) (dI : Nat → Nat → Nat) (ca : Nat → ClassId) (h0 : Nat) (q : Nat → Nat) (f g i : Int32) (o : Nat) : CTw l classes (dC, dI) (lE dC dI ca) lk y_LW_entry b_LW_entry 6 (some .int) [(0, 11, 14, 13)] 7 108 1 6 [.ref h0, .int f, .int g, .int i, .ref o] [(h0, .inr (7, sF q 0))] (fun (v : Option Value) (_ : Unit) => v = some (.int 1)) (fun (_ : Unit) => []) := by
  refine ax_ofw (by decide) (Nat.le_of_ble_eq_true rfl) ?_
  intro p e s m below meth c A ls hAt htab hK hP hD hS hA hl
  obtain ⟨hx, hb, hr, hml, hown, hts, hlocks, hin⟩ := hAt
  obtain ⟨hK, hNc⟩ := hK
  have hl : lv_has ls 6 [(0, .ref h0), (1, .int f), (2, .int g), (3, .int i), (4, .ref o)] := hl
  refine lv_aload hx hb d_LW_entry_0 (lv_at hl 4 rfl) ?_
  refine lv_iconst (v := 0) hx hb d_LW_entry_2 (by decide) ?_
  refine lv_aload_n hx hb d_LW_entry_3 rfl (lv_at hl 0 rfl) ?_
  refine lv_iload_n hx hb d_LW_entry_4 rfl (lv_at hl 1 rfl) ?_
  refine lv_iload_n hx hb d_LW_entry_5 rfl (lv_at hl 2 rfl) ?_
  refine lv_iload_n hx hb d_LW_entry_6 rfl (lv_at hl 3 rfl) ?_
  refine ax_VCE (Cx := "java/lang/IndexOutOfBoundsException") (hpc := 14) (mc := 1) (ms := 6) (rest := [.int 0, .ref o]) (wr := []) (fun T hT X => ax_runVE (Z := sk) (ci := 7) (q0 := 0) (k := 3) (As := [.int f, .int g, .int i]) (rest := [.int 0, .ref o]) (wr := []) rfl hx hb hml hown hts g_sk sk_lk (sE_bl dC dI ca) (c_SS_entry l hl9 dC dI ca h0 q f g i) xl_24 xs_298 xs_0 xs_300 xs_299 (by decide +kernel) rfl (Nat.le_of_ble_eq_true rfl) (Nat.le_of_ble_eq_true rfl) hl.1 (Nat.le_of_ble_eq_true rfl) (sE_up hK (fun q cell h _ => h)) hK.1.1 hP hD hS hA rfl rfl [0] [] rfl (by decide) rfl rfl (by decide) (by decide) (Nat.le_of_ble_eq_true rfl) (Nat.le_of_ble_eq_true rfl) d_LW_entry_7 T hT X) ?_ (fun x H locs hP hD hS => ?_)
  · exact fun x T' locs1 hx9 X' => by
      obtain ⟨ce, g1, g2, g3⟩ := hx9
      exact ax_fnd1 X' htab ⟨by decide, by decide⟩ (by decide) hown (hts _ xl_23) g1 g2 g3
  · refine lv_astore (lv' := [(5, .ref x), (0, .ref h0), (1, .int f), (2, .int g), (3, .int i), (4, .ref o)]) hx hb d_LW_entry_14 hl (by decide) rfl (fun ls hl => ?_)
    refine lv_iconst (v := 1) hx hb d_LW_entry_16 (by decide) ?_
    exact ax_iret hx hb hr hlocks hP hD hS () rfl [] rfl (by decide) rfl (Nat.le_of_ble_eq_true rfl) (Nat.le_of_ble_eq_true rfl) d_LW_entry_17
theorem d_LW_field_0 : decode b_LW_field 0 = .ok (.aload 4, 2) := by decide +kernel
theorem d_LW_field_2 : decode b_LW_field 2 = .ok (.iconst 0, 1) := by decide +kernel
theorem d_LW_field_3 : decode b_LW_field 3 = .ok (.aload_n 0, 1) := by decide +kernel
theorem d_LW_field_4 : decode b_LW_field 4 = .ok (.iload_n 1, 1) := by decide +kernel
theorem d_LW_field_5 : decode b_LW_field 5 = .ok (.iload_n 2, 1) := by decide +kernel
theorem d_LW_field_6 : decode b_LW_field 6 = .ok (.iload_n 3, 1) := by decide +kernel
theorem d_LW_field_7 : decode b_LW_field 7 = .ok (.invokevirtual 27, 3) := by decide +kernel
theorem d_LW_field_14 : decode b_LW_field 14 = .ok (.astore 5, 2) := by decide +kernel
theorem d_LW_field_16 : decode b_LW_field 16 = .ok (.iconst 1, 1) := by decide +kernel
theorem d_LW_field_17 : decode b_LW_field 17 = .ok (.ireturn, 1) := by decide +kernel
set_option maxHeartbeats 4000000 in
set_option maxRecDepth 100000 in
theorem h_field (l : Launch) (hl9 : l.stackTraces = false) (dC : Nat → ClassId) (dI : Nat → Nat → Nat) (ca : Nat → ClassId) (h0 : Nat) (q : Nat → Nat) (s0 f i : Int32) (o : Nat) : CTw l classes (dC, dI) (lE dC dI ca) lk y_LW_field b_LW_field 6 (some .int) [(0, 11, 14, 13)] 7 108 1 6 [.ref h0, .int s0, .int f, .int i, .ref o] [(h0, .inr (7, sF q 0))] (fun (v : Option Value) (_ : Unit) => v = some (.int 1)) (fun (_ : Unit) => []) := by
  refine ax_ofw (by decide) (Nat.le_of_ble_eq_true rfl) ?_
  intro p e s m below meth c A ls hAt htab hK hP hD hS hA hl
  obtain ⟨hx, hb, hr, hml, hown, hts, hlocks, hin⟩ := hAt
  obtain ⟨hK, hNc⟩ := hK
  have hl : lv_has ls 6 [(0, .ref h0), (1, .int s0), (2, .int f), (3, .int i), (4, .ref o)] := hl
  refine lv_aload hx hb d_LW_field_0 (lv_at hl 4 rfl) ?_
  refine lv_iconst (v := 0) hx hb d_LW_field_2 (by decide) ?_
  refine lv_aload_n hx hb d_LW_field_3 rfl (lv_at hl 0 rfl) ?_
  refine lv_iload_n hx hb d_LW_field_4 rfl (lv_at hl 1 rfl) ?_
  refine lv_iload_n hx hb d_LW_field_5 rfl (lv_at hl 2 rfl) ?_
  refine lv_iload_n hx hb d_LW_field_6 rfl (lv_at hl 3 rfl) ?_
  refine ax_VCE (Cx := "java/lang/IndexOutOfBoundsException") (hpc := 14) (mc := 1) (ms := 6) (rest := [.int 0, .ref o]) (wr := []) (fun T hT X => ax_runVE (Z := sk) (ci := 7) (q0 := 0) (k := 3) (As := [.int s0, .int f, .int i]) (rest := [.int 0, .ref o]) (wr := []) rfl hx hb hml hown hts g_sk sk_lk (sE_bl dC dI ca) (c_SS_field l hl9 dC dI ca h0 q s0 f i) xl_38 xs_318 xs_0 xs_320 xs_319 (by decide +kernel) rfl (Nat.le_of_ble_eq_true rfl) (Nat.le_of_ble_eq_true rfl) hl.1 (Nat.le_of_ble_eq_true rfl) (sE_up hK (fun q cell h _ => h)) hK.1.1 hP hD hS hA rfl rfl [0] [] rfl (by decide) rfl rfl (by decide) (by decide) (Nat.le_of_ble_eq_true rfl) (Nat.le_of_ble_eq_true rfl) d_LW_field_7 T hT X) ?_ (fun x H locs hP hD hS => ?_)
  · exact fun x T' locs1 hx9 X' => by
      obtain ⟨ce, g1, g2, g3⟩ := hx9
      exact ax_fnd1 X' htab ⟨by decide, by decide⟩ (by decide) hown (hts _ xl_23) g1 g2 g3
  · refine lv_astore (lv' := [(5, .ref x), (0, .ref h0), (1, .int s0), (2, .int f), (3, .int i), (4, .ref o)]) hx hb d_LW_field_14 hl (by decide) rfl (fun ls hl => ?_)
    refine lv_iconst (v := 1) hx hb d_LW_field_16 (by decide) ?_
    exact ax_iret hx hb hr hlocks hP hD hS () rfl [] rfl (by decide) rfl (Nat.le_of_ble_eq_true rfl) (Nat.le_of_ble_eq_true rfl) d_LW_field_17
theorem d_LW_element_0 : decode b_LW_element 0 = .ok (.aload 4, 2) := by decide +kernel
theorem d_LW_element_2 : decode b_LW_element 2 = .ok (.iconst 0, 1) := by decide +kernel
theorem d_LW_element_3 : decode b_LW_element 3 = .ok (.aload_n 0, 1) := by decide +kernel
theorem d_LW_element_4 : decode b_LW_element 4 = .ok (.iload_n 1, 1) := by decide +kernel
theorem d_LW_element_5 : decode b_LW_element 5 = .ok (.iload_n 2, 1) := by decide +kernel
theorem d_LW_element_6 : decode b_LW_element 6 = .ok (.iload_n 3, 1) := by decide +kernel
theorem d_LW_element_7 : decode b_LW_element 7 = .ok (.invokevirtual 30, 3) := by decide +kernel
theorem d_LW_element_14 : decode b_LW_element 14 = .ok (.astore 5, 2) := by decide +kernel
theorem d_LW_element_16 : decode b_LW_element 16 = .ok (.iconst 1, 1) := by decide +kernel
theorem d_LW_element_17 : decode b_LW_element 17 = .ok (.ireturn, 1) := by decide +kernel
set_option maxHeartbeats 4000000 in
set_option maxRecDepth 100000 in
theorem h_element (l : Launch) (hl9 : l.stackTraces = false) (dC : Nat → ClassId) (dI : Nat → Nat → Nat) (ca : Nat → ClassId) (h0 : Nat) (q : Nat → Nat) (a b : Nat) (r0 r1 : Nat → Nat) (s0 f i : Int32) (o : Nat) : CTw l classes (dC, dI) (lE dC dI ca) lk y_LW_element b_LW_element 6 (some .int) [(0, 11, 14, 13)] 7 107 1 6 [.ref h0, .int s0, .int f, .int i, .ref o] [(h0, .inr (7, sF q 0)), (q 7, .inl (ca 5, 2, .inr (.inr (.inr (.inr (va_up (va_up (fun _ => none) 0 (some a)) 1 (some b))))))), (a, .inr (17, sD r0)), (b, .inr (17, sD r1))] (fun (v : Option Value) (_ : Unit) => v = some (.int 1)) (fun (_ : Unit) => []) := by
  refine ax_ofw (by decide) (Nat.le_of_ble_eq_true rfl) ?_
  intro p e s m below meth c A ls hAt htab hK hP hD hS hA hl
  obtain ⟨hx, hb, hr, hml, hown, hts, hlocks, hin⟩ := hAt
  obtain ⟨hK, hNc⟩ := hK
  have hl : lv_has ls 6 [(0, .ref h0), (1, .int s0), (2, .int f), (3, .int i), (4, .ref o)] := hl
  refine lv_aload hx hb d_LW_element_0 (lv_at hl 4 rfl) ?_
  refine lv_iconst (v := 0) hx hb d_LW_element_2 (by decide) ?_
  refine lv_aload_n hx hb d_LW_element_3 rfl (lv_at hl 0 rfl) ?_
  refine lv_iload_n hx hb d_LW_element_4 rfl (lv_at hl 1 rfl) ?_
  refine lv_iload_n hx hb d_LW_element_5 rfl (lv_at hl 2 rfl) ?_
  refine lv_iload_n hx hb d_LW_element_6 rfl (lv_at hl 3 rfl) ?_
  refine ax_VCE (Cx := "java/lang/IndexOutOfBoundsException") (hpc := 14) (mc := 1) (ms := 6) (rest := [.int 0, .ref o]) (wr := []) (fun T hT X => ax_runVE (Z := sk) (ci := 7) (q0 := 0) (k := 3) (As := [.int s0, .int f, .int i]) (rest := [.int 0, .ref o]) (wr := []) rfl hx hb hml hown hts g_sk sk_lk (sE_bl dC dI ca) (c_SS_element l hl9 dC dI ca h0 q a b r0 r1 s0 f i) xl_42 xs_321 xs_0 xs_323 xs_322 (by decide +kernel) rfl (Nat.le_of_ble_eq_true rfl) (Nat.le_of_ble_eq_true rfl) hl.1 (Nat.le_of_ble_eq_true rfl) (sE_up hK (fun q cell h _ => h)) hK.1.1 hP hD hS hA rfl rfl [0, 1, 2, 3] [] rfl (by decide) rfl rfl (by decide) (by decide) (Nat.le_of_ble_eq_true rfl) (Nat.le_of_ble_eq_true rfl) d_LW_element_7 T hT X) ?_ (fun x H locs hP hD hS => ?_)
  · exact fun x T' locs1 hx9 X' => by
      obtain ⟨ce, g1, g2, g3⟩ := hx9
      exact ax_fnd1 X' htab ⟨by decide, by decide⟩ (by decide) hown (hts _ xl_23) g1 g2 g3
  · refine lv_astore (lv' := [(5, .ref x), (0, .ref h0), (1, .int s0), (2, .int f), (3, .int i), (4, .ref o)]) hx hb d_LW_element_14 hl (by decide) rfl (fun ls hl => ?_)
    refine lv_iconst (v := 1) hx hb d_LW_element_16 (by decide) ?_
    exact ax_iret hx hb hr hlocks hP hD hS () rfl [] rfl (by decide) rfl (Nat.le_of_ble_eq_true rfl) (Nat.le_of_ble_eq_true rfl) d_LW_element_17
theorem d_LW_state_0 : decode b_LW_state 0 = .ok (.aload_n 3, 1) := by decide +kernel
theorem d_LW_state_1 : decode b_LW_state 1 = .ok (.iconst 0, 1) := by decide +kernel
theorem d_LW_state_2 : decode b_LW_state 2 = .ok (.aload_n 0, 1) := by decide +kernel
theorem d_LW_state_3 : decode b_LW_state 3 = .ok (.iload_n 1, 1) := by decide +kernel
theorem d_LW_state_4 : decode b_LW_state 4 = .ok (.iload_n 2, 1) := by decide +kernel
theorem d_LW_state_5 : decode b_LW_state 5 = .ok (.invokevirtual 23, 3) := by decide +kernel
theorem d_LW_state_12 : decode b_LW_state 12 = .ok (.astore 4, 2) := by decide +kernel
theorem d_LW_state_14 : decode b_LW_state 14 = .ok (.iconst 1, 1) := by decide +kernel
theorem d_LW_state_15 : decode b_LW_state 15 = .ok (.ireturn, 1) := by decide +kernel
set_option maxHeartbeats 4000000 in
set_option maxRecDepth 100000 in
theorem h_stateT (l : Launch) (hl9 : l.stackTraces = false) (dC : Nat → ClassId) (dI : Nat → Nat → Nat) (ca : Nat → ClassId) (h0 : Nat) (q : Nat → Nat) (s0 i : Int32) (hc : ¬ ((¬ s0 < 0 ∧ ¬ 1 < s0) ∧ (¬ i < 0 ∧ i ≤ 8))) (o : Nat) : CTw l classes (dC, dI) (lE dC dI ca) lk y_LW_state b_LW_state 5 (some .int) [(0, 9, 12, 13)] 7 106 1 6 [.ref h0, .int s0, .int i, .ref o] [(h0, .inr (7, sF q 0))] (fun (v : Option Value) (_ : Unit) => v = some (.int 1)) (fun (_ : Unit) => []) := by
  refine ax_ofw (by decide) (Nat.le_of_ble_eq_true rfl) ?_
  intro p e s m below meth c A ls hAt htab hK hP hD hS hA hl
  obtain ⟨hx, hb, hr, hml, hown, hts, hlocks, hin⟩ := hAt
  obtain ⟨hK, hNc⟩ := hK
  have hl : lv_has ls 5 [(0, .ref h0), (1, .int s0), (2, .int i), (3, .ref o)] := hl
  refine lv_aload_n hx hb d_LW_state_0 rfl (lv_at hl 3 rfl) ?_
  refine lv_iconst (v := 0) hx hb d_LW_state_1 (by decide) ?_
  refine lv_aload_n hx hb d_LW_state_2 rfl (lv_at hl 0 rfl) ?_
  refine lv_iload_n hx hb d_LW_state_3 rfl (lv_at hl 1 rfl) ?_
  refine lv_iload_n hx hb d_LW_state_4 rfl (lv_at hl 2 rfl) ?_
  refine ax_VCE (Cx := "java/lang/IndexOutOfBoundsException") (hpc := 12) (mc := 1) (ms := 6) (rest := [.int 0, .ref o]) (wr := []) (fun T hT X => ax_runVE (Z := sk) (ci := 7) (q0 := 0) (k := 2) (As := [.int s0, .int i]) (rest := [.int 0, .ref o]) (wr := []) rfl hx hb hml hown hts g_sk sk_lk (sE_bl dC dI ca) (c_SS_stateT l hl9 dC dI ca h0 q s0 i hc) xl_34 xs_311 xs_0 xs_313 xs_312 (by decide +kernel) rfl (Nat.le_of_ble_eq_true rfl) (Nat.le_of_ble_eq_true rfl) hl.1 (Nat.le_of_ble_eq_true rfl) (sE_up hK (fun q cell h _ => h)) hK.1.1 hP hD hS hA rfl rfl [0] [] rfl (by decide) rfl rfl (by decide) (by decide) (Nat.le_of_ble_eq_true rfl) (Nat.le_of_ble_eq_true rfl) d_LW_state_5 T hT X) ?_ (fun x H locs hP hD hS => ?_)
  · exact fun x T' locs1 hx9 X' => by
      obtain ⟨ce, g1, g2, g3⟩ := hx9
      exact ax_fnd1 X' htab ⟨by decide, by decide⟩ (by decide) hown (hts _ xl_23) g1 g2 g3
  · refine lv_astore (lv' := [(4, .ref x), (0, .ref h0), (1, .int s0), (2, .int i), (3, .ref o)]) hx hb d_LW_state_12 hl (by decide) rfl (fun ls hl => ?_)
    refine lv_iconst (v := 1) hx hb d_LW_state_14 (by decide) ?_
    exact ax_iret hx hb hr hlocks hP hD hS () rfl [] rfl (by decide) rfl (Nat.le_of_ble_eq_true rfl) (Nat.le_of_ble_eq_true rfl) d_LW_state_15
theorem d_LW_steps_0 : decode b_LW_steps 0 = .ok (.aload_n 3, 1) := by decide +kernel
theorem d_LW_steps_1 : decode b_LW_steps 1 = .ok (.iconst 0, 1) := by decide +kernel
theorem d_LW_steps_2 : decode b_LW_steps 2 = .ok (.aload_n 0, 1) := by decide +kernel
theorem d_LW_steps_3 : decode b_LW_steps 3 = .ok (.iload_n 1, 1) := by decide +kernel
theorem d_LW_steps_4 : decode b_LW_steps 4 = .ok (.iload_n 2, 1) := by decide +kernel
theorem d_LW_steps_5 : decode b_LW_steps 5 = .ok (.invokevirtual 15, 3) := by decide +kernel
theorem d_LW_steps_13 : decode b_LW_steps 13 = .ok (.astore 4, 2) := by decide +kernel
theorem d_LW_steps_15 : decode b_LW_steps 15 = .ok (.iconst 1, 1) := by decide +kernel
theorem d_LW_steps_16 : decode b_LW_steps 16 = .ok (.ireturn, 1) := by decide +kernel
set_option maxHeartbeats 4000000 in
set_option maxRecDepth 100000 in
theorem h_steps1 (l : Launch) (hl9 : l.stackTraces = false) (dC : Nat → ClassId) (dI : Nat → Nat → Nat) (ca : Nat → ClassId) (h0 : Nat) (q : Nat → Nat) (s0 i : Int32) (hc : ¬ ((¬ s0 < 0 ∧ ¬ 1 < s0) ∧ (¬ i < 1 ∧ i ≤ 4000))) (o : Nat) : CTw l classes (dC, dI) (lE dC dI ca) lk y_LW_steps b_LW_steps 5 (some .int) [(0, 10, 13, 19), (0, 10, 17, 21)] 7 106 1 6 [.ref h0, .int s0, .int i, .ref o] [(h0, .inr (7, sF q 0))] (fun (v : Option Value) (_ : Unit) => v = some (.int 1)) (fun (_ : Unit) => []) := by
  refine ax_ofw (by decide) (Nat.le_of_ble_eq_true rfl) ?_
  intro p e s m below meth c A ls hAt htab hK hP hD hS hA hl
  obtain ⟨hx, hb, hr, hml, hown, hts, hlocks, hin⟩ := hAt
  obtain ⟨hK, hNc⟩ := hK
  have hl : lv_has ls 5 [(0, .ref h0), (1, .int s0), (2, .int i), (3, .ref o)] := hl
  refine lv_aload_n hx hb d_LW_steps_0 rfl (lv_at hl 3 rfl) ?_
  refine lv_iconst (v := 0) hx hb d_LW_steps_1 (by decide) ?_
  refine lv_aload_n hx hb d_LW_steps_2 rfl (lv_at hl 0 rfl) ?_
  refine lv_iload_n hx hb d_LW_steps_3 rfl (lv_at hl 1 rfl) ?_
  refine lv_iload_n hx hb d_LW_steps_4 rfl (lv_at hl 2 rfl) ?_
  refine ax_VCE (Cx := "java/lang/IllegalArgumentException") (hpc := 13) (mc := 1) (ms := 6) (rest := [.int 0, .ref o]) (wr := []) (fun T hT X => ax_runVE (Z := sk) (ci := 7) (q0 := 0) (k := 2) (As := [.int s0, .int i]) (rest := [.int 0, .ref o]) (wr := []) rfl hx hb hml hown hts g_sk sk_lk (sE_bl dC dI ca) (c_SS_steps1 l hl9 dC dI ca h0 q s0 i hc) xl_30 xs_304 xs_0 xs_306 xs_305 (by decide +kernel) rfl (Nat.le_of_ble_eq_true rfl) (Nat.le_of_ble_eq_true rfl) hl.1 (Nat.le_of_ble_eq_true rfl) (sE_up hK (fun q cell h _ => h)) hK.1.1 hP hD hS hA rfl rfl [0] [] rfl (by decide) rfl rfl (by decide) (by decide) (Nat.le_of_ble_eq_true rfl) (Nat.le_of_ble_eq_true rfl) d_LW_steps_5 T hT X) ?_ (fun x H locs hP hD hS => ?_)
  · exact fun x T' locs1 hx9 X' => by
      obtain ⟨ce, g1, g2, g3⟩ := hx9
      exact ax_fnd1 X' htab ⟨by decide, by decide⟩ (by decide) hown (hts _ xl_28) g1 g2 g3
  · refine lv_astore (lv' := [(4, .ref x), (0, .ref h0), (1, .int s0), (2, .int i), (3, .ref o)]) hx hb d_LW_steps_13 hl (by decide) rfl (fun ls hl => ?_)
    refine lv_iconst (v := 1) hx hb d_LW_steps_15 (by decide) ?_
    exact ax_iret hx hb hr hlocks hP hD hS () rfl [] rfl (by decide) rfl (Nat.le_of_ble_eq_true rfl) (Nat.le_of_ble_eq_true rfl) d_LW_steps_16
theorem d_LW_steps_17 : decode b_LW_steps 17 = .ok (.astore 4, 2) := by decide +kernel
theorem d_LW_steps_19 : decode b_LW_steps 19 = .ok (.iconst 2, 1) := by decide +kernel
theorem d_LW_steps_20 : decode b_LW_steps 20 = .ok (.ireturn, 1) := by decide +kernel
set_option maxHeartbeats 4000000 in
set_option maxRecDepth 100000 in
theorem h_steps2 (l : Launch) (hl9 : l.stackTraces = false) (dC : Nat → ClassId) (dI : Nat → Nat → Nat) (ca : Nat → ClassId) (h0 : Nat) (q : Nat → Nat) (a b : Nat) (r0 r1 : Nat → Nat) (s0 i : Int32) (hc : (¬ s0 < 0 ∧ ¬ 1 < s0) ∧ (¬ i < 1 ∧ i ≤ 4000)) (o : Nat) : CTw l classes (dC, dI) (lE dC dI ca) lk y_LW_steps b_LW_steps 5 (some .int) [(0, 10, 13, 19), (0, 10, 17, 21)] 7 106 1 6 [.ref h0, .int s0, .int i, .ref o] [(h0, .inr (7, sF q 0)), (q 7, .inl (ca 5, 2, .inr (.inr (.inr (.inr (va_up (va_up (fun _ => none) 0 (some a)) 1 (some b))))))), (a, .inr (17, sD r0)), (b, .inr (17, sD r1))] (fun (v : Option Value) (_ : Unit) => v = some (.int 2)) (fun (_ : Unit) => []) := by
  refine ax_ofw (by decide) (Nat.le_of_ble_eq_true rfl) ?_
  intro p e s m below meth c A ls hAt htab hK hP hD hS hA hl
  obtain ⟨hx, hb, hr, hml, hown, hts, hlocks, hin⟩ := hAt
  obtain ⟨hK, hNc⟩ := hK
  have hl : lv_has ls 5 [(0, .ref h0), (1, .int s0), (2, .int i), (3, .ref o)] := hl
  refine lv_aload_n hx hb d_LW_steps_0 rfl (lv_at hl 3 rfl) ?_
  refine lv_iconst (v := 0) hx hb d_LW_steps_1 (by decide) ?_
  refine lv_aload_n hx hb d_LW_steps_2 rfl (lv_at hl 0 rfl) ?_
  refine lv_iload_n hx hb d_LW_steps_3 rfl (lv_at hl 1 rfl) ?_
  refine lv_iload_n hx hb d_LW_steps_4 rfl (lv_at hl 2 rfl) ?_
  refine ax_VCE (Cx := "java/lang/IllegalStateException") (hpc := 17) (mc := 1) (ms := 6) (rest := [.int 0, .ref o]) (wr := []) (fun T hT X => ax_runVE (Z := sk) (ci := 7) (q0 := 0) (k := 2) (As := [.int s0, .int i]) (rest := [.int 0, .ref o]) (wr := []) rfl hx hb hml hown hts g_sk sk_lk (sE_bl dC dI ca) (c_SS_steps2 l hl9 dC dI ca h0 q a b r0 r1 s0 i hc) xl_30 xs_304 xs_0 xs_306 xs_305 (by decide +kernel) rfl (Nat.le_of_ble_eq_true rfl) (Nat.le_of_ble_eq_true rfl) hl.1 (Nat.le_of_ble_eq_true rfl) (sE_up hK (fun q cell h _ => h)) hK.1.1 hP hD hS hA rfl rfl [0, 1, 2, 3] [] rfl (by decide) rfl rfl (by decide) (by decide) (Nat.le_of_ble_eq_true rfl) (Nat.le_of_ble_eq_true rfl) d_LW_steps_5 T hT X) ?_ (fun x H locs hP hD hS => ?_)
  · exact fun x T' locs1 hx9 X' => by
      obtain ⟨ce, g1, g2, g3⟩ := hx9
      exact ax_fnd2 X' htab ⟨by decide, by decide⟩ ⟨by decide, by decide⟩ (by decide) (by decide) hown (hts _ xl_28) (hts _ xl_29) g1 g2 g3 hNc
  · refine lv_astore (lv' := [(4, .ref x), (0, .ref h0), (1, .int s0), (2, .int i), (3, .ref o)]) hx hb d_LW_steps_17 hl (by decide) rfl (fun ls hl => ?_)
    refine lv_iconst (v := 2) hx hb d_LW_steps_19 (by decide) ?_
    exact ax_iret hx hb hr hlocks hP hD hS () rfl [] rfl (by decide) rfl (Nat.le_of_ble_eq_true rfl) (Nat.le_of_ble_eq_true rfl) d_LW_steps_20
theorem d_LW_state_8 : decode b_LW_state 8 = .ok (.lastore, 1) := by decide +kernel
theorem d_LW_state_9 : decode b_LW_state 9 = .ok (.goto 7, 3) := by decide +kernel
theorem d_LW_state_16 : decode b_LW_state 16 = .ok (.iconst 0, 1) := by decide +kernel
theorem d_LW_state_17 : decode b_LW_state 17 = .ok (.ireturn, 1) := by decide +kernel
set_option maxHeartbeats 4000000 in
set_option maxRecDepth 100000 in
theorem h_state (l : Launch) (dC : Nat → ClassId) (dI : Nat → Nat → Nat) (ca : Nat → ClassId) (h0 : Nat) (q : Nat → Nat) (a b : Nat) (r0 r1 : Nat → Nat) (s0 i : Int32) (hc : (¬ s0 < 0 ∧ ¬ 1 < s0) ∧ (¬ i < 0 ∧ i ≤ 8)) (o : Nat) : CTw l classes (dC, dI) (lE dC dI ca) lk y_LW_state b_LW_state 5 (some .int) [(0, 9, 12, 13)] 2 45 0 0 [.ref h0, .int s0, .int i, .ref o] [(h0, .inr (7, sF q 0)), (q 7, .inl (ca 5, 2, .inr (.inr (.inr (.inr (va_up (va_up (fun _ => none) 0 (some a)) 1 (some b))))))), (a, .inr (17, sD r0)), (b, .inr (17, sD r1)), (o, .inl (ca 2, 1, .inr (.inl (fun _ => 0))))] (fun (v : Option Value) (_ : Unit) => v = some (.int 0)) (fun (_ : Unit) => [(o, .inl (ca 2, 1, .inr (.inl (vp_updL (fun _ => 0) (Int32.toNatClampNeg 0) (tdV i)))))]) := by
  refine ax_ofw (by decide) (Nat.le_of_ble_eq_true rfl) ?_
  intro p e s m below meth c A ls hAt htab hK hP hD hS hA hl
  obtain ⟨hx, hb, hr, hml, hown, hts, hlocks, hin⟩ := hAt
  obtain ⟨⟨hK, -⟩, -⟩ := hK
  have hl : lv_has ls 5 [(0, .ref h0), (1, .int s0), (2, .int i), (3, .ref o)] := hl
  refine lv_aload_n hx hb d_LW_state_0 rfl (lv_at hl 3 rfl) ?_
  refine lv_iconst (v := 0) hx hb d_LW_state_1 (by decide) ?_
  refine lv_aload_n hx hb d_LW_state_2 rfl (lv_at hl 0 rfl) ?_
  refine lv_iload_n hx hb d_LW_state_3 rfl (lv_at hl 1 rfl) ?_
  refine lv_iload_n hx hb d_LW_state_4 rfl (lv_at hl 2 rfl) ?_
  refine ax_Vb (Z := sk) (ci := 7) (q0 := 0) (k := 2) (As := [.int s0, .int i]) (rest := [.int 0, .ref o]) (wr := [(o, .inl (ca 2, 1, .inr (.inl (fun _ => 0))))]) rfl hx hb hml hown hts g_sk sk_lk (sK_bl dC dI ca) (c_SS_state l dC dI ca h0 q a b r0 r1 s0 i hc) xl_34 xs_311 xs_0 xs_313 xs_312 (by decide +kernel) rfl (Nat.le_of_ble_eq_true rfl) (Nat.le_of_ble_eq_true rfl) hl.1 (Nat.le_of_ble_eq_true rfl) (sK_up hK) hK.1 hP hD hS hA rfl rfl [0, 1, 2, 3] [4] rfl (by decide) rfl rfl (by decide) (by decide) (Nat.le_of_ble_eq_true rfl) (Nat.le_of_ble_eq_true rfl) d_LW_state_5 (fun v _ H locs hp hP hD hS => ?_)
  obtain rfl : v = some (.long (tdV i)) := hp
  have hP : va_P (dC, dI) classes [(o, .inl (ca 2, 1, .inr (.inl (fun _ => 0)))), (h0, .inr (7, sF q 0))] H := hP
  have hD : va_D A [(o, .inl (ca 2, 1, .inr (.inl (fun _ => 0)))), (h0, .inr (7, sF q 0))] := hD
  refine W.eq (g2 := F0 m 8 ls [.long (tdV i), .int 0, .ref o]) rfl ?_
  refine va_last hx hb hK.1 hP hD hS 0 2 rfl rfl (by unfold vp_in; decide) d_LW_state_8 (fun H locs hP hD hS => ?_)
  have hP : va_P (dC, dI) classes [(o, .inl (ca 2, 1, .inr (.inl (vp_updL (fun _ => 0) (Int32.toNatClampNeg 0) (tdV i))))), (h0, .inr (7, sF q 0))] H := hP
  have hD : va_D A [(o, .inl (ca 2, 1, .inr (.inl (vp_updL (fun _ => 0) (Int32.toNatClampNeg 0) (tdV i))))), (h0, .inr (7, sF q 0))] := hD
  refine lv_goto (tgt := 16) hx hb d_LW_state_9 (by decide) ?_
  refine lv_iconst (v := 0) hx hb d_LW_state_16 (by decide) ?_
  exact ax_iret hx hb hr hlocks hP hD hS () rfl [0] rfl (by decide) rfl (Nat.le_of_ble_eq_true rfl) (Nat.le_of_ble_eq_true rfl) d_LW_state_17
