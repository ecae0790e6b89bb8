theorem d_law_0 : decode code 0 = .ok (.new 8, 3) := by decide +kernel
theorem d_law_3 : decode code 3 = .ok (.dup, 1) := by decide +kernel
theorem d_law_4 : decode code 4 = .ok (.invokespecial 33, 3) := by decide +kernel
theorem d_law_7 : decode code 7 = .ok (.astore_n 1, 1) := by decide +kernel
theorem d_law_8 : decode code 8 = .ok (.new 34, 3) := by decide +kernel
theorem d_law_11 : decode code 11 = .ok (.dup, 1) := by decide +kernel
theorem d_law_12 : decode code 12 = .ok (.invokespecial 36, 3) := by decide +kernel
theorem d_law_15 : decode code 15 = .ok (.astore_n 2, 1) := by decide +kernel
theorem d_law_16 : decode code 16 = .ok (.iconst 1, 1) := by decide +kernel
theorem d_law_17 : decode code 17 = .ok (.newarray .long, 2) := by decide +kernel
theorem d_law_19 : decode code 19 = .ok (.astore_n 3, 1) := by decide +kernel
theorem d_law_20 : decode code 20 = .ok (.iconst 0, 1) := by decide +kernel
theorem d_law_21 : decode code 21 = .ok (.istore 4, 2) := by decide +kernel
theorem d_law_23 : decode code 23 = .ok (.iload 4, 2) := by decide +kernel
theorem d_law_25 : decode code 25 = .ok (.aload_n 0, 1) := by decide +kernel
theorem d_law_26 : decode code 26 = .ok (.arraylength, 1) := by decide +kernel
theorem d_law_27 : decode code 27 = .ok (.bipush 8, 2) := by decide +kernel
theorem d_law_29 : decode code 29 = .ok (.isub, 1) := by decide +kernel
theorem d_law_30 : decode code 30 = .ok (.if_icmp .gt 1303, 3) := by decide +kernel
theorem d_law_33 : decode code 33 = .ok (.aload_n 0, 1) := by decide +kernel
theorem d_law_34 : decode code 34 = .ok (.iload 4, 2) := by decide +kernel
theorem d_law_36 : decode code 36 = .ok (.iaload, 1) := by decide +kernel
theorem d_law_37 : decode code 37 = .ok (.bipush 31, 2) := by decide +kernel
theorem d_law_39 : decode code 39 = .ok (.iand, 1) := by decide +kernel
theorem d_law_40 : decode code 40 = .ok (.tableswitch 1287 0 21 #[104, 173, 186, 223, 272, 351, 400, 461, 522, 583, 632, 657, 694, 719, 768, 817, 958, 1026, 1093, 1172, 1251, 1262], 104) := by decide +kernel
theorem d_law_1327 : decode code 1327 = .ok (.iinc 4 8, 3) := by decide +kernel
theorem d_law_1330 : decode code 1330 = .ok (.goto (-1307), 3) := by decide +kernel
theorem d_law_1333 : decode code 1333 = .ok (.iconst 1, 1) := by decide +kernel
theorem d_law_1334 : decode code 1334 = .ok (.ireturn, 1) := by decide +kernel
theorem sw_21 (x : Int32) : x = 0 ∨ x = 1 ∨ x = 2 ∨ x = 3 ∨ x = 4 ∨ x = 5 ∨ x = 6 ∨ x = 7 ∨ x = 8 ∨ x = 9 ∨ x = 10 ∨ x = 11 ∨ x = 12 ∨ x = 13 ∨ x = 14 ∨ x = 15 ∨ x = 16 ∨ x = 17 ∨ x = 18 ∨ x = 19 ∨ x = 20 ∨ x = 21 ∨ (x.toInt < 0 ∨ 21 < x.toInt) := by
  by_cases h0 : x = 0
  · exact Or.inl h0
  by_cases h1 : x = 1
  · exact Or.inr (Or.inl h1)
  by_cases h2 : x = 2
  · exact Or.inr (Or.inr (Or.inl h2))
  by_cases h3 : x = 3
  · exact Or.inr (Or.inr (Or.inr (Or.inl h3)))
  by_cases h4 : x = 4
  · exact Or.inr (Or.inr (Or.inr (Or.inr (Or.inl h4))))
  by_cases h5 : x = 5
  · exact Or.inr (Or.inr (Or.inr (Or.inr (Or.inr (Or.inl h5)))))
  by_cases h6 : x = 6
  · exact Or.inr (Or.inr (Or.inr (Or.inr (Or.inr (Or.inr (Or.inl h6))))))
  by_cases h7 : x = 7
  · exact Or.inr (Or.inr (Or.inr (Or.inr (Or.inr (Or.inr (Or.inr (Or.inl h7)))))))
  by_cases h8 : x = 8
  · exact Or.inr (Or.inr (Or.inr (Or.inr (Or.inr (Or.inr (Or.inr (Or.inr (Or.inl h8))))))))
  by_cases h9 : x = 9
  · exact Or.inr (Or.inr (Or.inr (Or.inr (Or.inr (Or.inr (Or.inr (Or.inr (Or.inr (Or.inl h9)))))))))
  by_cases h10 : x = 10
  · exact Or.inr (Or.inr (Or.inr (Or.inr (Or.inr (Or.inr (Or.inr (Or.inr (Or.inr (Or.inr (Or.inl h10))))))))))
  by_cases h11 : x = 11
  · exact Or.inr (Or.inr (Or.inr (Or.inr (Or.inr (Or.inr (Or.inr (Or.inr (Or.inr (Or.inr (Or.inr (Or.inl h11)))))))))))
  by_cases h12 : x = 12
  · exact Or.inr (Or.inr (Or.inr (Or.inr (Or.inr (Or.inr (Or.inr (Or.inr (Or.inr (Or.inr (Or.inr (Or.inr (Or.inl h12))))))))))))
  by_cases h13 : x = 13
  · exact Or.inr (Or.inr (Or.inr (Or.inr (Or.inr (Or.inr (Or.inr (Or.inr (Or.inr (Or.inr (Or.inr (Or.inr (Or.inr (Or.inl h13)))))))))))))
  by_cases h14 : x = 14
  · exact Or.inr (Or.inr (Or.inr (Or.inr (Or.inr (Or.inr (Or.inr (Or.inr (Or.inr (Or.inr (Or.inr (Or.inr (Or.inr (Or.inr (Or.inl h14))))))))))))))
  by_cases h15 : x = 15
  · exact Or.inr (Or.inr (Or.inr (Or.inr (Or.inr (Or.inr (Or.inr (Or.inr (Or.inr (Or.inr (Or.inr (Or.inr (Or.inr (Or.inr (Or.inr (Or.inl h15)))))))))))))))
  by_cases h16 : x = 16
  · exact Or.inr (Or.inr (Or.inr (Or.inr (Or.inr (Or.inr (Or.inr (Or.inr (Or.inr (Or.inr (Or.inr (Or.inr (Or.inr (Or.inr (Or.inr (Or.inr (Or.inl h16))))))))))))))))
  by_cases h17 : x = 17
  · exact Or.inr (Or.inr (Or.inr (Or.inr (Or.inr (Or.inr (Or.inr (Or.inr (Or.inr (Or.inr (Or.inr (Or.inr (Or.inr (Or.inr (Or.inr (Or.inr (Or.inr (Or.inl h17)))))))))))))))))
  by_cases h18 : x = 18
  · exact Or.inr (Or.inr (Or.inr (Or.inr (Or.inr (Or.inr (Or.inr (Or.inr (Or.inr (Or.inr (Or.inr (Or.inr (Or.inr (Or.inr (Or.inr (Or.inr (Or.inr (Or.inr (Or.inl h18))))))))))))))))))
  by_cases h19 : x = 19
  · exact Or.inr (Or.inr (Or.inr (Or.inr (Or.inr (Or.inr (Or.inr (Or.inr (Or.inr (Or.inr (Or.inr (Or.inr (Or.inr (Or.inr (Or.inr (Or.inr (Or.inr (Or.inr (Or.inr (Or.inl h19)))))))))))))))))))
  by_cases h20 : x = 20
  · exact Or.inr (Or.inr (Or.inr (Or.inr (Or.inr (Or.inr (Or.inr (Or.inr (Or.inr (Or.inr (Or.inr (Or.inr (Or.inr (Or.inr (Or.inr (Or.inr (Or.inr (Or.inr (Or.inr (Or.inr (Or.inl h20))))))))))))))))))))
  by_cases h21 : x = 21
  · exact Or.inr (Or.inr (Or.inr (Or.inr (Or.inr (Or.inr (Or.inr (Or.inr (Or.inr (Or.inr (Or.inr (Or.inr (Or.inr (Or.inr (Or.inr (Or.inr (Or.inr (Or.inr (Or.inr (Or.inr (Or.inr (Or.inl h21)))))))))))))))))))))
  have e0 : x.toInt ≠ 0 := fun h => h0 (Int32.toInt_inj.mp (h.trans (by decide)))
  have e1 : x.toInt ≠ 1 := fun h => h1 (Int32.toInt_inj.mp (h.trans (by decide)))
  have e2 : x.toInt ≠ 2 := fun h => h2 (Int32.toInt_inj.mp (h.trans (by decide)))
  have e3 : x.toInt ≠ 3 := fun h => h3 (Int32.toInt_inj.mp (h.trans (by decide)))
  have e4 : x.toInt ≠ 4 := fun h => h4 (Int32.toInt_inj.mp (h.trans (by decide)))
  have e5 : x.toInt ≠ 5 := fun h => h5 (Int32.toInt_inj.mp (h.trans (by decide)))
  have e6 : x.toInt ≠ 6 := fun h => h6 (Int32.toInt_inj.mp (h.trans (by decide)))
  have e7 : x.toInt ≠ 7 := fun h => h7 (Int32.toInt_inj.mp (h.trans (by decide)))
  have e8 : x.toInt ≠ 8 := fun h => h8 (Int32.toInt_inj.mp (h.trans (by decide)))
  have e9 : x.toInt ≠ 9 := fun h => h9 (Int32.toInt_inj.mp (h.trans (by decide)))
  have e10 : x.toInt ≠ 10 := fun h => h10 (Int32.toInt_inj.mp (h.trans (by decide)))
  have e11 : x.toInt ≠ 11 := fun h => h11 (Int32.toInt_inj.mp (h.trans (by decide)))
  have e12 : x.toInt ≠ 12 := fun h => h12 (Int32.toInt_inj.mp (h.trans (by decide)))
  have e13 : x.toInt ≠ 13 := fun h => h13 (Int32.toInt_inj.mp (h.trans (by decide)))
  have e14 : x.toInt ≠ 14 := fun h => h14 (Int32.toInt_inj.mp (h.trans (by decide)))
  have e15 : x.toInt ≠ 15 := fun h => h15 (Int32.toInt_inj.mp (h.trans (by decide)))
  have e16 : x.toInt ≠ 16 := fun h => h16 (Int32.toInt_inj.mp (h.trans (by decide)))
  have e17 : x.toInt ≠ 17 := fun h => h17 (Int32.toInt_inj.mp (h.trans (by decide)))
  have e18 : x.toInt ≠ 18 := fun h => h18 (Int32.toInt_inj.mp (h.trans (by decide)))
  have e19 : x.toInt ≠ 19 := fun h => h19 (Int32.toInt_inj.mp (h.trans (by decide)))
  have e20 : x.toInt ≠ 20 := fun h => h20 (Int32.toInt_inj.mp (h.trans (by decide)))
  have e21 : x.toInt ≠ 21 := fun h => h21 (Int32.toInt_inj.mp (h.trans (by decide)))
  exact Or.inr (Or.inr (Or.inr (Or.inr (Or.inr (Or.inr (Or.inr (Or.inr (Or.inr (Or.inr (Or.inr (Or.inr (Or.inr (Or.inr (Or.inr (Or.inr (Or.inr (Or.inr (Or.inr (Or.inr (Or.inr (Or.inr (by omega))))))))))))))))))))))
theorem l_len8 {hf : List Value} (h : hf.length = 8) : ∃ x0 x1 x2 x3 x4 x5 x6 x7, hf = [x0, x1, x2, x3, x4, x5, x6, x7] := by
  match hf, h with
  | [x0, x1, x2, x3, x4, x5, x6, x7], _ => exact ⟨x0, x1, x2, x3, x4, x5, x6, x7, rfl⟩
theorem l_short : ∀ L : Nat, L < 8 → Int32.ofNat L - 8 < 0 := by decide
theorem kM_bl (dC : Nat → ClassId) (dI : Nat → Nat → Nat) (ca : Nat → ClassId) (sa : Nat → Nat) (h0 : Nat) : ax_bl (kM dC dI ca sa h0) := by
  intro U g mk a h
  obtain ⟨h1, h2, h3⟩ := h
  refine ⟨mK_bl dC dI ca U g mk a h1, kA_up hA_stay hA_st (s := U) (U := U.calling g mk a) (State.WarmedH.refl U) (fun _ _ h _ => h) h2, fun i z hz => ?_⟩
  obtain ⟨g1, g2, g3⟩ := h3 i z hz
  exact ⟨vk_R.same (u := U) rfl g1, g2, g3⟩
theorem kM_up {dC : Nat → ClassId} {dI : Nat → Nat → Nat} {ca : Nat → ClassId} {sa : Nat → Nat} {h0 : Nat} {s : State} {A : Nat → Prop} {H : Heap} {locs : List Loc} (hK : mK dC dI ca s) (hh : kA hAtoms s) (hsa : ∀ (i : Nat) (z : Nat × String), strs[i]? = some z → vk_R R_MM z.1 z.2 (sa i) s ∧ va_Any "java/lang/String" s s.heap (sa i)) (hS : va_S A s.heap H locs) (hAs : ∀ q : Nat, A q → s.heap.size ≤ q) (hm : s.heap.size ≤ h0) : ∀ U : State, U.heap = H → s.WarmedH U.vm → kM dC dI ca sa h0 U := by
  intro U hU hW
  refine ⟨mK_up hK U hU hW, kA_up hA_stay hA_st hW (fun q cell g1 g2 => by rw [hU]; exact l_st hS hAs q cell g1 g2) hh, fun i z hz => ?_⟩
  obtain ⟨g1, cell, g2, g3, ⟨kC, g4⟩, g5⟩ := hsa i z hz
  have hlt := (Array.getElem?_eq_some_iff.mp g2).1
  obtain ⟨k2, g6, -⟩ := hW.alike.2.2 _ _ g4
  refine ⟨vk_R.warm hW g1, ⟨cell, ?_, g3, ⟨k2, g6⟩, fun comp hc => ?_⟩, ?_⟩
  · rw [hU, hS.2.1 _ hlt (fun h9 => absurd (hAs _ h9) (Nat.not_le.mpr hlt))]
    exact g2
  · rw [hW.alike.findClass] at hc
    rw [hW.alike.assignable]
    exact g5 comp hc
  · intro h9
    rw [h9] at hlt
    exact absurd hm (Nat.not_le.mpr hlt)
def lw_P (b : Addr) (xs : List Int32) (args : Array Value) (s : State) : Prop := args = #[.ref b] ∧ s.IntsAt b xs ∧ xs.length ≤ 8 ∧ (Jvm.Cond.and given_1 narrow_1).before args s = true
def lw_Q (_ : Array Value) (s : State) (o : Outcome) (t : State) : Prop := o = .returned (some (.int 1)) ∧ Framed s o t [] 600002 7302232
def lw_Z (below : List Frame) (a : Array Value) (s : State) : State → Prop := fun t => ∃ o, t.status = .running ∧ Ended t below o ∧ lw_Q a s o t
/-- the law's own end -/
theorem lw_ret {p : Program} {l : Launch} {e : Env} {s : State} {m : MethodId} {below : List Frame} {meth : Method} {c : Code} {b : Nat} (hx : p.tables.exec = Jvm.exec) (hb : c.code = code) (hr : meth.sig.returnType = ret) (hlocks : meth.locks = false) {pc : Nat} {H : Heap} {ls : Array Slot} (hdg : decode code pc = .ok (.ireturn, 1)) : W p l e room_1 s m #[Value.ref b] below meth c H [] 600002 7302232 (lw_Z below #[Value.ref b] s) (F0 m pc ls [.int 1]) := by
  intro T hT X
  obtain ⟨fs, hret, hrun, hended, hW, hframe⟩ := X.leave (v := some (.int 1)) (hlocks := hlocks) (fun h => by rw [hr] at h; cases h)
  have hmeth' : T.vm.method? m = some meth := X.method'
  refine ⟨T.setFrames fs, ?_, .returned (some (.int 1)), hrun, hended, rfl, ⟨_, rfl⟩, hW, hframe⟩
  jvm_step X.here [X.here.top, hx, hb, hdg, hmeth', hr, ret, narrow_b1]
  (try refine ⟨rfl, ?_⟩); (try refine ⟨rfl, ?_⟩)
  first | (intro acts; rw [hret _ acts rfl rfl rfl]) | rw [hret _ _ rfl rfl rfl]
  exact Steps.refl _
def lw_At (p : Program) (s : State) (m : MethodId) (meth : Method) (c : Code) (b L : Nat) (xs : Nat → Int32) : Prop :=
  p.tables.exec = Jvm.exec ∧ c.code = code ∧ meth.sig.returnType = ret ∧ c.maxLocals = 8 ∧ s.vm.findClass R_LW = some m.cls ∧ (∀ w ∈ lw_tbl, w.before #[Value.ref b] s = true) ∧ va_X b L xs s s.heap ∧ b < s.heap.size ∧ meth.locks = false ∧ (Jvm.Cond.and given_1 narrow_1).before #[Value.ref b] s = true
/-- out of the loop, with true -/
theorem lw_out {p : Program} {l : Launch} {e : Env} {s : State} {m : MethodId} {below : List Frame} {meth : Method} {c : Code} {b : Nat} {A : Nat → Prop} {H : Heap} {locs : List Loc} {ls : Array Slot} (hx : p.tables.exec = Jvm.exec) (hb : c.code = code) (hr : meth.sig.returnType = ret) (hlocks : meth.locks = false) (hS : va_S A s.heap H locs) (hAs : ∀ q : Nat, A q → s.heap.size ≤ q) : W p l e room_1 s m #[Value.ref b] below meth c H locs 300 650000 (lw_Z below #[Value.ref b] s) (F0 m 1333 ls []) := by
  refine va_forget (fun q hq => hAs _ (hS.2.2 q hq)) ?_
  refine W.widen (k := 600002) (n := 7302232) (Nat.le_of_ble_eq_true rfl) (Nat.le_of_ble_eq_true rfl) ?_
  refine lv_iconst (v := 1) hx hb d_law_1333 (by decide) ?_
  exact lw_ret hx hb hr hlocks d_law_1334
set_option maxHeartbeats 40000000 in
set_option maxRecDepth 100000 in
/-- the law, from its entry -/
theorem whole_start {p : Program} {e : Env} {s : State} {m : MethodId} {below : List Frame} {meth : Method} {c : Code} (l : Launch) (hl9 : l.stackTraces = false) {b L : Nat} {xs : Nat → Int32} (hL : L ≤ 8) (C0 : lw_At p s m meth c b L xs) : W p l e room_1 s m #[Value.ref b] below meth c s.heap [] 0 0 (lw_Z below #[Value.ref b] s) (entryFrame m ([Value.ref b] : List Value).toArray 8) := by
  obtain ⟨hx, hb, hr, hml, hown, hts0, hX, hbl, hlocks, hgv⟩ := id C0
  obtain ⟨dC, dI, ca, sa, hKm, hE, hh, hsa⟩ := lw_facts hts0 hgv
  have hts : ∀ w ∈ lk, w.before #[Value.ref b] s = true := fun w h => hts0 w (in_lk w h)
  have hKs := hE.1.1
  obtain ⟨A, hAd⟩ : ∃ z : Nat → Prop, z = fun q : Nat => s.heap.size ≤ q := ⟨_, rfl⟩
  have hA : ∀ q : Nat, s.heap.size ≤ q → A q := by rw [hAd]; exact fun _ h => h
  have hAs : ∀ q : Nat, A q → s.heap.size ≤ q := by rw [hAd]; exact fun _ h => h
  have hbA : ¬ A b := fun h => absurd (hAs b h) (Nat.not_le.mpr hbl)
  clear hAd hts0 C0
  have hS : va_S A s.heap s.heap [] := va_S.rf
  have hP : va_P (dC, dI) classes [] s.heap := fun k q h => by simp at h
  have hD : va_D A [] := ⟨fun i j p q h => by simp at h, fun k q h => by simp at h⟩
  have hl := lv_entry ([.ref b]) (n := 8) (Nat.le_of_ble_eq_true rfl)
  rw [lg_entry_eq]
  generalize (lg_sl ([.ref b]) ++ List.replicate (8 - (lg_sl ([.ref b])).length) Slot.unset).toArray = ls at hl ⊢
  have hl : lv_has ls 8 [(0, .ref b)] := hl
  refine va_new (ci := 7) (fs := [.null, .int 0, .null, .int 0, .null, .null, .int 0, .null, .null, .null, .null, .null, .null, .null, .null, .null, .null, .int 0]) (C := R_SS) (T := F_SS) (N := 18) hx hb hts (fun w h => sk_lk w (i_SS w h)) t_SS t_SS_ok hown (hts _ xl_1) (hts _ (sk_lk _ xs_18)) (hts _ (sk_lk _ xs_0)) hKs.1 hP hD hS hA rfl (by decide +kernel) (Nat.le_of_ble_eq_true rfl) (Nat.le_of_ble_eq_true rfl) d_law_0 (fun xo H hP hD hS => ?_)
  have hP : va_P (dC, dI) classes [(xo, .inr (7, [.null, .int 0, .null, .int 0, .null, .null, .int 0, .null, .null, .null, .null, .null, .null, .null, .null, .null, .null, .int 0]))] H := hP
  have hD : va_D A [(xo, .inr (7, [.null, .int 0, .null, .int 0, .null, .null, .int 0, .null, .null, .null, .null, .null, .null, .null, .null, .null, .null, .int 0]))] := hD
  refine W.widen (k := 1) (n := 18) (Nat.le_of_ble_eq_true rfl) (Nat.le_of_ble_eq_true rfl) ?_
  refine lv_dup hx hb d_law_3 rfl ?_
  refine ax_Ib (Z := sk) (k := 0) (As := []) (rest := [.ref xo]) (wr := []) rfl hx hb hml hown hts g_sk sk_lk (sK_bl dC dI ca) (c_SS_init l dC dI ca xo) rfl xl_2 xs_19 xs_0 xs_20 (by decide +kernel) rfl (Nat.le_of_ble_eq_true rfl) (Nat.le_of_ble_eq_true rfl) hl.1 (Nat.le_of_ble_eq_true rfl) (sK_up hKs) hP hD hS hA [0] [] rfl (by decide) rfl rfl (by decide) (by decide) (Nat.le_of_ble_eq_true rfl) (Nat.le_of_ble_eq_true rfl) d_law_4 (fun v u H locs hp hP hD hS => ?_)
  obtain ⟨qs, d0, d1, r0, r1⟩ := u
  obtain rfl : v = none := hp
  have hP : va_P (dC, dI) classes [(xo, .inr (7, sF qs 0)), (qs 0, .inl (ca 0, 256, .inl (fun _ => 0))), (qs 4, .inl (ca 6, 160, .inr (.inr (.inr (.inr (fun _ => none)))))), (qs 7, .inl (ca 5, 2, .inr (.inr (.inr (.inr (va_up (va_up (fun _ => none) 0 (some d0)) 1 (some d1))))))), (qs 8, .inr (8, [.null, .int 0, .int 0])), (d0, .inr (17, sD r0)), (d1, .inr (17, sD r1))] H := hP
  have hD : va_D A [(xo, .inr (7, sF qs 0)), (qs 0, .inl (ca 0, 256, .inl (fun _ => 0))), (qs 4, .inl (ca 6, 160, .inr (.inr (.inr (.inr (fun _ => none)))))), (qs 7, .inl (ca 5, 2, .inr (.inr (.inr (.inr (va_up (va_up (fun _ => none) 0 (some d0)) 1 (some d1))))))), (qs 8, .inr (8, [.null, .int 0, .int 0])), (d0, .inr (17, sD r0)), (d1, .inr (17, sD r1))] := hD
  refine W.eq (g2 := F0 m 7 ls [.ref xo]) rfl ?_
  refine W.widen (k := 68) (n := 4806) (Nat.le_of_ble_eq_true rfl) (Nat.le_of_ble_eq_true rfl) ?_
  refine lv_astore_n (lv' := [(1, .ref xo), (0, .ref b)]) hx hb d_law_7 rfl hl (by decide) rfl (fun ls hl => ?_)
  refine va_new (ci := 0) (fs := [.int 0, .null, .null, .null, .null, .null, .int 0, .int 0, .int 0, .null, .null, .null, .null, .int 0, .null, .null, .int 0, .null, .null, .null, .null, .null, .null, .int 0, .int 0, .int 0, .int 0, .null, .null, .null, .null, .null, .null, .null, .int 0, .null, .null, .null, .null, .null, .null, .null, .null, .null, .null, .null, .null, .null, .null, .null, .null, .null, .null, .null, .null, .null, .null, .null, .null, .null, .null, .null, .int 0, .int 0, .null, .int 0, .int 0, .int 0, .int 0, .int 0, .null, .null, .null, .null, .int 0, .int 0, .null, .null, .null, .int 0, .null, .null, .int 0, .int 0, .int 0, .int 0, .int 0, .null, .null, .int 0, .null, .null, .int 0, .null, .null, .null, .null, .int 0, .int 0, .int 0, .int 0, .int 0, .int 0, .null, .null, .int 0, .null, .null, .null, .null, .null, .null, .null, .null, .null, .int 0, .null, .null, .null, .null, .null, .null, .null, .null, .null, .null, .null, .null, .null, .null, .int 0, .int 0]) (C := R_MM) (T := F_MM) (N := 132) hx hb hts (fun w h => wm_lk w (i_MM w h)) t_MM t_MM_ok hown (hts _ xl_43) (hts _ (wm_lk _ xm_14)) (hts _ (wm_lk _ xm_0)) hKs.1 hP hD hS hA rfl (by decide +kernel) (Nat.le_of_ble_eq_true rfl) (Nat.le_of_ble_eq_true rfl) d_law_8 (fun mo H hP hD hS => ?_)
  have hP : va_P (dC, dI) classes ([(xo, .inr (7, sF qs 0)), (qs 0, .inl (ca 0, 256, .inl (fun _ => 0))), (qs 4, .inl (ca 6, 160, .inr (.inr (.inr (.inr (fun _ => none)))))), (qs 7, .inl (ca 5, 2, .inr (.inr (.inr (.inr (va_up (va_up (fun _ => none) 0 (some d0)) 1 (some d1))))))), (qs 8, .inr (8, [.null, .int 0, .int 0])), (d0, .inr (17, sD r0)), (d1, .inr (17, sD r1))] ++ [(mo, .inr (0, [.int 0, .null, .null, .null, .null, .null, .int 0, .int 0, .int 0, .null, .null, .null, .null, .int 0, .null, .null, .int 0, .null, .null, .null, .null, .null, .null, .int 0, .int 0, .int 0, .int 0, .null, .null, .null, .null, .null, .null, .null, .int 0, .null, .null, .null, .null, .null, .null, .null, .null, .null, .null, .null, .null, .null, .null, .null, .null, .null, .null, .null, .null, .null, .null, .null, .null, .null, .null, .null, .int 0, .int 0, .null, .int 0, .int 0, .int 0, .int 0, .int 0, .null, .null, .null, .null, .int 0, .int 0, .null, .null, .null, .int 0, .null, .null, .int 0, .int 0, .int 0, .int 0, .int 0, .null, .null, .int 0, .null, .null, .int 0, .null, .null, .null, .null, .int 0, .int 0, .int 0, .int 0, .int 0, .int 0, .null, .null, .int 0, .null, .null, .null, .null, .null, .null, .null, .null, .null, .int 0, .null, .null, .null, .null, .null, .null, .null, .null, .null, .null, .null, .null, .null, .null, .int 0, .int 0]))]) H := hP
  have hD : va_D A ([(xo, .inr (7, sF qs 0)), (qs 0, .inl (ca 0, 256, .inl (fun _ => 0))), (qs 4, .inl (ca 6, 160, .inr (.inr (.inr (.inr (fun _ => none)))))), (qs 7, .inl (ca 5, 2, .inr (.inr (.inr (.inr (va_up (va_up (fun _ => none) 0 (some d0)) 1 (some d1))))))), (qs 8, .inr (8, [.null, .int 0, .int 0])), (d0, .inr (17, sD r0)), (d1, .inr (17, sD r1))] ++ [(mo, .inr (0, [.int 0, .null, .null, .null, .null, .null, .int 0, .int 0, .int 0, .null, .null, .null, .null, .int 0, .null, .null, .int 0, .null, .null, .null, .null, .null, .null, .int 0, .int 0, .int 0, .int 0, .null, .null, .null, .null, .null, .null, .null, .int 0, .null, .null, .null, .null, .null, .null, .null, .null, .null, .null, .null, .null, .null, .null, .null, .null, .null, .null, .null, .null, .null, .null, .null, .null, .null, .null, .null, .int 0, .int 0, .null, .int 0, .int 0, .int 0, .int 0, .int 0, .null, .null, .null, .null, .int 0, .int 0, .null, .null, .null, .int 0, .null, .null, .int 0, .int 0, .int 0, .int 0, .int 0, .null, .null, .int 0, .null, .null, .int 0, .null, .null, .null, .null, .int 0, .int 0, .int 0, .int 0, .int 0, .int 0, .null, .null, .int 0, .null, .null, .null, .null, .null, .null, .null, .null, .null, .int 0, .null, .null, .null, .null, .null, .null, .null, .null, .null, .null, .null, .null, .null, .null, .int 0, .int 0]))]) := hD
  have hmo : s.heap.size ≤ mo := hAs _ (hD.2 7 _ rfl)
  refine W.widen (k := 69) (n := 4938) (Nat.le_of_ble_eq_true rfl) (Nat.le_of_ble_eq_true rfl) ?_
  refine lv_dup hx hb d_law_11 rfl ?_
  refine ax_Ib (Z := wm) (K := kM dC dI ca sa mo) (k := 0) (As := []) (rest := [.ref mo]) (wr := [(xo, .inr (7, sF qs 0)), (qs 0, .inl (ca 0, 256, .inl (fun _ => 0))), (qs 4, .inl (ca 6, 160, .inr (.inr (.inr (.inr (fun _ => none)))))), (qs 7, .inl (ca 5, 2, .inr (.inr (.inr (.inr (va_up (va_up (fun _ => none) 0 (some d0)) 1 (some d1))))))), (qs 8, .inr (8, [.null, .int 0, .int 0])), (d0, .inr (17, sD r0)), (d1, .inr (17, sD r1))]) rfl hx hb hml hown hts g_wm wm_lk (kM_bl dC dI ca sa mo) (c_MM_init l hl9 dC dI ca sa mo) rfl xl_44 xm_15 xm_0 xm_16 (by decide +kernel) rfl (Nat.le_of_ble_eq_true rfl) (Nat.le_of_ble_eq_true rfl) hl.1 (Nat.le_of_ble_eq_true rfl) (kM_up hKm hh hsa hS hAs hmo) hP hD hS hA [7] [0, 1, 2, 3, 4, 5, 6] rfl (by decide) rfl rfl (by decide) (by decide) (Nat.le_of_ble_eq_true rfl) (Nat.le_of_ble_eq_true rfl) d_law_12 (fun v u H locs hp hP hD hS => ?_)
  obtain ⟨qm, hf, qa⟩ := u
  obtain ⟨rfl, h8⟩ := hp
  obtain ⟨x0, x1, x2, x3, x4, x5, x6, x7, rfl⟩ := l_len8 h8
  have hP : va_P (dC, dI) classes [(xo, .inr (7, sF qs 0)), (qs 0, .inl (ca 0, 256, .inl (fun _ => 0))), (qs 4, .inl (ca 6, 160, .inr (.inr (.inr (.inr (fun _ => none)))))), (qs 7, .inl (ca 5, 2, .inr (.inr (.inr (.inr (va_up (va_up (fun _ => none) 0 (some d0)) 1 (some d1))))))), (qs 8, .inr (8, [.null, .int 0, .int 0])), (d0, .inr (17, sD r0)), (d1, .inr (17, sD r1)), (mo, .inr (0, mF qm 0)), (qm 1, .inr (1, [x0, x1, x2, x3, x4, x5, x6, x7])), (qm 2, .inr (2, [.ref qa, .int 0])), (qa, .inl (ca 0, 16, .inl (fun _ => 0))), (qm 12, .inl (ca 4, 148, .inr (.inr (.inr (.inr (fun _ => none)))))), (qm 110, .inl (ca 1, 2, .inl (fun _ => 0))), (qm 111, .inl (ca 2, 2, .inr (.inl (fun _ => 0)))), (qm 112, .inl (ca 1, 2, .inl (fun _ => 0))), (qm 113, .inl (ca 2, 2, .inr (.inl (fun _ => 0)))), (qm 114, .inl (ca 2, 2, .inr (.inl (fun _ => 0)))), (qm 117, .inl (ca 1, 2, .inl (fun _ => 0))), (qm 118, .inl (ca 1, 2, .inl (fun _ => 0))), (qm 120, .inl (ca 1, 8000, .inl (fun _ => 0))), (qm 122, .inl (ca 1, 2, .inl (fun _ => 0)))] H := hP
  have hD : va_D A [(xo, .inr (7, sF qs 0)), (qs 0, .inl (ca 0, 256, .inl (fun _ => 0))), (qs 4, .inl (ca 6, 160, .inr (.inr (.inr (.inr (fun _ => none)))))), (qs 7, .inl (ca 5, 2, .inr (.inr (.inr (.inr (va_up (va_up (fun _ => none) 0 (some d0)) 1 (some d1))))))), (qs 8, .inr (8, [.null, .int 0, .int 0])), (d0, .inr (17, sD r0)), (d1, .inr (17, sD r1)), (mo, .inr (0, mF qm 0)), (qm 1, .inr (1, [x0, x1, x2, x3, x4, x5, x6, x7])), (qm 2, .inr (2, [.ref qa, .int 0])), (qa, .inl (ca 0, 16, .inl (fun _ => 0))), (qm 12, .inl (ca 4, 148, .inr (.inr (.inr (.inr (fun _ => none)))))), (qm 110, .inl (ca 1, 2, .inl (fun _ => 0))), (qm 111, .inl (ca 2, 2, .inr (.inl (fun _ => 0)))), (qm 112, .inl (ca 1, 2, .inl (fun _ => 0))), (qm 113, .inl (ca 2, 2, .inr (.inl (fun _ => 0)))), (qm 114, .inl (ca 2, 2, .inr (.inl (fun _ => 0)))), (qm 117, .inl (ca 1, 2, .inl (fun _ => 0))), (qm 118, .inl (ca 1, 2, .inl (fun _ => 0))), (qm 120, .inl (ca 1, 8000, .inl (fun _ => 0))), (qm 122, .inl (ca 1, 2, .inl (fun _ => 0)))] := hD
  refine W.eq (g2 := F0 m 15 ls [.ref mo]) rfl ?_
  refine W.widen (k := 235) (n := 644960) (Nat.le_of_ble_eq_true rfl) (Nat.le_of_ble_eq_true rfl) ?_
  refine lv_astore_n (lv' := [(2, .ref mo), (1, .ref xo), (0, .ref b)]) hx hb d_law_15 rfl hl (by decide) rfl (fun ls hl => ?_)
  refine lv_iconst (v := 1) hx hb d_law_16 (by decide) ?_
  refine ax_newa (atype := .long) (ty := .long) (n := 1) (N' := 1) (a0 := (1, .inr (.inl (fun _ => 0)))) hx hb (hts _ (wm_lk _ xm_12)) rfl hKs.1 2 rfl (fun C h => by cases h) hP hD hS hA (fun _ => rfl) (by decide +kernel) (by decide +kernel) (by decide +kernel) (Nat.le_of_ble_eq_true rfl) (Nat.le_of_ble_eq_true rfl) d_law_17 (fun o H hP hD hS => ?_)
  have hP : va_P (dC, dI) classes [(xo, .inr (7, sF qs 0)), (qs 0, .inl (ca 0, 256, .inl (fun _ => 0))), (qs 4, .inl (ca 6, 160, .inr (.inr (.inr (.inr (fun _ => none)))))), (qs 7, .inl (ca 5, 2, .inr (.inr (.inr (.inr (va_up (va_up (fun _ => none) 0 (some d0)) 1 (some d1))))))), (qs 8, .inr (8, [.null, .int 0, .int 0])), (d0, .inr (17, sD r0)), (d1, .inr (17, sD r1)), (mo, .inr (0, mF qm 0)), (qm 1, .inr (1, [x0, x1, x2, x3, x4, x5, x6, x7])), (qm 2, .inr (2, [.ref qa, .int 0])), (qa, .inl (ca 0, 16, .inl (fun _ => 0))), (qm 12, .inl (ca 4, 148, .inr (.inr (.inr (.inr (fun _ => none)))))), (qm 110, .inl (ca 1, 2, .inl (fun _ => 0))), (qm 111, .inl (ca 2, 2, .inr (.inl (fun _ => 0)))), (qm 112, .inl (ca 1, 2, .inl (fun _ => 0))), (qm 113, .inl (ca 2, 2, .inr (.inl (fun _ => 0)))), (qm 114, .inl (ca 2, 2, .inr (.inl (fun _ => 0)))), (qm 117, .inl (ca 1, 2, .inl (fun _ => 0))), (qm 118, .inl (ca 1, 2, .inl (fun _ => 0))), (qm 120, .inl (ca 1, 8000, .inl (fun _ => 0))), (qm 122, .inl (ca 1, 2, .inl (fun _ => 0))), (o, .inl (ca 2, 1, .inr (.inl (fun _ => 0))))] H := hP
  have hD : va_D A [(xo, .inr (7, sF qs 0)), (qs 0, .inl (ca 0, 256, .inl (fun _ => 0))), (qs 4, .inl (ca 6, 160, .inr (.inr (.inr (.inr (fun _ => none)))))), (qs 7, .inl (ca 5, 2, .inr (.inr (.inr (.inr (va_up (va_up (fun _ => none) 0 (some d0)) 1 (some d1))))))), (qs 8, .inr (8, [.null, .int 0, .int 0])), (d0, .inr (17, sD r0)), (d1, .inr (17, sD r1)), (mo, .inr (0, mF qm 0)), (qm 1, .inr (1, [x0, x1, x2, x3, x4, x5, x6, x7])), (qm 2, .inr (2, [.ref qa, .int 0])), (qa, .inl (ca 0, 16, .inl (fun _ => 0))), (qm 12, .inl (ca 4, 148, .inr (.inr (.inr (.inr (fun _ => none)))))), (qm 110, .inl (ca 1, 2, .inl (fun _ => 0))), (qm 111, .inl (ca 2, 2, .inr (.inl (fun _ => 0)))), (qm 112, .inl (ca 1, 2, .inl (fun _ => 0))), (qm 113, .inl (ca 2, 2, .inr (.inl (fun _ => 0)))), (qm 114, .inl (ca 2, 2, .inr (.inl (fun _ => 0)))), (qm 117, .inl (ca 1, 2, .inl (fun _ => 0))), (qm 118, .inl (ca 1, 2, .inl (fun _ => 0))), (qm 120, .inl (ca 1, 8000, .inl (fun _ => 0))), (qm 122, .inl (ca 1, 2, .inl (fun _ => 0))), (o, .inl (ca 2, 1, .inr (.inl (fun _ => 0))))] := hD
  refine W.widen (k := 236) (n := 644961) (Nat.le_of_ble_eq_true rfl) (Nat.le_of_ble_eq_true rfl) ?_
  refine lv_astore_n (lv' := [(3, .ref o), (2, .ref mo), (1, .ref xo), (0, .ref b)]) hx hb d_law_19 rfl hl (by decide) rfl (fun ls hl => ?_)
  refine lv_iconst (v := 0) hx hb d_law_20 (by decide) ?_
  refine lv_istore (lv' := [(4, .int 0), (3, .ref o), (2, .ref mo), (1, .ref xo), (0, .ref b)]) hx hb d_law_21 hl (by decide) rfl (fun ls hl => ?_)
  refine lv_iload hx hb d_law_23 (lv_at hl 0 rfl) ?_
  refine lv_aload_n hx hb d_law_25 rfl (lv_at hl 4 rfl) ?_
  refine va_slen hx hb hX hbl hbA hS d_law_26 ?_
  refine lv_bipush (v := 8) hx hb d_law_27 (by decide +kernel) ?_
  refine lv_isub hx hb d_law_29 ?_
  by_cases h8 : L < 8
  · refine lv_icmp_gt (tgt := 1333) hx hb d_law_30 (by decide) (fun _ => ?_) (fun h => absurd (l_short L h8) h)
    refine W.widen (k := 300) (n := 650000) (Nat.le_of_ble_eq_true rfl) (Nat.le_of_ble_eq_true rfl) ?_
    exact lw_out hx hb hr hlocks hS hAs
  · obtain rfl : L = 8 := by omega
    refine lv_icmp_gt (tgt := 1333) hx hb d_law_30 (by decide) (fun h => absurd h (by decide)) (fun _ => ?_)
    have LC : lC p s m #[Value.ref b] c dC dI ca A b xs := ⟨hx, hb, hml, hown, hts, hKm, hE, hA, hAs, hX, hbl, hbA⟩
    have kk : lkk p l e s m #[Value.ref b] below meth c A b (lw_Z below #[Value.ref b] s) := by
      intro H locs ls hS hl
      refine lv_iinc (v := 8) (lv' := [(4, .int 8), (0, .ref b)]) hx hb d_law_1327 hl (k := 0) rfl (by decide) (by decide) rfl (fun ls hl => ?_)
      refine lv_goto (tgt := 23) hx hb d_law_1330 (by decide) ?_
      refine lv_iload hx hb d_law_23 (lv_at hl 0 rfl) ?_
      refine lv_aload_n hx hb d_law_25 rfl (lv_at hl 1 rfl) ?_
      refine va_slen hx hb hX hbl hbA hS d_law_26 ?_
      refine lv_bipush (v := 8) hx hb d_law_27 (by decide +kernel) ?_
      refine lv_isub hx hb d_law_29 ?_
      refine lv_icmp_gt (tgt := 1333) hx hb d_law_30 (by decide) (fun _ => ?_) (fun h => absurd (by decide) h)
      exact lw_out hx hb hr hlocks hS hAs
    refine lv_aload_n hx hb d_law_33 rfl (lv_at hl 4 rfl) ?_
    refine lv_iload hx hb d_law_34 (lv_at hl 0 rfl) ?_
    refine va_sld hx hb hX hbl hbA hS (by unfold vp_in; decide) d_law_36 ?_
    refine lv_bipush (v := 31) hx hb d_law_37 (by decide +kernel) ?_
    refine lv_iand hx hb d_law_39 ?_
    refine lv_topi (fun z _ => ?_)
    rcases sw_21 z with rfl | rfl | rfl | rfl | rfl | rfl | rfl | rfl | rfl | rfl | rfl | rfl | rfl | rfl | rfl | rfl | rfl | rfl | rfl | rfl | rfl | rfl | hz
    · refine lv_tableIn (tgt := 144) hx hb d_law_40 (by decide) (by decide) rfl (by decide) ?_
      exact lc_0 hl9 LC hP hD hS hl kk
    · refine lv_tableIn (tgt := 213) hx hb d_law_40 (by decide) (by decide) rfl (by decide) ?_
      exact lc_1 hl9 LC hP hD hS hl kk
    · refine lv_tableIn (tgt := 226) hx hb d_law_40 (by decide) (by decide) rfl (by decide) ?_
      exact lc_2 hl9 LC hP hD hS hl kk
    · refine lv_tableIn (tgt := 263) hx hb d_law_40 (by decide) (by decide) rfl (by decide) ?_
      exact lc_3 hl9 LC hP hD hS hl kk
    · refine lv_tableIn (tgt := 312) hx hb d_law_40 (by decide) (by decide) rfl (by decide) ?_
      exact lc_4 hl9 LC hP hD hS hl kk
    · refine lv_tableIn (tgt := 391) hx hb d_law_40 (by decide) (by decide) rfl (by decide) ?_
      exact lc_5 hl9 LC hP hD hS hl kk
    · refine lv_tableIn (tgt := 440) hx hb d_law_40 (by decide) (by decide) rfl (by decide) ?_
      exact lc_6 hl9 LC hP hD hS hl kk
    · refine lv_tableIn (tgt := 501) hx hb d_law_40 (by decide) (by decide) rfl (by decide) ?_
      exact lc_7 hl9 LC hP hD hS hl kk
    · refine lv_tableIn (tgt := 562) hx hb d_law_40 (by decide) (by decide) rfl (by decide) ?_
      exact lc_8 hl9 LC hP hD hS hl kk
    · refine lv_tableIn (tgt := 623) hx hb d_law_40 (by decide) (by decide) rfl (by decide) ?_
      exact lc_9 hl9 LC hP hD hS hl kk
    · refine lv_tableIn (tgt := 672) hx hb d_law_40 (by decide) (by decide) rfl (by decide) ?_
      exact lc_10 hl9 LC hP hD hS hl kk
    · refine lv_tableIn (tgt := 697) hx hb d_law_40 (by decide) (by decide) rfl (by decide) ?_
      exact lc_11 hl9 LC hP hD hS hl kk
    · refine lv_tableIn (tgt := 734) hx hb d_law_40 (by decide) (by decide) rfl (by decide) ?_
      exact lc_12 hl9 LC hP hD hS hl kk
    · refine lv_tableIn (tgt := 759) hx hb d_law_40 (by decide) (by decide) rfl (by decide) ?_
      exact lc_13 hl9 LC hP hD hS hl kk
    · refine lv_tableIn (tgt := 808) hx hb d_law_40 (by decide) (by decide) rfl (by decide) ?_
      exact lc_14 hl9 LC hP hD hS hl kk
    · refine lv_tableIn (tgt := 857) hx hb d_law_40 (by decide) (by decide) rfl (by decide) ?_
      exact lc_15 hl9 LC hP hD hS hl kk
    · refine lv_tableIn (tgt := 998) hx hb d_law_40 (by decide) (by decide) rfl (by decide) ?_
      by_cases hc : (¬ (xs (Int32.toNatClampNeg 1)) < 0 ∧ ¬ 1 < (xs (Int32.toNatClampNeg 1))) ∧ (¬ (xs (Int32.toNatClampNeg 2)) < 1 ∧ (xs (Int32.toNatClampNeg 2)) ≤ 4000)
      · exact lc_16b hl9 LC hc hP hD hS hl kk
      · exact lc_16a hl9 LC hc hP hD hS hl kk
    · refine lv_tableIn (tgt := 1066) hx hb d_law_40 (by decide) (by decide) rfl (by decide) ?_
      by_cases hc : (¬ (xs (Int32.toNatClampNeg 1)) < 0 ∧ ¬ 1 < (xs (Int32.toNatClampNeg 1))) ∧ (¬ (xs (Int32.toNatClampNeg 2)) < 0 ∧ (xs (Int32.toNatClampNeg 2)) ≤ 8)
      · exact lc_17b hl9 LC hc hP hD hS hl kk
      · exact lc_17a hl9 LC hc hP hD hS hl kk
    · refine lv_tableIn (tgt := 1133) hx hb d_law_40 (by decide) (by decide) rfl (by decide) ?_
      exact lc_18 hl9 LC hP hD hS hl kk
    · refine lv_tableIn (tgt := 1212) hx hb d_law_40 (by decide) (by decide) rfl (by decide) ?_
      exact lc_19 hl9 LC hP hD hS hl kk
    · refine lv_tableIn (tgt := 1291) hx hb d_law_40 (by decide) (by decide) rfl (by decide) ?_
      exact lc_20 hl9 LC hP hD hS hl kk
    · refine lv_tableIn (tgt := 1302) hx hb d_law_40 (by decide) (by decide) rfl (by decide) ?_
      exact lc_21 hl9 LC hP hD hS hl kk
    · refine lv_tableOut (tgt := 1327) hx hb d_law_40 hz (by decide) ?_
      refine W.widen (k := 300) (n := 650000) (Nat.le_of_ble_eq_true rfl) (Nat.le_of_ble_eq_true rfl) ?_
      exact kk H locs ls hS (lv_sub hl [0, 4] rfl)
