theorem kH_of {dC : Nat → ClassId} {dI : Nat → Nat → Nat} {ca : Nat → ClassId} {s U : State} {H : Heap} {A : Nat → Prop} {h0 q : Nat} {locs : List Loc} {f0 f1 fh : List Value} (hK : mK dC dI ca s) (hat : kA hAtoms s) (hW : s.WarmedH U.vm) (hU : U.heap = H) (hP : va_P (dC, dI) classes [(h0, .inr (0, f0)), (q, .inr (1, fh))] H) (hD : va_D A [(h0, .inr (0, f0)), (q, .inr (1, fh))]) (hS : va_S A s.heap H locs) (hA : ∀ q : Nat, s.heap.size ≤ q → A q) (hAi : (∀ q : Nat, A q → (∃ (k : Nat) (e : va_E), ([(h0, .inr (0, f1))] : va_W)[k]? = some (q, e)) ∨ s.heap.size ≤ q) ∧ ∃ cell : Cell, s.heap[h0]? = some cell ∧ cell.vm.isStatics = false)
    (hfr : ∃ kX : Class, s.vm.classes[dC 1]? = some kX ∧ H[q]? = some (freshCell (dC 1) kX)) : kH dC dI ca q U := by
  refine ⟨mK_up hK U hU hW, kA_up hA_stay hA_st hW (fun a cell h1 h2 => ?_) hat, ?_⟩
  · have hlt : a < s.heap.size := (Array.getElem?_eq_some_iff.mp h1).1
    have hn : ¬ A a := by
      intro h9
      rcases hAi.1 a h9 with ⟨k, e, hk⟩ | h9
      · have hk1 : k < 1 := (List.getElem?_eq_some_iff.mp hk).1
        have hk0 : k = 0 := by omega
        subst hk0
        cases hk
        obtain ⟨c9, e1, e2⟩ := hAi.2
        cases h1.symm.trans e1
        rw [e2] at h2
        cases h2
      · omega
    rw [hU, hS.2.1 a hlt hn]
    exact h1
  · obtain ⟨kX, h1, h2⟩ := hfr
    obtain ⟨k2, h3, h4⟩ := hW.alike.2.2 _ _ h1
    refine ⟨k2, h3, ?_⟩
    rw [hU, h2]
    have h5 : k2.instanceTypes = kX.instanceTypes := by rw [h4]
    show some _ = some _
    rw [freshCell, freshCell, h5]

set_option maxHeartbeats 40000000 in
set_option maxRecDepth 100000 in
theorem c_MM_init (l : Launch) (hl9 : l.stackTraces = false) (dC : Nat → ClassId) (dI : Nat → Nat → Nat) (ca : Nat → ClassId) (sa : Nat → Nat) (h0 : Nat) : CT l classes (dC, dI) (kM dC dI ca sa h0) wm y_MM_init b_MM_init 1 none 7 100 166 640022 [.ref h0] [(h0, .inr (0, [.int 0, .null, .null, .null, .null, .null, .int 0, .int 0, .int 0, .null, .null, .null, .null, .int 0, .null, .null, .int 0, .null, .null, .null, .null, .null, .null, .int 0, .int 0, .int 0, .int 0, .null, .null, .null, .null, .null, .null, .null, .int 0, .null, .null, .null, .null, .null, .null, .null, .null, .null, .null, .null, .null, .null, .null, .null, .null, .null, .null, .null, .null, .null, .null, .null, .null, .null, .null, .null, .int 0, .int 0, .null, .int 0, .int 0, .int 0, .int 0, .int 0, .null, .null, .null, .null, .int 0, .int 0, .null, .null, .null, .int 0, .null, .null, .int 0, .int 0, .int 0, .int 0, .int 0, .null, .null, .int 0, .null, .null, .int 0, .null, .null, .null, .null, .int 0, .int 0, .int 0, .int 0, .int 0, .int 0, .null, .null, .int 0, .null, .null, .null, .null, .null, .null, .null, .null, .null, .int 0, .null, .null, .null, .null, .null, .null, .null, .null, .null, .null, .null, .null, .null, .null, .int 0, .int 0]))] (fun (v : Option Value) (u : (Nat → Nat) × List Value × Nat) => v = none ∧ u.2.1.length = 8) (fun (u : (Nat → Nat) × List Value × Nat) => mW ca h0 u.1 u.2.1 u.2.2) := by
  refine ax_ofA (by decide) (Nat.le_of_ble_eq_true rfl) ?_
  intro p e s m below meth c A ls hAt hK hP hD hS hA hAi hl
  obtain ⟨hx, hb, hr, hml, hown, hts, hlocks, hin⟩ := hAt
  have hin : meth.name = "<init>" := hin
  obtain ⟨hK, hat, hks⟩ := hK
  have hl : lv_has ls 1 [(0, .ref h0)] := hl
  have hnA : ∀ (i : Nat) (z : Nat × String), strs[i]? = some z → ¬ A (sa i) := by
    intro i z hz h9
    obtain ⟨-, ⟨cell, h1, -⟩, hne⟩ := hks i z hz
    rcases hAi _ h9 with ⟨k, e, hk⟩ | h9
    · have hk1 : k < 1 := (List.getElem?_eq_some_iff.mp hk).1
      have hk0 : k = 0 := by omega
      subst hk0
      cases hk
      exact hne rfl
    · exact absurd h9 (Nat.not_le.mpr (Array.getElem?_eq_some_iff.mp h1).1)
  have hAi := And.intro hAi (by
    obtain ⟨cell, h1, h2, -⟩ := va_recv hK.1 hP (ci := 0) (q0 := 0) rfl rfl
    exact (⟨cell, h1, h2⟩ : ∃ cell : Cell, s.heap[h0]? = some cell ∧ cell.vm.isStatics = false))
  have M : mC p s m [Value.ref h0].toArray meth c dC dI ca A ls h0 := ⟨hx, hb, hml, hown, hts, hin, hK, hA, hl⟩
  obtain ⟨fs_0, e_0⟩ : ∃ z : List Value, z = [.int 0, .null, .null, .null, .null, .null, .int 0, .int 0, .int 0, .null, .null, .null, .null, .int 0, .null, .null, .int 0, .null, .null, .null, .null, .null, .null, .int 0, .int 0, .int 0, .int 0, .null, .null, .null, .null, .null, .null, .null, .int 0, .null, .null, .null, .null, .null, .null, .null, .null, .null, .null, .null, .null, .null, .null, .null, .null, .null, .null, .null, .null, .null, .null, .null, .null, .null, .null, .null, .int 0, .int 0, .null, .int 0, .int 0, .int 0, .int 0, .int 0, .null, .null, .null, .null, .int 0, .int 0, .null, .null, .null, .int 0, .null, .null, .int 0, .int 0, .int 0, .int 0, .int 0, .null, .null, .int 0, .null, .null, .int 0, .null, .null, .null, .null, .int 0, .int 0, .int 0, .int 0, .int 0, .int 0, .null, .null, .int 0, .null, .null, .null, .null, .null, .null, .null, .null, .null, .int 0, .null, .null, .null, .null, .null, .null, .null, .null, .null, .null, .null, .null, .null, .null, .int 0, .int 0] := ⟨_, rfl⟩
  have hlen : fs_0.length = 132 := by rw [e_0]; rfl
  rw [← e_0] at hP hD
  refine lv_aload_n hx hb d_MM_init_0 rfl (lv_at hl 0 rfl) ?_
  refine W.objInit hx hb hown (hts _ xm_17) (hts _ xm_8) (hts _ xm_9) rfl (by rw [hml]; exact hl.1) rfl d_MM_init_1 (Nat.le_of_ble_eq_true rfl) (Nat.le_of_ble_eq_true rfl) ?_
  refine W.eq (g2 := F0 m 4 ls []) rfl ?_
  refine lv_aload_n hx hb d_MM_init_4 rfl (lv_at hl 0 rfl) ?_
  refine ax_newF (ci := 1) (fs := [.null, .null, .null, .null, .null, .int 0, .int 0, .int 0]) (C := R_MH) (T := F_MH) (N := 8) hx hb hts i_MH t_MH t_MH_ok hown (hts _ xm_18) (hts _ xm_19) (hts _ xm_1) hK.1 hP hD hS hA rfl (by decide +kernel) (Nat.le_of_ble_eq_true rfl) (Nat.le_of_ble_eq_true rfl) d_MM_init_5 ?_
  clear hP hD hS
  intro q_1 H hfr hP hD hS
  refine lv_dup hx hb d_MM_init_8 rfl ?_
  replace hP : va_P (dC, dI) classes [(h0, .inr (0, fs_0)), (q_1, .inr (1, [.null, .null, .null, .null, .null, .int 0, .int 0, .int 0]))] H := hP
  replace hD : va_D A [(h0, .inr (0, fs_0)), (q_1, .inr (1, [.null, .null, .null, .null, .null, .int 0, .int 0, .int 0]))] := hD
  refine W.widen (k := 1) (n := 8) (Nat.le_of_ble_eq_true rfl) (Nat.le_of_ble_eq_true rfl) ?_
  refine ax_IN (k := 0) (As := []) (rest := [.ref q_1, .ref h0]) (wr := [(h0, .inr (0, fs_0))]) rfl hx hb hml hown hts g_wm (kH_bl dC dI ca q_1) (c_MH_init l hl9 dC dI ca q_1) rfl (hK.2.1 _ zm_0) xm_20 xm_1 xm_21 (by decide +kernel) rfl (Nat.le_of_ble_eq_true rfl) (Nat.le_of_ble_eq_true rfl) hl.1 (Nat.le_of_ble_eq_true rfl) (fun U hU hW => kH_of hK hat hW hU hP hD hS hA hAi hfr) hP hD hS hA [1] [0] rfl (by decide) rfl rfl (by decide) (by decide) (Nat.le_of_ble_eq_true rfl) (Nat.le_of_ble_eq_true rfl) d_MM_init_9 ?_
  clear hP hD hS hfr
  intro v q_2 H locs hp hP hD hS
  obtain ⟨rfl, h8_1⟩ := hp
  replace hP : va_P (dC, dI) classes [(h0, .inr (0, fs_0)), (q_1, .inr (1, q_2))] H := hP
  replace hD : va_D A [(h0, .inr (0, fs_0)), (q_1, .inr (1, q_2))] := hD
  refine W.eq (g2 := F0 m 12 ls [.ref q_1, .ref h0]) rfl ?_
  refine W.widen (k := 1) (n := 8) (Nat.le_of_ble_eq_true rfl) (Nat.le_of_ble_eq_true rfl) ?_
  refine m_put M (fs := fs_0) (wt := [(q_1, .inr (1, q_2))]) (k := 1) (ty := .object "SourceBackModel$Halt") hP hD hS hlen (by decide) xm_74 rfl rfl (by decide +kernel) rfl rfl d_MM_init_12 ?_
  clear hP hD hS hlen
  intro H locs hlen hP hD hS
  obtain ⟨fs_1, e_1⟩ : ∃ z, z = fs_0.set 1 (.ref q_1) := ⟨_, rfl⟩
  rw [← e_1] at hP hD hlen
  replace hP : va_P (dC, dI) classes [(h0, .inr (0, fs_1)), (q_1, .inr (1, q_2))] H := hP
  replace hD : va_D A [(h0, .inr (0, fs_1)), (q_1, .inr (1, q_2))] := hD
  refine mi_1 M hks hnA (fs_1 := fs_1) hP hD hS hlen ?_
  clear hP hD hS hlen
  intro q_3 q_5 q_7 q_9 q_11 q_12 q_4 H locs hlen hP hD hS
  obtain ⟨fs_7, e_7⟩ : ∃ z, z = fs_1.set 2 (.ref q_3).set 3 (.ref q_5).set 4 (.ref q_7).set 5 (.ref q_9).set 9 (.ref q_11).set 10 (.ref q_12) := ⟨_, rfl⟩
  rw [← e_7] at hP hD hlen
  refine mi_7 M hks hnA (fs_7 := fs_7) hP hD hS hlen ?_
  clear hP hD hS hlen
  intro q_13 q_14 q_15 q_17 q_19 q_20 q_21 q_22 H locs hlen hP hD hS
  obtain ⟨fs_15, e_15⟩ : ∃ z, z = fs_7.set 11 (.ref q_13).set 12 (.ref q_14).set 15 (.ref q_15).set 17 (.ref q_17).set 18 (.ref q_19).set 19 (.ref q_20).set 20 (.ref q_21).set 21 (.ref q_22) := ⟨_, rfl⟩
  rw [← e_15] at hP hD hlen
  refine mi_15 M hks hnA (fs_15 := fs_15) hP hD hS hlen ?_
  clear hP hD hS hlen
  intro q_23 q_24 q_25 q_26 q_27 q_28 q_29 q_30 q_31 q_32 H locs hlen hP hD hS
  obtain ⟨fs_25, e_25⟩ : ∃ z, z = fs_15.set 22 (.ref q_23).set 27 (.ref q_24).set 28 (.ref q_25).set 29 (.ref q_26).set 30 (.ref q_27).set 31 (.ref q_28).set 32 (.ref q_29).set 33 (.ref q_30).set 35 (.ref q_31).set 36 (.ref q_32) := ⟨_, rfl⟩
  rw [← e_25] at hP hD hlen
  refine mi_25 M hks hnA (fs_25 := fs_25) hP hD hS hlen ?_
  clear hP hD hS hlen
  intro q_34 q_36 q_38 q_40 q_42 H locs hlen hP hD hS
  obtain ⟨fs_30, e_30⟩ : ∃ z, z = fs_25.set 37 (.ref q_34).set 38 (.ref q_36).set 39 (.ref q_38).set 40 (.ref q_40).set 41 (.ref q_42) := ⟨_, rfl⟩
  rw [← e_30] at hP hD hlen
  refine mi_30 M hks hnA (fs_30 := fs_30) hP hD hS hlen ?_
  clear hP hD hS hlen
  intro q_43 q_45 q_47 q_49 q_51 H locs hlen hP hD hS
  obtain ⟨fs_35, e_35⟩ : ∃ z, z = fs_30.set 42 (.ref q_43).set 43 (.ref q_45).set 44 (.ref q_47).set 45 (.ref q_49).set 46 (.ref q_51) := ⟨_, rfl⟩
  rw [← e_35] at hP hD hlen
  refine mi_35 M hks hnA (fs_35 := fs_35) hP hD hS hlen ?_
  clear hP hD hS hlen
  intro q_53 q_55 q_57 q_59 q_61 H locs hlen hP hD hS
  obtain ⟨fs_40, e_40⟩ : ∃ z, z = fs_35.set 47 (.ref q_53).set 48 (.ref q_55).set 49 (.ref q_57).set 50 (.ref q_59).set 51 (.ref q_61) := ⟨_, rfl⟩
  rw [← e_40] at hP hD hlen
  refine mi_40 M hks hnA (fs_40 := fs_40) hP hD hS hlen ?_
  clear hP hD hS hlen
  intro q_63 q_65 q_67 q_69 q_71 H locs hlen hP hD hS
  obtain ⟨fs_45, e_45⟩ : ∃ z, z = fs_40.set 52 (.ref q_63).set 53 (.ref q_65).set 54 (.ref q_67).set 55 (.ref q_69).set 56 (.ref q_71) := ⟨_, rfl⟩
  rw [← e_45] at hP hD hlen
  refine mi_45 M hks hnA (fs_45 := fs_45) hP hD hS hlen ?_
  clear hP hD hS hlen
  intro q_73 q_75 q_77 q_79 q_81 H locs hlen hP hD hS
  obtain ⟨fs_50, e_50⟩ : ∃ z, z = fs_45.set 57 (.ref q_73).set 58 (.ref q_75).set 59 (.ref q_77).set 60 (.ref q_79).set 61 (.ref q_81) := ⟨_, rfl⟩
  rw [← e_50] at hP hD hlen
  refine mi_50 M hks hnA (fs_50 := fs_50) hP hD hS hlen ?_
  clear hP hD hS hlen
  intro q_83 q_84 q_86 q_88 q_89 q_91 H locs hlen hP hD hS
  obtain ⟨fs_56, e_56⟩ : ∃ z, z = fs_50.set 64 (.ref q_83).set 70 (.ref q_84).set 72 (.ref q_86).set 73 (.ref q_88).set 76 (.ref q_89).set 77 (.ref q_91) := ⟨_, rfl⟩
  rw [← e_56] at hP hD hlen
  refine mi_56 M hks hnA (fs_56 := fs_56) hP hD hS hlen ?_
  clear hP hD hS hlen
  intro q_93 q_94 H locs hlen hP hD hS
  obtain ⟨fs_58, e_58⟩ : ∃ z, z = fs_56.set 78 (.ref q_93).set 80 (.ref q_94) := ⟨_, rfl⟩
  rw [← e_58] at hP hD hlen
  refine mi_58 M hks hnA (fs_58 := fs_58) hP hD hS hlen ?_
  clear hP hD hS hlen
  intro q_95 q_96 q_97 q_98 q_99 q_100 q_101 q_103 H locs hlen hP hD hS
  obtain ⟨fs_66, e_66⟩ : ∃ z, z = fs_58.set 90 (.ref q_95).set 91 (.ref q_96).set 93 (.ref q_97).set 94 (.ref q_98).set 95 (.ref q_99).set 96 (.ref q_100).set 103 (.ref q_101).set 104 (.ref q_103) := ⟨_, rfl⟩
  rw [← e_66] at hP hD hlen
  refine mi_66 M hks hnA (fs_66 := fs_66) hP hD hS hlen ?_
  clear hP hD hS hlen
  intro q_105 q_107 q_109 q_111 q_112 q_113 q_114 H locs hlen hP hD hS
  obtain ⟨fs_73, e_73⟩ : ∃ z, z = fs_66.set 106 (.ref q_105).set 108 (.ref q_107).set 109 (.ref q_109).set 110 (.ref q_111).set 111 (.ref q_112).set 112 (.ref q_113).set 113 (.ref q_114) := ⟨_, rfl⟩
  rw [← e_73] at hP hD hlen
  refine mi_73 M hks hnA (fs_73 := fs_73) hP hD hS hlen ?_
  clear hP hD hS hlen
  intro q_115 q_116 q_117 q_118 q_119 q_120 q_121 q_122 q_123 q_124 q_125 H locs hlen hP hD hS
  obtain ⟨fs_84, e_84⟩ : ∃ z, z = fs_73.set 114 (.ref q_115).set 116 (.ref q_116).set 117 (.ref q_117).set 118 (.ref q_118).set 119 (.ref q_119).set 120 (.ref q_120).set 121 (.ref q_121).set 122 (.ref q_122).set 123 (.ref q_123).set 124 (.ref q_124).set 125 (.ref q_125) := ⟨_, rfl⟩
  rw [← e_84] at hP hD hlen
  refine mi_84 M hks hnA (fs_84 := fs_84) hP hD hS hlen ?_
  clear hP hD hS hlen
  intro q_126 q_127 q_128 q_129 H locs hlen hP hD hS
  obtain ⟨fs_88, e_88⟩ : ∃ z, z = fs_84.set 126 (.ref q_126).set 127 (.ref q_127).set 128 (.ref q_128).set 129 (.ref q_129) := ⟨_, rfl⟩
  rw [← e_88] at hP hD hlen
  have efin : fs_88 = mF (fun k => ([0, q_1, q_3, q_5, q_7, q_9, 0, 0, 0, q_11, q_12, q_13, q_14, 0, 0, q_15, 0, q_17, q_19, q_20, q_21, q_22, q_23, 0, 0, 0, 0, q_24, q_25, q_26, q_27, q_28, q_29, q_30, 0, q_31, q_32, q_34, q_36, q_38, q_40, q_42, q_43, q_45, q_47, q_49, q_51, q_53, q_55, q_57, q_59, q_61, q_63, q_65, q_67, q_69, q_71, q_73, q_75, q_77, q_79, q_81, 0, 0, q_83, 0, 0, 0, 0, 0, q_84, 0, q_86, q_88, 0, 0, q_89, q_91, q_93, 0, q_94, 0, 0, 0, 0, 0, 0, 0, 0, 0, q_95, q_96, 0, q_97, q_98, q_99, q_100, 0, 0, 0, 0, 0, 0, q_101, q_103, 0, q_105, 0, q_107, q_109, q_111, q_112, q_113, q_114, q_115, 0, q_116, q_117, q_118, q_119, q_120, q_121, q_122, q_123, q_124, q_125, q_126, q_127, q_128, q_129, 0, 0] : List Nat).getD k 0) 0 := by rw [e_88, e_84, e_73, e_66, e_58, e_56, e_50, e_45, e_40, e_35, e_30, e_25, e_15, e_7, e_1, e_0]; rfl
  rw [efin] at hP hD
  exact ax_vret hx hb hr hlocks hP hD hS ((fun k => ([0, q_1, q_3, q_5, q_7, q_9, 0, 0, 0, q_11, q_12, q_13, q_14, 0, 0, q_15, 0, q_17, q_19, q_20, q_21, q_22, q_23, 0, 0, 0, 0, q_24, q_25, q_26, q_27, q_28, q_29, q_30, 0, q_31, q_32, q_34, q_36, q_38, q_40, q_42, q_43, q_45, q_47, q_49, q_51, q_53, q_55, q_57, q_59, q_61, q_63, q_65, q_67, q_69, q_71, q_73, q_75, q_77, q_79, q_81, 0, 0, q_83, 0, 0, 0, 0, 0, q_84, 0, q_86, q_88, 0, 0, q_89, q_91, q_93, 0, q_94, 0, 0, 0, 0, 0, 0, 0, 0, 0, q_95, q_96, 0, q_97, q_98, q_99, q_100, 0, 0, 0, 0, 0, 0, q_101, q_103, 0, q_105, 0, q_107, q_109, q_111, q_112, q_113, q_114, q_115, 0, q_116, q_117, q_118, q_119, q_120, q_121, q_122, q_123, q_124, q_125, q_126, q_127, q_128, q_129, 0, 0] : List Nat).getD k 0), q_2, q_4) ⟨rfl, h8_1⟩ [0, 1, 2, 3, 4, 5, 6, 7, 8, 9, 10, 11, 12, 13] rfl (by decide) rfl (Nat.le_of_ble_eq_true rfl) (Nat.le_of_ble_eq_true rfl) d_MM_init_969
