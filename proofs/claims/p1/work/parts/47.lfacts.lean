/-! WHAT IS KNOWN AT THE LAW'S START -/
theorem ax_any {w : Cond} {a a' : Array Value} {s : State} (h1 : ax_stay w = true) (h2 : w.before a s = true) : w.before a' s = true := by
  by_cases hg : goodWord w = true
  · exact word_at (State.WarmedH.refl s) (good_of_word hg) h2
  · cases w with
    | isRef t =>
      cases t with
      | static C n d => exact h2
      | _ => exact absurd h1 hg
    | laysStatic C n d => exact h2
    | declares x => exact h2
    | castable a b => exact h2
    | _ => exact absurd h1 hg
def lw_two : List Cond := [.isRef (.static Bundle.tN "UNASSIGNED_STACK" Bundle.steD), .isRef (.static Bundle.tN "SUPPRESSED_SENTINEL" Bundle.listD)]
def lw_x : List Cond := lw_tbl ++ lw_two
theorem tx_20 : ∀ w ∈ lw_two, w ∈ lw_x := fun w h => List.mem_append_right _ h
theorem tx_0 : ∀ w ∈ k2_sels lw_privs, w ∈ lw_x := fun w h => List.mem_append_left _ (tk_0 w h)
theorem tx_1 : ∀ w ∈ tables_1_1, w ∈ lw_x := fun w h => List.mem_append_left _ (tk_1 w h)
theorem tx_2 : ∀ w ∈ tables_1_2, w ∈ lw_x := fun w h => List.mem_append_left _ (tk_2 w h)
theorem tx_3 : ∀ w ∈ tables_1_3, w ∈ lw_x := fun w h => List.mem_append_left _ (tk_3 w h)
theorem tx_4 : ∀ w ∈ tables_1_4, w ∈ lw_x := fun w h => List.mem_append_left _ (tk_4 w h)
theorem tx_5 : ∀ w ∈ tables_1_5, w ∈ lw_x := fun w h => List.mem_append_left _ (tk_5 w h)
theorem tx_6 : ∀ w ∈ tables_1_6, w ∈ lw_x := fun w h => List.mem_append_left _ (tk_6 w h)
theorem tx_7 : ∀ w ∈ tables_1_7, w ∈ lw_x := fun w h => List.mem_append_left _ (tk_7 w h)
theorem tx_8 : ∀ w ∈ tables_1_8, w ∈ lw_x := fun w h => List.mem_append_left _ (tk_8 w h)
theorem tx_9 : ∀ w ∈ tables_1_9, w ∈ lw_x := fun w h => List.mem_append_left _ (tk_9 w h)
theorem tx_10 : ∀ w ∈ tables_1_10, w ∈ lw_x := fun w h => List.mem_append_left _ (tk_10 w h)
theorem tx_11 : ∀ w ∈ tables_1_11, w ∈ lw_x := fun w h => List.mem_append_left _ (tk_11 w h)
theorem tx_12 : ∀ w ∈ tables_1_12, w ∈ lw_x := fun w h => List.mem_append_left _ (tk_12 w h)
theorem tx_13 : ∀ w ∈ tables_1_13, w ∈ lw_x := fun w h => List.mem_append_left _ (tk_13 w h)
theorem tx_14 : ∀ w ∈ tables_1_14, w ∈ lw_x := fun w h => List.mem_append_left _ (tk_14 w h)
theorem tx_15 : ∀ w ∈ tables_1_15, w ∈ lw_x := fun w h => List.mem_append_left _ (tk_15 w h)
theorem tx_16 : ∀ w ∈ tables_1_16, w ∈ lw_x := fun w h => List.mem_append_left _ (tk_16 w h)
theorem tx_17 : ∀ w ∈ tables_1_17, w ∈ lw_x := fun w h => List.mem_append_left _ (tk_17 w h)
theorem tx_18 : ∀ w ∈ tables_1_18, w ∈ lw_x := fun w h => List.mem_append_left _ (tk_18 w h)
theorem tx_19 : ∀ w ∈ tables_1_19, w ∈ lw_x := fun w h => List.mem_append_left _ (tk_19 w h)
theorem in_hAtoms_0 : ∀ w ∈ (hAtoms.drop (40 * 0)).take 40, w ∈ lw_x := fun w h => (List.forall_mem_append.mpr ⟨tx_1, (List.forall_mem_append.mpr ⟨tx_4, (List.forall_mem_append.mpr ⟨tx_5, (List.forall_mem_append.mpr ⟨tx_12, tx_20⟩)⟩)⟩)⟩) w (ax_places (T := tables_1_1 ++ (tables_1_4 ++ (tables_1_5 ++ (tables_1_12 ++ (lw_two))))) [13, 440, 449, 455, 458, 460, 441, 442, 45, 46, 443, 448, 456, 674, 430, 675, 432, 676, 434, 444, 445, 446, 447, 436, 960, 961, 439, 438, 445, 447, 13, 747, 748, 749, 750, 423, 750, 751, 752, 441] (by decide +kernel) w h)
theorem in_hAtoms_1 : ∀ w ∈ (hAtoms.drop (40 * 1)).take 40, w ∈ lw_x := fun w h => (List.forall_mem_append.mpr ⟨tx_4, tx_12⟩) w (ax_places (T := tables_1_4 ++ (tables_1_12)) [185, 266, 257, 211, 255, 258, 259, 260, 262] (by decide +kernel) w h)
theorem in_hAtoms : ∀ w ∈ hAtoms, w ∈ lw_x := ax_chunks 40 2 (by decide) (by decide +kernel) (fun k hk => match k, hk with
  | 0, _ => in_hAtoms_0
  | 1, _ => in_hAtoms_1
  | k + 2, hk => absurd hk (by omega))
theorem in_eAtoms_0 : ∀ w ∈ (eAtoms.drop (40 * 0)).take 40, w ∈ lw_x := fun w h => (List.forall_mem_append.mpr ⟨tx_1, (List.forall_mem_append.mpr ⟨tx_4, (List.forall_mem_append.mpr ⟨tx_5, tx_6⟩)⟩)⟩) w (ax_places (T := tables_1_1 ++ (tables_1_4 ++ (tables_1_5 ++ (tables_1_6)))) [13, 440, 449, 455, 458, 460, 441, 442, 45, 46, 443, 448, 456, 674, 430, 675, 432, 676, 434, 444, 445, 446, 447, 436, 670, 671, 673, 436, 721, 722, 723, 664, 422, 664, 665, 666, 667, 424, 667, 668] (by decide +kernel) w h)
theorem in_eAtoms_1 : ∀ w ∈ (eAtoms.drop (40 * 1)).take 40, w ∈ lw_x := fun w h => (List.forall_mem_append.mpr ⟨tx_1, (List.forall_mem_append.mpr ⟨tx_4, (List.forall_mem_append.mpr ⟨tx_5, (List.forall_mem_append.mpr ⟨tx_11, tx_20⟩)⟩)⟩)⟩) w (ax_places (T := tables_1_1 ++ (tables_1_4 ++ (tables_1_5 ++ (tables_1_11 ++ (lw_two))))) [669, 670, 426, 826, 817, 818, 819, 454, 820, 821, 822, 823, 960, 961, 439, 438, 824, 13, 440, 449, 455, 458, 460, 441, 442, 45, 46, 443, 448, 456, 674, 430, 675, 432, 676, 434, 444, 445, 446, 447] (by decide +kernel) w h)
theorem in_eAtoms_2 : ∀ w ∈ (eAtoms.drop (40 * 2)).take 40, w ∈ lw_x := fun w h => (List.forall_mem_append.mpr ⟨tx_1, (List.forall_mem_append.mpr ⟨tx_4, (List.forall_mem_append.mpr ⟨tx_5, (List.forall_mem_append.mpr ⟨tx_11, tx_20⟩)⟩)⟩)⟩) w (ax_places (T := tables_1_1 ++ (tables_1_4 ++ (tables_1_5 ++ (tables_1_11 ++ (lw_two))))) [436, 670, 671, 673, 436, 661, 662, 663, 664, 422, 664, 665, 666, 667, 424, 667, 668, 669, 670, 426, 845, 419, 420, 427, 428, 429, 431, 433, 435, 960, 961, 439, 438, 437, 13, 440, 449, 455, 458, 460] (by decide +kernel) w h)
theorem in_eAtoms_3 : ∀ w ∈ (eAtoms.drop (40 * 3)).take 40, w ∈ lw_x := fun w h => (List.forall_mem_append.mpr ⟨tx_1, (List.forall_mem_append.mpr ⟨tx_4, (List.forall_mem_append.mpr ⟨tx_5, (List.forall_mem_append.mpr ⟨tx_9, tx_11⟩)⟩)⟩)⟩) w (ax_places (T := tables_1_1 ++ (tables_1_4 ++ (tables_1_5 ++ (tables_1_9 ++ (tables_1_11))))) [441, 442, 45, 46, 443, 448, 456, 674, 430, 675, 432, 676, 434, 444, 445, 446, 447, 436, 670, 671, 673, 436, 786, 787, 788, 664, 422, 664, 665, 666, 667, 424, 667, 668, 669, 670, 426, 1088, 776, 777] (by decide +kernel) w h)
theorem in_eAtoms_4 : ∀ w ∈ (eAtoms.drop (40 * 4)).take 40, w ∈ lw_x := fun w h => (List.forall_mem_append.mpr ⟨tx_1, (List.forall_mem_append.mpr ⟨tx_4, (List.forall_mem_append.mpr ⟨tx_9, tx_20⟩)⟩)⟩) w (ax_places (T := tables_1_1 ++ (tables_1_4 ++ (tables_1_9 ++ (lw_two)))) [538, 453, 539, 540, 541, 542, 720, 721, 439, 438, 543, 445, 447, 13] (by decide +kernel) w h)
theorem in_eAtoms : ∀ w ∈ eAtoms, w ∈ lw_x := ax_chunks 40 5 (by decide) (by decide +kernel) (fun k hk => match k, hk with
  | 0, _ => in_eAtoms_0
  | 1, _ => in_eAtoms_1
  | 2, _ => in_eAtoms_2
  | 3, _ => in_eAtoms_3
  | 4, _ => in_eAtoms_4
  | k + 5, hk => absurd hk (by omega))
theorem in_wm_ao : ∀ w ∈ (wm_ao.map (fun C => Cond.arrayOver (.object C))), w ∈ lw_tbl := fun w h => tk_12 w (ax_places (T := tables_1_12) [79, 201, 219] (by decide +kernel) w h)
theorem in_sk_ao : ∀ w ∈ (sk_ao.map (fun C => Cond.arrayOver (.object C))), w ∈ lw_tbl := fun w h => tk_1 w (ax_places (T := tables_1_1) [48, 50] (by decide +kernel) w h)
theorem in_strs : ∀ w ∈ (strs.map (fun z => Cond.stringRef R_MM z.1 z.2)), w ∈ lw_tbl := fun w h => tk_12 w (ax_places (T := tables_1_12) [202, 203, 204, 205, 206, 207, 208, 209, 210, 211, 212, 213, 214, 215, 216, 217] (by decide +kernel) w h)
theorem in_exact : ∀ w ∈ strs.map (fun z => Cond.exactly (.string R_MM z.1) "java/lang/String"), w ∈ flatC (Jvm.Cond.and given_1 narrow_1) := by decide +kernel
theorem in_notC : Cond.not (.castable "java/lang/IllegalStateException" "java/lang/IllegalArgumentException") ∈ flatC (Jvm.Cond.and given_1 narrow_1) := by decide +kernel
theorem in_ref1 : Cond.isRef (.static Bundle.tN "UNASSIGNED_STACK" Bundle.steD) ∈ flatC (Jvm.Cond.and given_1 narrow_1) := by decide +kernel
theorem in_ref2 : Cond.isRef (.static Bundle.tN "SUPPRESSED_SENTINEL" Bundle.listD) ∈ flatC (Jvm.Cond.and given_1 narrow_1) := by decide +kernel
theorem ax_aoA {t : FieldType} {a : Array Value} {s : State} (h : (Cond.arrayOver (.array t)).before a s = true) : sAO t s := by
  simp only [Cond.before, Cond.holds, Cond.value, beq_iff_eq] at h
  cases hc : s.vm.findClass (FieldType.array t).toString with
  | none => simp [hc] at h
  | some comp =>
    simp only [hc, Option.bind_some, Option.bind_eq_some_iff, Option.map_eq_some_iff] at h
    obtain ⟨cA, hi, k, hk, hb⟩ := h
    obtain ⟨hlt, hp, -⟩ := Array.findIdx?_eq_some_iff_getElem.mp hi
    have hkk : s.vm.classes[cA] = k := (Array.getElem?_eq_some_iff.mp hk).2
    rw [hkk] at hp
    cases hkind : k.kind with
    | array component ty =>
      rw [hkind] at hb hp
      simp at hb hp
      exact ⟨comp, cA, k, hc, hi, hk, by rw [hkind, hp, hb.1]⟩
    | _ => rw [hkind] at hb; simp at hb
theorem ax_str {C tx : String} {k : Nat} {a : Array Value} {s : State} {cur : Nat} (hc : s.vm.findClass C = some cur) (h : (Cond.stringRef C k tx).before a s = true) : ∃ q, vk_R C k tx q s := by
  obtain ⟨-, -, -, q, -, -, -, -, -, h9⟩ := Cond.stringRef_spec hc (show (Cond.stringRef C k tx).holds a s none s [] = true from h)
  exact ⟨q, vk_R.of h h9⟩
theorem ax_strA {C tx : String} {k : Nat} {a : Array Value} {s : State} {cur : Nat} (hc : s.vm.findClass C = some cur) (h : (Cond.stringRef C k tx).before a s = true) (he : (Cond.exactly (.string C k) "java/lang/String").before a s = true) : ∃ q, vk_R C k tx q s ∧ va_Any "java/lang/String" s s.heap q := by
  obtain ⟨-, -, -, q, -, -, -, -, -, h9⟩ := Cond.stringRef_spec hc (show (Cond.stringRef C k tx).holds a s none s [] = true from h)
  obtain ⟨q2, cc, cell, kC, q1, g2, g3, g4, g5, g6, -⟩ := Cond.exactly_spec (show (Cond.exactly (.string C k) "java/lang/String").holds a s none s [] = true from he)
  cases Option.some.inj (h9.symm.trans q1)
  exact ⟨q, vk_R.of h h9, cell, g3, g5, ⟨kC, by rw [g6]; exact g4⟩, fun comp hcomp => by
    cases Option.some.inj (g2.symm.trans hcomp)
    rw [g6]
    exact ax_asgSelf _ _⟩
set_option maxHeartbeats 4000000 in
set_option maxRecDepth 100000 in
theorem lw_facts {s : State} {b : Nat} (hts : ∀ w ∈ lw_tbl, w.before #[Value.ref b] s = true) (hgv : (Jvm.Cond.and given_1 narrow_1).before #[Value.ref b] s = true) : ∃ (dC : Nat → ClassId) (dI : Nat → Nat → Nat) (ca : Nat → ClassId) (sa : Nat → Nat), mK dC dI ca s ∧ lE dC dI ca s ∧ kA hAtoms s ∧ ∀ (i : Nat) (z : Nat × String), strs[i]? = some z → vk_R R_MM z.1 z.2 (sa i) s ∧ va_Any "java/lang/String" s s.heap (sa i) := by
  have hflat := flat_of_before _ hgv
  obtain ⟨c0, i0, k0⟩ := u_known (C := R_MM) (T := F_MM) (N := 132) (n := 132) hts in_MM (hts (.instantiable R_MM 132) (tk_12 _ (List.mem_of_getElem? (i := 9) (by decide +kernel))))
  obtain ⟨c1, i1, k1⟩ := u_known (C := R_MH) (T := F_MH) (N := 8) (n := 8) hts in_MH (hts (.instantiable R_MH 8) (tk_12 _ (List.mem_of_getElem? (i := 15) (by decide +kernel))))
  obtain ⟨c2, i2, k2⟩ := u_known (C := R_MB) (T := F_MB) (N := 2) (n := 2) hts in_MB (hts (.instantiable R_MB 2) (tk_12 _ (List.mem_of_getElem? (i := 44) (by decide +kernel))))
  obtain ⟨c3, i3, k3⟩ := u_known (C := R_MI) (T := F_MI) (N := 2) (n := 2) hts in_MI (hts (.instantiable R_MI 2) (tk_12 _ (List.mem_of_getElem? (i := 60) (by decide +kernel))))
  obtain ⟨c4, i4, k4⟩ := u_known (C := R_ML) (T := F_ML) (N := 2) (n := 2) hts in_ML (hts (.instantiable R_ML 2) (tk_12 _ (List.mem_of_getElem? (i := 89) (by decide +kernel))))
  obtain ⟨c5, i5, k5⟩ := u_known (C := R_MR) (T := F_MR) (N := 24) (n := 24) hts in_MR (hts (.instantiable R_MR 24) (tk_12 _ (List.mem_of_getElem? (i := 81) (by decide +kernel))))
  obtain ⟨c6, i6, k6⟩ := u_known (C := R_MX) (T := F_MX) (N := 15) (n := 15) hts in_MX (hts (.instantiable R_MX 15) (tk_14 _ (List.mem_of_getElem? (i := 181) (by decide +kernel))))
  obtain ⟨c7, i7, k7⟩ := u_known (C := R_SS) (T := F_SS) (N := 18) (n := 18) hts in_SS (hts (.instantiable R_SS 18) (tk_1 _ (List.mem_of_getElem? (i := 40) (by decide +kernel))))
  obtain ⟨c8, i8, k8⟩ := u_known (C := R_SR) (T := F_SR) (N := 3) (n := 3) hts in_SR (hts (.instantiable R_SR 3) (tk_1 _ (List.mem_of_getElem? (i := 52) (by decide +kernel))))
  obtain ⟨c9, i9, k9⟩ := u_known (C := R_SF) (T := F_SF) (N := 19) (n := 19) hts in_SF (hts (.instantiable R_SF 19) (tk_1 _ (List.mem_of_getElem? (i := 70) (by decide +kernel))))
  obtain ⟨c10, i10, k10⟩ := u_known (C := R_SK) (T := F_SK) (N := 16) (n := 16) hts in_SK (hts (.instantiable R_SK 16) (tk_1 _ (List.mem_of_getElem? (i := 149) (by decide +kernel))))
  obtain ⟨c11, i11, k11⟩ := u_known (C := R_SN) (T := F_SN) (N := 2) (n := 2) hts in_SN (hts (.instantiable R_SN 2) (tk_1 _ (List.mem_of_getElem? (i := 208) (by decide +kernel))))
  obtain ⟨c12, i12, k12⟩ := u_known (C := R_ST) (T := F_ST) (N := 18) (n := 18) hts in_ST (hts (.instantiable R_ST 18) (tk_1 _ (List.mem_of_getElem? (i := 221) (by decide +kernel))))
  obtain ⟨c13, i13, k13⟩ := u_known (C := R_SP) (T := F_SP) (N := 7) (n := 7) hts in_SP (hts (.instantiable R_SP 7) (tk_2 _ (List.mem_of_getElem? (i := 46) (by decide +kernel))))
  obtain ⟨c14, i14, k14⟩ := u_known (C := R_SM) (T := F_SM) (N := 20) (n := 20) hts in_SM (hts (.instantiable R_SM 20) (tk_2 _ (List.mem_of_getElem? (i := 76) (by decide +kernel))))
  obtain ⟨c15, i15, k15⟩ := u_known (C := R_SJ) (T := F_SJ) (N := 21) (n := 21) hts in_SJ (hts (.instantiable R_SJ 21) (tk_2 _ (List.mem_of_getElem? (i := 152) (by decide +kernel))))
  obtain ⟨c16, i16, k16⟩ := u_known (C := R_SO) (T := F_SO) (N := 5) (n := 5) hts in_SO (hts (.instantiable R_SO 5) (tk_2 _ (List.mem_of_getElem? (i := 158) (by decide +kernel))))
  obtain ⟨c17, i17, k17⟩ := u_known (C := R_SD) (T := F_SD) (N := 14) (n := 14) hts in_SD (hts (.instantiable R_SD 14) (tk_3 _ (List.mem_of_getElem? (i := 9) (by decide +kernel))))
  obtain ⟨c18, i18, k18⟩ := u_known (C := R_SQ) (T := F_SQ) (N := 16) (n := 16) hts in_SQ (hts (.instantiable R_SQ 16) (tk_3 _ (List.mem_of_getElem? (i := 147) (by decide +kernel))))
  obtain ⟨a0, ak0, ap0, p0a, p0b, p0c⟩ := Cond.arrayClass_spec (show (Cond.arrayClass .byte).holds #[Value.ref b] s none s [] = true from hts (.arrayClass .byte) (tk_1 _ (List.mem_of_getElem? (i := 67) (by decide +kernel))))
  obtain ⟨a1, ak1, ap1, p1a, p1b, p1c⟩ := Cond.arrayClass_spec (show (Cond.arrayClass .int).holds #[Value.ref b] s none s [] = true from hts (.arrayClass .int) (tk_1 _ (List.mem_of_getElem? (i := 68) (by decide +kernel))))
  obtain ⟨a2, ak2, ap2, p2a, p2b, p2c⟩ := Cond.arrayClass_spec (show (Cond.arrayClass .long).holds #[Value.ref b] s none s [] = true from hts (.arrayClass .long) (tk_1 _ (List.mem_of_getElem? (i := 147) (by decide +kernel))))
  obtain ⟨a3, ak3, ap3, p3a, p3b, p3c⟩ := Cond.arrayClass_spec (show (Cond.arrayClass .boolean).holds #[Value.ref b] s none s [] = true from hts (.arrayClass .boolean) (tk_14 _ (List.mem_of_getElem? (i := 135) (by decide +kernel))))
  obtain ⟨ap4, a4, ak4, p4a, -, p4b, p4c, p4d⟩ := Cond.arrayOver_spec (show (Cond.arrayOver (.object "SourceBackModel$Box")).holds #[Value.ref b] s none s [] = true from hts (.arrayOver (.object "SourceBackModel$Box")) (tk_12 _ (List.mem_of_getElem? (i := 79) (by decide +kernel))))
  obtain ⟨ap5, a5, ak5, p5a, -, p5b, p5c, p5d⟩ := Cond.arrayOver_spec (show (Cond.arrayOver (.object "SourceBack$Side")).holds #[Value.ref b] s none s [] = true from hts (.arrayOver (.object "SourceBack$Side")) (tk_1 _ (List.mem_of_getElem? (i := 50) (by decide +kernel))))
  obtain ⟨ap6, a6, ak6, p6a, -, p6b, p6c, p6d⟩ := Cond.arrayOver_spec (show (Cond.arrayOver (.object "SourceBack$Form")).holds #[Value.ref b] s none s [] = true from hts (.arrayOver (.object "SourceBack$Form")) (tk_1 _ (List.mem_of_getElem? (i := 48) (by decide +kernel))))
  obtain ⟨ap7, a7, ak7, p7a, -, p7b, p7c, p7d⟩ := Cond.arrayOver_spec (show (Cond.arrayOver (.object "java/lang/String")).holds #[Value.ref b] s none s [] = true from hts (.arrayOver (.object "java/lang/String")) (tk_12 _ (List.mem_of_getElem? (i := 201) (by decide +kernel))))
  obtain ⟨dC, hdC⟩ : ∃ z : Nat → ClassId, z = fun k => ([c0, c1, c2, c3, c4, c5, c6, c7, c8, c9, c10, c11, c12, c13, c14, c15, c16, c17, c18] : List ClassId).getD k c0 := ⟨_, rfl⟩
  obtain ⟨dI, hdI⟩ : ∃ z : Nat → Nat → Nat, z = fun k => ([i0, i1, i2, i3, i4, i5, i6, i7, i8, i9, i10, i11, i12, i13, i14, i15, i16, i17, i18] : List (Nat → Nat)).getD k i0 := ⟨_, rfl⟩
  obtain ⟨ca, hca⟩ : ∃ z : Nat → ClassId, z = fun k => ([a0, a1, a2, a3, a4, a5, a6, a7] : List ClassId).getD k a0 := ⟨_, rfl⟩
  have hK : va_K (dC, dI) classes (ax_tys ca) s := by
    refine ⟨fun k q hq => ?_, fun k q hq => ?_⟩
    · rw [hdC, hdI]
      match k, hq with
      | 0, hq => cases hq; exact k0
      | 1, hq => cases hq; exact k1
      | 2, hq => cases hq; exact k2
      | 3, hq => cases hq; exact k3
      | 4, hq => cases hq; exact k4
      | 5, hq => cases hq; exact k5
      | 6, hq => cases hq; exact k6
      | 7, hq => cases hq; exact k7
      | 8, hq => cases hq; exact k8
      | 9, hq => cases hq; exact k9
      | 10, hq => cases hq; exact k10
      | 11, hq => cases hq; exact k11
      | 12, hq => cases hq; exact k12
      | 13, hq => cases hq; exact k13
      | 14, hq => cases hq; exact k14
      | 15, hq => cases hq; exact k15
      | 16, hq => cases hq; exact k16
      | 17, hq => cases hq; exact k17
      | 18, hq => cases hq; exact k18
      | k + 19, hq => simp [classes] at hq
    · rw [hca] at hq
      match k, hq with
      | 0, hq => cases hq; exact ⟨fun N z => ⟨(fun k h => by cases h), ak0, p0b, ap0, p0c⟩, p0a⟩
      | 1, hq => cases hq; exact ⟨fun N z => ⟨(fun k h => by cases h), ak1, p1b, ap1, p1c⟩, p1a⟩
      | 2, hq => cases hq; exact ⟨fun N z => ⟨(fun k h => by cases h), ak2, p2b, ap2, p2c⟩, p2a⟩
      | 3, hq => cases hq; exact ⟨fun N z => ⟨(fun k h => by cases h), ak3, p3b, ap3, p3c⟩, p3a⟩
      | 4, hq => cases hq; exact ⟨fun N z => ⟨(fun k h => by cases h), ak4, p4b, ap4, p4c⟩, ak4, ap4, p4b, p4c, p4a, p4d⟩
      | 5, hq => cases hq; exact ⟨fun N z => ⟨(fun k h => by cases h), ak5, p5b, ap5, p5c⟩, ak5, ap5, p5b, p5c, p5a, p5d⟩
      | 6, hq => cases hq; exact ⟨fun N z => ⟨(fun k h => by cases h), ak6, p6b, ap6, p6c⟩, ak6, ap6, p6b, p6c, p6a, p6d⟩
      | 7, hq => cases hq; exact ⟨fun N z => ⟨(fun k h => by cases h), ak7, p7b, ap7, p7c⟩, ak7, ap7, p7b, p7c, p7a, p7d⟩
      | k + 8, hq => simp [ax_tys] at hq
  have hm : mK dC dI ca s := ⟨hK, fun w hw => va_Nw.of (ax_onN (wm_n_ok w hw)) (hts w (in_wm_n w hw)), fun C hC => va_AO.of (hts _ (in_wm_ao _ (List.mem_map_of_mem hC)))⟩
  have hsk : sK dC dI ca s := ⟨hK, fun w hw => va_Nw.of (ax_onN (sk_n_ok w hw)) (hts w (in_sk_n w hw)), fun C hC => va_AO.of (hts _ (in_sk_ao _ (List.mem_map_of_mem hC))), ax_aoA (hts (.arrayOver (.array .byte)) (tk_3 _ (List.mem_of_getElem? (i := 153) (by decide +kernel)))), ax_aoA (hts (.arrayOver (.array .long)) (tk_3 _ (List.mem_of_getElem? (i := 16) (by decide +kernel))))⟩
  have hx9 : ∀ w ∈ lw_x, w.before #[Value.ref b] s = true := fun w hw => by
    rcases List.mem_append.mp hw with h | h
    · exact hts w h
    · rcases List.mem_cons.mp h with rfl | h
      · exact hflat _ in_ref1
      · rcases List.mem_cons.mp h with rfl | h
        · exact hflat _ in_ref2
        · exact absurd h List.not_mem_nil
  have hh : kA hAtoms s := fun w hw => ax_any (List.all_eq_true.mp hA_stay w hw) (hx9 w (in_hAtoms w hw))
  have he : kA eAtoms s := fun w hw => ax_any (List.all_eq_true.mp eA_stay w hw) (hx9 w (in_eAtoms w hw))
  have hSS : s.vm.findClass R_SS = some c7 := k7.2.1
  have hMM : s.vm.findClass R_MM = some c0 := k0.2.1
  have hs0 := ax_str hSS (hts (.stringRef R_SS 190 "there is none such") (tk_11 _ (List.mem_of_getElem? (i := 105) (by decide +kernel))))
  have hs1 := ax_str hSS (hts (.stringRef R_SS 345 "no such side, or not so many steps") (tk_11 _ (List.mem_of_getElem? (i := 124) (by decide +kernel))))
  have hs2 := ax_str hSS (hts (.stringRef R_SS 350 "no call runs") (tk_11 _ (List.mem_of_getElem? (i := 127) (by decide +kernel))))
  have hst : ∀ i : Nat, ∃ q : Nat, ∀ z : Nat × String, strs[i]? = some z → vk_R R_MM z.1 z.2 q s ∧ va_Any "java/lang/String" s s.heap q := by
    intro i
    cases h : strs[i]? with
    | none => exact ⟨0, fun z hz => by cases hz⟩
    | some y =>
      have hy : y ∈ strs := List.mem_of_getElem? h
      obtain ⟨q, hq⟩ := ax_strA hMM (hts _ (in_strs _ (List.mem_map_of_mem hy))) (hflat _ (in_exact _ (List.mem_map_of_mem hy)))
      exact ⟨q, fun z hz => by cases hz; exact hq⟩
  obtain ⟨sa, hsa⟩ := Classical.axiomOfChoice hst
  exact ⟨dC, dI, ca, sa, hm, ⟨⟨hsk, he, hs0, hs1, hs2⟩, va_Nc.of (hflat _ in_notC)⟩, hh, hsa⟩
