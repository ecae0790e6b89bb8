theorem d_JA_copyOf_0 : decode b_JA_copyOf 0 = .ok (.iload_n 1, 1) := by decide +kernel
theorem d_JA_copyOf_1 : decode b_JA_copyOf 1 = .ok (.aload_n 0, 1) := by decide +kernel
theorem d_JA_copyOf_2 : decode b_JA_copyOf 2 = .ok (.arraylength, 1) := by decide +kernel
theorem d_JA_copyOf_3 : decode b_JA_copyOf 3 = .ok (.if_icmp .ne 11, 3) := by decide +kernel
theorem d_JA_copyOf_14 : decode b_JA_copyOf 14 = .ok (.iload_n 1, 1) := by decide +kernel
theorem d_JA_copyOf_15 : decode b_JA_copyOf 15 = .ok (.newarray .byte, 2) := by decide +kernel
theorem d_JA_copyOf_17 : decode b_JA_copyOf 17 = .ok (.astore_n 2, 1) := by decide +kernel
theorem d_JA_copyOf_18 : decode b_JA_copyOf 18 = .ok (.aload_n 0, 1) := by decide +kernel
theorem d_JA_copyOf_19 : decode b_JA_copyOf 19 = .ok (.iconst 0, 1) := by decide +kernel
theorem d_JA_copyOf_20 : decode b_JA_copyOf 20 = .ok (.aload_n 2, 1) := by decide +kernel
theorem d_JA_copyOf_21 : decode b_JA_copyOf 21 = .ok (.iconst 0, 1) := by decide +kernel
theorem d_JA_copyOf_22 : decode b_JA_copyOf 22 = .ok (.aload_n 0, 1) := by decide +kernel
theorem d_JA_copyOf_23 : decode b_JA_copyOf 23 = .ok (.arraylength, 1) := by decide +kernel
theorem d_JA_copyOf_24 : decode b_JA_copyOf 24 = .ok (.iload_n 1, 1) := by decide +kernel
theorem d_JA_copyOf_25 : decode b_JA_copyOf 25 = .ok (.invokestatic 304, 3) := by decide +kernel
theorem d_JA_copyOf_28 : decode b_JA_copyOf 28 = .ok (.invokestatic 150, 3) := by decide +kernel
theorem d_JA_copyOf_31 : decode b_JA_copyOf 31 = .ok (.aload_n 2, 1) := by decide +kernel
theorem d_JA_copyOf_32 : decode b_JA_copyOf 32 = .ok (.areturn, 1) := by decide +kernel
theorem e_min {N : Nat} (hN : N < 2 ^ 28) : (if nI (2 * N) < nI N then nI (2 * N) else nI N) = nI N := by
  refine if_neg (fun h => ?_)
  have h2 := (nI_ltI (a := 2 * N) (b := N) (by omega) (by omega)).mp h
  omega
theorem e_fits {f : Nat → Int32} (hf : ∀ i, fits .byte (.int (f i)) = true) (N : Nat) : ∀ i, i < (nI N).toNatClampNeg → fits .byte (.int (f ((0 : Int32).toNatClampNeg + i))) = true := fun i _ => hf _
theorem e_cpy {f : Nat → Int32} (hf : ∀ i, fits .byte (.int (f i)) = true) (a b n : Nat) : ∀ i, fits .byte (.int (va_cpy f (fun _ => (0 : Int32)) a b n i)) = true := by
  intro i
  unfold va_cpy
  split
  · exact hf _
  · show fits .byte (.int 0) = true
    decide
set_option maxHeartbeats 4000000 in
set_option maxRecDepth 100000 in
/-- copyOf with twice the length -/
theorem e_JA_copyOf (l : Launch) (dC : Nat → ClassId) (dI : Nat → Nat → Nat) (ca : Nat → ClassId) (x0 N : Nat) (f : Nat → Int32) (hf : ∀ i, fits .byte (.int (f i)) = true) (hN1 : 0 < N) (hN : N < 2 ^ 28) : CT l classes (dC, dI) (sK dC dI ca) sk y_JA_copyOf b_JA_copyOf 3 (some (.array (.byte))) 1 40 1 (2 * N) [.ref x0, .int (nI (2 * N))] [(x0, .inl (ca 0, N, .inl f))] (fun (v : Option Value) (u : Nat × (Nat → Int32)) => v = some (.ref u.1) ∧ ∀ i, fits .byte (.int (u.2 i)) = true) (fun (u : Nat × (Nat → Int32)) => [(x0, .inl (ca 0, N, .inl f)), (u.1, .inl (ca 0, 2 * N, .inl u.2))]) := by
  refine ax_of (by decide) (Nat.le_of_ble_eq_true rfl) ?_
  intro p e s m below meth c A ls hAt hK hP hD hS hA hl
  obtain ⟨hx, hb, hr, hml, hown, hts, hlocks, hin⟩ := hAt
  have hl : lv_has ls 3 [(0, .ref x0), (1, .int (nI (2 * N)))] := hl
  refine lv_iload_n hx hb d_JA_copyOf_0 rfl (lv_at hl 1 rfl) ?_
  refine lv_aload_n hx hb d_JA_copyOf_1 rfl (lv_at hl 0 rfl) ?_
  refine va_alen hx hb hK.1 hP 0 0 rfl rfl (v := nI N) rfl d_JA_copyOf_2 ?_
  refine lv_icmp_ne (tgt := 14) hx hb d_JA_copyOf_3 (by decide) (fun _ => ?_) (fun h => absurd ((nI_eq (by omega) (by omega)).mp h) (by omega))
  refine lv_iload_n hx hb d_JA_copyOf_14 rfl (lv_at hl 1 rfl) ?_
  refine ax_newa (atype := .byte) (ty := .byte) (n := nI (2 * N)) (N' := 2 * N) (a0 := (2 * N, .inl (fun _ => 0))) hx hb (hts _ xs_34) rfl hK.1 0 rfl (fun C h => by cases h) hP hD hS hA (fun _ => rfl) (nI_pos (by omega)) (nI_clamp (by omega)) (by show 2 * N * 1 ≤ 536870912; omega) (by show 0 + 1 ≤ 1; omega) (by show 0 + 2 * N ≤ 2 * N; omega) d_JA_copyOf_15 (fun qm H hP hD hS => ?_)
  have hP : va_P (dC, dI) classes [(x0, .inl (ca 0, N, .inl f)), (qm, .inl (ca 0, 2 * N, .inl (fun _ => 0)))] H := hP
  have hD : va_D A [(x0, .inl (ca 0, N, .inl f)), (qm, .inl (ca 0, 2 * N, .inl (fun _ => 0)))] := hD
  refine lv_astore_n (lv' := [(2, .ref qm), (0, .ref x0), (1, .int (nI (2 * N)))]) hx hb d_JA_copyOf_17 rfl hl (by decide) rfl (fun ls hl => ?_)
  refine lv_aload_n hx hb d_JA_copyOf_18 rfl (lv_at hl 1 rfl) ?_
  refine lv_iconst (v := 0) hx hb d_JA_copyOf_19 (by decide) ?_
  refine lv_aload_n hx hb d_JA_copyOf_20 rfl (lv_at hl 0 rfl) ?_
  refine lv_iconst (v := 0) hx hb d_JA_copyOf_21 (by decide) ?_
  refine lv_aload_n hx hb d_JA_copyOf_22 rfl (lv_at hl 1 rfl) ?_
  refine va_alen hx hb hK.1 hP 0 0 rfl rfl (v := nI N) rfl d_JA_copyOf_23 ?_
  refine lv_iload_n hx hb d_JA_copyOf_24 rfl (lv_at hl 2 rfl) ?_
  refine va_mmin hx hb (hml.trans hl.1.symm) hown (hts _ xs_177) (hts _ xs_178) (hts _ xs_12) (hts _ xs_179) (Nat.le_of_ble_eq_true rfl) (Nat.le_of_ble_eq_true rfl) (by show 0 + 1 ≤ 1; omega) (by show 0 + 2 * N ≤ 2 * N; omega) d_JA_copyOf_25 ?_
  refine lv_topi (fun z e9 => ?_)
  obtain rfl : z = nI N := by rw [e9]; exact e_min hN
  refine va_copyi hx hb (hml.trans hl.1.symm) hown (hts _ xs_180) (hts _ xs_182) (hts _ xs_181) (hts _ xs_13) hK.1 hP hD hS 0 1 0 0 (ty := .byte) rfl rfl rfl rfl rfl (by decide) (by decide) (nI_pos (by omega)) (by rw [nI_clamp (by omega)]; show 0 + N ≤ N; omega) (by rw [nI_clamp (by omega)]; show 0 + N ≤ 2 * N; omega) (e_fits hf N) (Nat.le_of_ble_eq_true rfl) (Nat.le_of_ble_eq_true rfl) d_JA_copyOf_28 (fun H locs hP hD hS => ?_)
  have hg9 := e_cpy hf (Int32.toNatClampNeg 0) (Int32.toNatClampNeg 0) (nI N).toNatClampNeg
  generalize va_cpy f (fun _ => (0 : Int32)) (Int32.toNatClampNeg 0) (Int32.toNatClampNeg 0) (nI N).toNatClampNeg = g9 at hP hD hg9
  have hP : va_P (dC, dI) classes [(x0, .inl (ca 0, N, .inl f)), (qm, .inl (ca 0, 2 * N, .inl g9))] H := hP
  have hD : va_D A [(x0, .inl (ca 0, N, .inl f)), (qm, .inl (ca 0, 2 * N, .inl g9))] := hD
  refine lv_aload_n hx hb d_JA_copyOf_31 rfl (lv_at hl 0 rfl) ?_
  refine W.widen (k := 1) (n := 2 * N) (by omega) (by omega) ?_
  exact ax_aret hx hb hr (Or.inr ⟨_, rfl⟩) (Or.inr ⟨_, rfl⟩) hlocks hP hD hS (qm, g9) ⟨rfl, hg9⟩ [0, 1] rfl (by decide) rfl (Nat.le_refl _) (Nat.le_refl _) d_JA_copyOf_32
