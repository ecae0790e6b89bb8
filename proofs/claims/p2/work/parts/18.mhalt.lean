theorem d_MH_init_0 : decode b_MH_init 0 = .ok (.aload_n 0, 1) := by decide +kernel
theorem d_MH_init_1 : decode b_MH_init 1 = .ok (.invokespecial 1, 3) := by decide +kernel
theorem d_MH_init_4 : decode b_MH_init 4 = .ok (.return_, 1) := by decide +kernel
/-- what the making of a Throwable asks of the tables, and of Throwable's statics -/
def tAtoms : List Cond := Bundle.throwableAtoms ++
  ([.isRef (.static Bundle.tN "UNASSIGNED_STACK" Bundle.steD), .isRef (.static Bundle.tN "SUPPRESSED_SENTINEL" Bundle.listD), .fieldLink Bundle.tN 198 Bundle.tN "backtrace" "Ljava/lang/Object;", .lays Bundle.tN Bundle.tN "backtrace" "Ljava/lang/Object;", .laysStatic Bundle.tN "UNASSIGNED_STACK" Bundle.steD, .laysStatic Bundle.tN "SUPPRESSED_SENTINEL" Bundle.listD, .initialized Bundle.tN] : List Cond)
def hAtoms : List Cond := tAtoms ++ (Bundle.chain0Atoms "java/lang/RuntimeException" ["java/lang/Exception"] ++
  ([.methodLink R_MH 1 (Bundle.init0 "java/lang/RuntimeException"), .selects R_MH Bundle.tFill0 Bundle.tFill0, .selects R_MH Bundle.tFill Bundle.tFill, .instantiable R_MH 8,
   .lays R_MH Bundle.tN "cause" "Ljava/lang/Throwable;", .lays R_MH Bundle.tN "stackTrace" Bundle.steD, .lays R_MH Bundle.tN "suppressedExceptions" Bundle.listD, .lays R_MH Bundle.tN "backtrace" "Ljava/lang/Object;"] : List Cond))
def kA (L : List Cond) (U : State) : Prop := ∀ w ∈ L, w.before #[] U = true
def kH (dC : Nat → ClassId) (dI : Nat → Nat → Nat) (ca : Nat → ClassId) (h0 : Nat) (U : State) : Prop :=
  mK dC dI ca U ∧ kA hAtoms U ∧ ∃ kX : Class, U.vm.classes[dC 1]? = some kX ∧ U.heap[h0]? = some (freshCell (dC 1) kX)
set_option maxHeartbeats 4000000 in
theorem c_MH_init (l : Launch) (hl9 : l.stackTraces = false) (dC : Nat → ClassId) (dI : Nat → Nat → Nat) (ca : Nat → ClassId) (h0 : Nat) : CT l classes (dC, dI) (kH dC dI ca h0) wm y_MH_init b_MH_init 1 none 6 80 0 0 [.ref h0] [(h0, .inr (1, [.null, .null, .null, .null, .null, .int 0, .int 0, .int 0]))] (fun (v : Option Value) (fs : List Value) => v = none ∧ fs.length = 8) (fun (fs : List Value) => [(h0, .inr (1, fs))]) := by
  refine ax_of (by decide) (Nat.le_of_ble_eq_true rfl) ?_
  intro p e s m below meth c A ls hAt hK hP hD hS hA hl
  obtain ⟨hx, hb, hr, hml, hown, hts, hlocks, hin⟩ := hAt
  have hl : lv_has ls 1 [(0, .ref h0)] := hl
  obtain ⟨hK, hat, kX, hkX, hfresh⟩ := hK
  have h : ∀ w ∈ hAtoms, w.before #[] s = true := hat
  have ht : ∀ w ∈ tAtoms, w.before #[] s = true := fun w hw => h w (List.mem_append_left _ hw)
  have hu : ∀ w, w ∈ (Bundle.chain0Atoms "java/lang/RuntimeException" ["java/lang/Exception"] ++ ([.methodLink R_MH 1 (Bundle.init0 "java/lang/RuntimeException"), .selects R_MH Bundle.tFill0 Bundle.tFill0, .selects R_MH Bundle.tFill Bundle.tFill, .instantiable R_MH 8,
   .lays R_MH Bundle.tN "cause" "Ljava/lang/Throwable;", .lays R_MH Bundle.tN "stackTrace" Bundle.steD, .lays R_MH Bundle.tN "suppressedExceptions" Bundle.listD, .lays R_MH Bundle.tN "backtrace" "Ljava/lang/Object;"] : List Cond)) → w.before #[] s = true := fun w hw => h w (List.mem_append_right _ hw)
  refine lv_aload_n hx hb d_MH_init_0 rfl (lv_at hl 0 rfl) ?_
  intro T hT X
  have howns : e.platform.frameOwnsMonitors = true := by rw [X.admits.platform]
  have hfin : e.platform.finalization = false := by rw [X.admits.platform]
  have hpl : e.platform.magicAccessors = ({} : Platform).magicAccessors := by rw [X.admits.platform]
  have htr : e.platform.stackTraces = false := by rw [Example.NoTraceControls.admits_follows X.admits]; exact hl9
  obtain ⟨TT, Z, L, LZ, Y⟩ := ThrowableC.of_atoms (args := #[]) howns hfin hpl (fun x hx => ht x (List.mem_append_left _ hx))
  obtain ⟨P1, Ps, hlen, L1, hL, hP1m, hlink1, hlink⟩ := Bundle.chain0 (args := #[]) hpl Y.init0 ["java/lang/Exception"] "java/lang/RuntimeException" (by decide +kernel) (by decide +kernel) (fun x hx => hu x (List.mem_append_left _ hx))
  have hf := (hK.1.1 1 _ rfl).2.1
  have hfound : s.vm.findClass R_MH = some (dC 1) := hf
  have hq : ∀ w, w ∈ ([.methodLink R_MH 1 (Bundle.init0 "java/lang/RuntimeException"), .selects R_MH Bundle.tFill0 Bundle.tFill0, .selects R_MH Bundle.tFill Bundle.tFill, .instantiable R_MH 8,
   .lays R_MH Bundle.tN "cause" "Ljava/lang/Throwable;", .lays R_MH Bundle.tN "stackTrace" Bundle.steD, .lays R_MH Bundle.tN "suppressedExceptions" Bundle.listD, .lays R_MH Bundle.tN "backtrace" "Ljava/lang/Object;"] : List Cond) → w.before #[] s = true := fun w hw => hu w (List.mem_append_right _ hw)
  have a' : ∀ w : Cond, w.before #[] s = true → w.holds #[] s none s [] = true := fun _ hw => hw
  obtain ⟨c1, kX', hc1, hk, hord, -, -, hn8⟩ := Cond.instantiable_spec (a' _ (hq (.instantiable R_MH 8) (by simp)))
  cases Option.some.inj (hc1.symm.trans hfound)
  cases Option.some.inj (hkX.symm.trans hk)
  have hsel0 : selectMethod e.platform s.vm (dC 1) TT.fill0 = .method TT.fill0 := by
    obtain ⟨c2, r2, m2, q1, q2, q3, q4, -⟩ := Cond.selects_spec (a' _ (hq (.selects R_MH Bundle.tFill0 Bundle.tFill0) (by simp)))
    cases Option.some.inj (q1.symm.trans hfound)
    cases Option.some.inj (q2.symm.trans (State.methodFound?_of_named Y.fill0 (by decide)))
    cases Option.some.inj (q3.symm.trans Y.fill0)
    rw [Launch.admits_selectMethod X.admits]; exact q4
  have hselF : selectMethod e.platform s.vm (dC 1) TT.fill = .method TT.fill := by
    obtain ⟨c2, r2, m2, q1, q2, q3, q4, -⟩ := Cond.selects_spec (a' _ (hq (.selects R_MH Bundle.tFill Bundle.tFill) (by simp)))
    cases Option.some.inj (q1.symm.trans hfound)
    cases Option.some.inj (q2.symm.trans (State.methodFound?_of_named Y.fill (by decide)))
    cases Option.some.inj (q3.symm.trans Y.fill)
    rw [Launch.admits_selectMethod X.admits]; exact q4
  obtain ⟨cellS, hcS0, hiss⟩ := Y.statics
  obtain ⟨u0, hu0⟩ := Cond.staticRefV Y.unassigned L.unassignedStatic L.statics hcS0 hiss (a' _ (ht (.isRef (.static Bundle.tN "UNASSIGNED_STACK" Bundle.steD)) (List.mem_append_right _ (by simp))))
  obtain ⟨sen, hsen⟩ := Cond.staticRefV Y.sentinel L.sentinelStatic L.statics hcS0 hiss (a' _ (ht (.isRef (.static Bundle.tN "SUPPRESSED_SENTINEL" Bundle.listD)) (List.mem_append_right _ (by simp))))
  obtain ⟨ci198, i198, fB, hk198, hg198, ha198, hsB, -, hnB, htB, hffB⟩ := Cond.ownField (t := .object "java/lang/Object") Y.found L.cls (by decide +kernel) (a' _ (ht (.fieldLink Bundle.tN 198 Bundle.tN "backtrace" "Ljava/lang/Object;") (List.mem_append_right _ (by simp)))) (a' _ (ht (.lays Bundle.tN Bundle.tN "backtrace" "Ljava/lang/Object;") (List.mem_append_right _ (by simp)))) e.platform hpl
  have hcellS : T.heap[TT.aS]? = some cellS := by rw [hT]; exact hcS0
  have hknownS : cellS.vm ≠ .unknown := by
    intro hu9
    rw [hu9] at hiss
    cases hiss
  have hcell : T.heap[h0]? = some (freshCell (dC 1) kX) := by rw [hT]; exact hfresh
  have hneS : TT.aS ≠ h0 := by
    intro h9
    rw [h9, hcell] at hcellS
    cases hcellS
    cases hiss
  obtain ⟨tyC, dCc, hdC, hdnC⟩ := Cond.laysAt hfound hk Y.cause (a' _ (hq (.lays R_MH Bundle.tN "cause" "Ljava/lang/Throwable;") (by simp)))
  obtain ⟨tyS, dS, hdS, hdnS⟩ := Cond.laysAt hfound hk Y.stack (a' _ (hq (.lays R_MH Bundle.tN "stackTrace" Bundle.steD) (by simp)))
  obtain ⟨tyP, dP, hdP, hdnP⟩ := Cond.laysAt hfound hk Y.supp (a' _ (hq (.lays R_MH Bundle.tN "suppressedExceptions" Bundle.listD) (by simp)))
  obtain ⟨tyB, dB, hdB, hdnB⟩ := Cond.laysAt hfound hk hffB (a' _ (hq (.lays R_MH Bundle.tN "backtrace" "Ljava/lang/Object;") (by simp)))
  have bC := Cond.laysApart hdB hdC hdnB hdnC (by rw [hnB, Y.causeName]; decide)
  have bS := Cond.laysApart hdB hdS hdnB hdnS (by rw [hnB, Y.stackName]; decide)
  have bP := Cond.laysApart hdB hdP hdnB hdnP (by rw [hnB, Y.suppName]; decide)
  have hskip : SkipFacts TT e.platform s (fun u => u) u0 ((preparedCellV TT.toThrowableT (freshCell (dC 1) kX) h0 u0 sen).withEntry T.cur) :=
    ⟨{ ci198 := ci198, i198 := i198, fBack := fB }, ⟨hk198, hg198, ha198, hsB⟩, by
      have := fresh_default (c := dC 1) tyB
      rw [htB] at this
      simpa [preparedCellV, Cell.setSlot, Cell.withEntry, Array.getElem?_setIfInBounds, bC, bS, bP, bC.symm, bS.symm, bP.symm, defaultValue] using this, fun _ _ => rfl⟩
  have hin0 : (Cond.instanceMethod (Bundle.init0 "java/lang/RuntimeException")).before #[] s = true := hu _ (List.mem_append_left _ (by simp [Bundle.chain0Atoms, Bundle.passAtoms]))
  have hcd0 : (Cond.code (Bundle.init0 "java/lang/RuntimeException") Bundle.five 1 none).before #[] s = true := hu _ (List.mem_append_left _ (by simp [Bundle.chain0Atoms, Bundle.passAtoms]))
  obtain ⟨tm, methC, cdC, kC, vm₁, hnC, -, -, -, -, -, -, -, hW₁, st1⟩ := Steps.initCold (tb := p.tables) (e := e) (below := below) (s := s) (U := T) X.here hx X.warmed hpl hown (t := Bundle.init0 "java/lang/RuntimeException") rfl rfl ⟨by decide, by decide⟩
    (hq (.methodLink R_MH 1 (Bundle.init0 "java/lang/RuntimeException")) (by simp)) hin0 (bytes := Bundle.five) (maxL := 1) hcd0
    (f := F0 m 1 ls [.ref h0]) rfl (a := h0) (rest := []) rfl (by rw [hb]; exact d_MH_init_1)
  cases Option.some.inj (hnC.symm.trans hP1m)
  have X₁ := X.noted hW₁
  obtain ⟨vm₂, X₂, st2⟩ := X₁.ctorPlainOffV hx (g := F0 m 1 ls []) rfl (by rw [hml]; exact hl.1) TT L Z LZ (P1 :: Ps)
    (fun P hP => by rcases List.mem_cons.mp hP with rfl | hP; exact L1; exact hL P hP) ⟨hlink1, hlink⟩ (u0 := u0) (sen := sen) (self := h0) (cell := freshCell (dC 1) kX) (cellS := cellS)
    hcell (fun _ => by simp) (by simp) rfl rfl hsel0 hselF hcellS hneS hknownS hu0 hsen
    (Takes.of_laid hk hord tyC (by rw [Y.causeType]; rfl)) (Takes.of_laid hk hord tyS (by rw [Y.stackType]; exact fits_refV_array _ u0)) (Takes.of_laid hk hord tyP (by rw [Y.suppType]; exact fits_refV_object _ sen)) Y.objLocals hskip htr [] (by rw [hb]; exact d_MH_init_1)
    (by simp only [List.length_cons, hlen]; exact Nat.le_of_ble_eq_true rfl) (by simp only [List.length_cons, hlen]; exact Nat.le_of_ble_eq_true rfl)
  generalize hcell9 : (preparedCellV TT.toThrowableT (freshCell (dC 1) kX) h0 u0 sen).setSlot TT.fStack.slot u0.v = cell9 at X₂ st2
  have hc9 : cell9.cls = dC 1 := by rw [← hcell9]; rfl
  have hv9 : cell9.vm = .none := by rw [← hcell9]; rfl
  have hs9 : cell9.slots.size = (freshCell (dC 1) kX).slots.size := by rw [← hcell9]; simp [preparedCellV, Cell.setSlot]
  obtain ⟨r9, hr9, cellO, g1, g2, g3, g4⟩ := hP 0 _ rfl
  cases hr9
  have g1 : s.heap[h0]? = some cellO := g1
  cases hfresh.symm.trans g1
  obtain ⟨fs, hfs⟩ : ∃ fs : List Value, fs = (List.range 8).map (fun k => (cell9.slots[dI 1 k]?).getD .null) := ⟨_, rfl⟩
  have hP2 : va_P (dC, dI) classes [(h0, .inr (1, fs))] (((T.setVm vm₁).setVm vm₂).setCell h0 cell9).heap := by
    intro k q hk9
    match k, hk9 with
    | 0, hk9 =>
      cases hk9
      refine ⟨(R_MH, F_MH, 8), rfl, cell9, heapAt_setCell_self (s := (T.setVm vm₁).setVm vm₂) cell9 (Array.getElem?_eq_some_iff.mp hcell).1, hc9, hv9, fun j hj => ?_⟩
      have g5 := g4 j hj
      have hlt : dI 1 j < cell9.slots.size := by rw [hs9]; exact (Array.getElem?_eq_some_iff.mp g5).1
      have hj : j < 8 := hj
      show cell9.slots[dI 1 j]? = some (vp_V fs j)
      rw [hfs, vp_V]
      simp [List.getD, hj, Array.getElem?_eq_getElem hlt]
    | k + 1, hk9 => simp at hk9
  have hAh : A h0 := hD.2 0 _ rfl
  have hD2 : va_D A [(h0, .inr (1, fs))] := ⟨fun i j x y hx hy _ => by
      have h1 : i < 1 := (List.getElem?_eq_some_iff.mp hx).1
      have h2 : j < 1 := (List.getElem?_eq_some_iff.mp hy).1
      omega, fun k q hk9 => by
      have h1 : k < 1 := (List.getElem?_eq_some_iff.mp hk9).1
      have h2 : k = 0 := by omega
      subst h2
      cases hk9
      exact hAh⟩
  have hS2 : va_S A s.heap (((T.setVm vm₁).setVm vm₂).setCell h0 cell9).heap ([] ++ [⟨h0, TT.fCause.slot⟩, ⟨h0, TT.fStack.slot⟩, ⟨h0, TT.fSupp.slot⟩, ⟨h0, TT.fStack.slot⟩]) := by
    refine ⟨?_, fun q h1 h2 => ?_, fun q hq => ?_⟩
    · rw [← hT]; simp [State.setCell]
    · rw [heapAt_setCell_ne (s := (T.setVm vm₁).setVm vm₂) cell9 (fun h9 => h2 (by rw [← h9]; exact hAh))]
      show T.heap[q]? = _
      rw [hT]
    · simp at hq
      rcases hq with rfl | rfl | rfl | rfl <;> exact hAh
  obtain ⟨t9, a9, b9⟩ := ax_vret (post := fun (v : Option Value) (fs : List Value) => v = none ∧ fs.length = 8) (ws1 := fun (fs : List Value) => [(h0, .inr (1, fs))]) (mc := 0) (ms := 0) (l := l) (e := e) (ls := ls) hx hb hr hlocks hP2 hD2 hS2 fs ⟨rfl, by rw [hfs]; simp⟩ [0] rfl (by decide) rfl (Nat.le_refl _) (Nat.le_refl _) d_MH_init_4 _ rfl X₂
  exact ⟨t9, st1 _ fun acts => by
    have h9 := st2 t9 a9
    rw [doInvoke_state] at h9 ⊢
    exact h9, b9⟩
