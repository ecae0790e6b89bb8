/-! FINDING THE HANDLER -/
theorem ax_asgSelf (vm : Vm) (c : ClassId) : vm.assignable c c = true := by
  show vm.assignableAux (255 + 1) c c = true
  rw [Vm.assignableAux]
  simp
section AXX
variable {p : Program} {l : Launch} {e : Env} {R : Room} {s : State} {m : MethodId} {args : Array Value} {below : List Frame} {meth : Method} {c : Code} {T : State} {locs : List Loc} {cells slots : Nat} {pc : Nat} {ls : Array Slot} {rest : List Value}
abbrev ax_tab (c : Code) (hh : List (Nat × Nat × Nat × Nat)) : Prop := c.exceptionTable.toList.map (fun h => (h.startPc, h.endPc, h.handlerPc, h.catchType)) = hh
/-- a table whose first row takes it -/
theorem ax_fnd1 (X : Stand p l e R s m args below meth c T locs cells slots) {s0 e0 h ct : Nat} {tl : List (Nat × Nat × Nat × Nat)} (htab : ax_tab c ((s0, e0, h, ct) :: tl)) (hcov : s0 ≤ pc ∧ pc < e0) (h0 : ct ≠ 0) {own C : String} (hown : s.vm.findClass own = some m.cls) (hlink : (Cond.classLink own ct C).before args s = true)
    {x : Addr} {cell : Cell} (hcell : T.heap[x]? = some cell) (hobj : cell.vm.isStatics = false) (hcls : s.vm.findClass C = some cell.cls) :
    ∃ vm' : Vm, s.WarmedH vm' ∧ ax_Fnd e ((T.setTop (F0 m pc ls rest)).pushFrame (.throwing x)) (F0 m pc ls rest) x (.found h) vm' := by
  have hpl : e.platform.magicAccessors = ({} : Platform).magicAccessors := by rw [X.admits.platform]
  obtain ⟨cc, hfcc, hcl⟩ := Cond.classLink_spec hown hlink e.platform hpl
  cases hcls.symm.trans hfcc
  obtain ⟨hg₁, hwarm₁, hready₁⟩ := State.classEntry (e := e) X.warmed hcl
  obtain ⟨kc, hkc⟩ := Vm.classAt_of_findClass hcls
  obtain ⟨k1, hk1, -⟩ := hwarm₁.alike.2.2 _ _ hkc
  refine ⟨_, hwarm₁, fun Q E d acts => ?_⟩
  cases htl : c.exceptionTable.toList with
  | nil => rw [ax_tab, htl] at htab; cases htab
  | cons y t =>
    rw [ax_tab, htl, List.map_cons] at htab
    obtain ⟨hy, -⟩ := List.cons.inj htab
    have hy1 : y.startPc = s0 := congrArg Prod.fst hy
    have hy2 : y.endPc = e0 := congrArg (fun z => z.2.1) hy
    have hy3 : y.handlerPc = h := congrArg (fun z => z.2.2.1) hy
    have hy4 : y.catchType = ct := congrArg (fun z => z.2.2.2) hy
    subst hy1 hy2 hy3 hy4
    have hm9 : ((T.setTop (F0 m pc ls rest)).pushFrame (.throwing x)).vm.method? (F0 m pc ls rest).method = some meth := X.method'
    rw [W.findHandler_eq hm9 X.code, htl]
    exact ax_goCold (s := (T.setTop (F0 m pc ls rest)).pushFrame (.throwing x)) (f := F0 m pc ls rest) (by simp only [covers, Bool.and_eq_true, decide_eq_true_eq]; exact hcov) h0 hg₁ (X.warmed.alike.symm.trans hwarm₁.alike).size_le (cell := cell) hcell (fun k => VmData.ne_statics_of hobj k) ⟨k1, hk1⟩ ⟨k1, hk1⟩ (ax_asgSelf _ _)
/-- a table whose first row doesn't, and whose second one does -/
theorem ax_fnd2 (X : Stand p l e R s m args below meth c T locs cells slots) {s0 e0 h ct s1 e1 h1 ct1 : Nat} {tl : List (Nat × Nat × Nat × Nat)} (htab : ax_tab c ((s0, e0, h, ct) :: (s1, e1, h1, ct1) :: tl)) (hcov : s0 ≤ pc ∧ pc < e0) (hcov1 : s1 ≤ pc ∧ pc < e1) (h0 : ct ≠ 0) (h01 : ct1 ≠ 0) {own B C : String} (hown : s.vm.findClass own = some m.cls) (hlinkB : (Cond.classLink own ct B).before args s = true) (hlink : (Cond.classLink own ct1 C).before args s = true)
    {x : Addr} {cell : Cell} (hcell : T.heap[x]? = some cell) (hobj : cell.vm.isStatics = false) (hcls : s.vm.findClass C = some cell.cls) (hno : va_Nc C B s) :
    ∃ vm' : Vm, s.WarmedH vm' ∧ ax_Fnd e ((T.setTop (F0 m pc ls rest)).pushFrame (.throwing x)) (F0 m pc ls rest) x (.found h1) vm' := by
  have hpl : e.platform.magicAccessors = ({} : Platform).magicAccessors := by rw [X.admits.platform]
  obtain ⟨cb, hfcb, hclb⟩ := Cond.classLink_spec hown hlinkB e.platform hpl
  obtain ⟨cc, hfcc, hcl⟩ := Cond.classLink_spec hown hlink e.platform hpl
  cases hcls.symm.trans hfcc
  obtain ⟨hg₀, hwarm₀, -⟩ := State.classEntry (e := e) X.warmed hclb
  obtain ⟨hg₁, hwarm₁, -⟩ := State.classEntry (e := e) hwarm₀ hcl
  obtain ⟨kc, hkc⟩ := Vm.classAt_of_findClass hcls
  obtain ⟨kb, hkb⟩ := Vm.classAt_of_findClass hfcb
  obtain ⟨k0, hk0, -⟩ := hwarm₀.alike.2.2 _ _ hkc
  obtain ⟨k2, hk2, -⟩ := hwarm₀.alike.2.2 _ _ hkb
  obtain ⟨k1, hk1, -⟩ := hwarm₁.alike.2.2 _ _ hkc
  have hn0 : s.vm.assignable cell.cls cb = false := by
    obtain ⟨c9, t9, n1, n2, n3⟩ := hno
    cases hcls.symm.trans n1
    cases hfcb.symm.trans n2
    exact n3
  refine ⟨_, hwarm₁, fun Q E d acts => ?_⟩
  cases htl : c.exceptionTable.toList with
  | nil => rw [ax_tab, htl] at htab; cases htab
  | cons y t =>
    rw [ax_tab, htl, List.map_cons] at htab
    obtain ⟨hy, htab2⟩ := List.cons.inj htab
    cases t with
    | nil => cases htab2
    | cons z t2 =>
      rw [List.map_cons] at htab2
      obtain ⟨hz, -⟩ := List.cons.inj htab2
      have hy1 : y.startPc = s0 := congrArg Prod.fst hy
      have hy2 : y.endPc = e0 := congrArg (fun z => z.2.1) hy
      have hy4 : y.catchType = ct := congrArg (fun z => z.2.2.2) hy
      have hz1 : z.startPc = s1 := congrArg Prod.fst hz
      have hz2 : z.endPc = e1 := congrArg (fun z => z.2.1) hz
      have hz3 : z.handlerPc = h1 := congrArg (fun z => z.2.2.1) hz
      have hz4 : z.catchType = ct1 := congrArg (fun z => z.2.2.2) hz
      subst hy1 hy2 hy4 hz1 hz2 hz3 hz4
      have hm9 : ((T.setTop (F0 m pc ls rest)).pushFrame (.throwing x)).vm.method? (F0 m pc ls rest).method = some meth := X.method'
      rw [W.findHandler_eq hm9 X.code, htl]
      rw [ax_goColdNo (s := (T.setTop (F0 m pc ls rest)).pushFrame (.throwing x)) (f := F0 m pc ls rest) (by simp only [covers, Bool.and_eq_true, decide_eq_true_eq]; exact hcov) h0 hg₀ (X.warmed.alike.symm.trans hwarm₀.alike).size_le (cell := cell) hcell (fun k => VmData.ne_statics_of hobj k) ⟨k0, hk0⟩ ⟨k2, hk2⟩ (by rw [hwarm₀.alike.assignable]; exact hn0)]
      exact ax_goCold (s := ((T.setTop (F0 m pc ls rest)).pushFrame (.throwing x)).setVm _) (f := F0 m pc ls rest) (by simp only [covers, Bool.and_eq_true, decide_eq_true_eq]; exact hcov1) h01 hg₁ (hwarm₀.alike.symm.trans hwarm₁.alike).size_le (cell := cell) hcell (fun k => VmData.ne_statics_of hobj k) ⟨k1, hk1⟩ ⟨k1, hk1⟩ (ax_asgSelf _ _)
end AXX
