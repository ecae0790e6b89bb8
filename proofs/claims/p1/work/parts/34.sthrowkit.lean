/-! METHODS OF THE CLASS THAT THROW A NEW EXCEPTION -/
/-- a throw of an object that is of this class -/
def ax_X (C : String) (st : State) (x : Addr) (t : State) : Prop := ∃ ce : Cell, t.heap[x]? = some ce ∧ ce.vm.isStatics = false ∧ st.vm.findClass C = some ce.cls
def ax_QE (C : String) (A : Nat → Prop) : Array Value → State → Outcome → State → Prop :=
  fun _ st oc t => (∃ x : Addr, oc = .threw x ∧ ax_X C st x t) ∧ va_F A st t
def CTE (l : Launch) (cl : List vw_C) (D : va_G) (K : State → Prop) (Z : List Cond) (y : MethodName) (b : ByteArray) (n : Nat) (r : Option FieldType) (fr lo mc ms : Nat) (As : List Value) (ws : va_W) (C : String) : Prop :=
  ∀ sz : Nat, MetT l y (ax_w Z y b n r) ({ frames := fr, cells := mc, slots := ms, locals := lo }) (ax_Pre cl D K As ws sz) (ax_QE C (va_A ws sz)) mc ms (va_A ws sz)
theorem ax_ofE {l : Launch} {cl : List vw_C} {D : va_G} {K : State → Prop} {Z : List Cond} {y : MethodName} {b : ByteArray} {n : Nat} {r : Option FieldType} {fr lo mc ms : Nat} {As : List Value} {ws : va_W} {C : String}
    (hy : plainName y.cls = true) (hn : (lg_sl As).length ≤ n)
    (body : ∀ (p : Program) (e : Env) (s : State) (m : MethodId) (below : List Frame) (meth : Method) (c : Code) (A : Nat → Prop) (ls : Array Slot), ax_At p s m meth c As.toArray Z y b n r → c.exceptionTable.isEmpty = true → K s → va_P D cl ws s.heap → va_D A ws → va_S A s.heap s.heap [] → (∀ q : Nat, s.heap.size ≤ q → A q) → (∀ q : Nat, A q → (∃ (k : Nat) (e : va_E), ws[k]? = some (q, e)) ∨ s.heap.size ≤ q) → lv_has ls n (lv_args 0 As) →
      W p l e ({ frames := fr, cells := mc, slots := ms, locals := lo }) s m As.toArray below meth c s.heap [] 0 0 (MQT below (ax_QE C A) As.toArray s mc ms A) (F0 m 0 ls [])) :
    CTE l cl D K Z y b n r fr lo mc ms As ws C := by
  intro sz
  refine MetT.ofW (cc := b) (maxL := n) (ret := r) hy rfl ?_
  intro p e s m args below meth c s₁ B hml hv
  obtain ⟨rfl, hsz, hP, hK, hD0⟩ := hv
  subst hsz
  have hD := hD0.self (sz := s.heap.size)
  have hts0 := atoms_spec (ws := ax_w Z y b n r) B.pre
  rw [lg_entry_eq]
  exact body p e s m below meth c _ _ ⟨B.exec, B.bytes, B.returns, hml, findClass_of_methodNamed B.named, fun w h => hts0 w (List.mem_cons_of_mem _ h), B.notSynchronized, (name_of_methodNamed B.named B.method).1⟩ (B.noHandlers (hts0 _ List.mem_cons_self)) hK hP hD va_S.rf (fun q h => Or.inr h) (fun q h => h) (lv_entry As hn)
theorem kA_args {L L' : List Cond} {s : State} (hL : L.all ax_stay = true) (h : kA L s) (a : Array Value) (hin : ∀ w ∈ L', w ∈ L) : ∀ w ∈ L', w.before a s = true := by
  intro w hw
  have h1 := List.all_eq_true.mp hL w (hin w hw)
  have h2 := h w (hin w hw)
  by_cases hg : goodWord w = true
  · exact word_at (State.WarmedH.refl s) (good_of_word hg) h2
  · cases w with
    | isRef t =>
      cases t with
      | static C n d => exact h2
      | _ => exact absurd h1 hg
    | laysStatic C n d => exact h2
    | declares x => exact h2
    | castable a b => exact h2
    | _ => exact absurd h1 hg
theorem ax_noSt {D : va_G} {cl : List vw_C} {ws : va_W} {A : Nat → Prop} {s : State} {H : Heap} {locs : List Loc} (hS : va_S A s.heap H locs) (hAi : ∀ q : Nat, A q → (∃ (k : Nat) (e : va_E), ws[k]? = some (q, e)) ∨ s.heap.size ≤ q) (hP : va_P D cl ws s.heap) : ∀ x ∈ locs, ∀ cell, s.heap[x.base]? = some cell → cell.vm.isStatics = false := by
  intro x hx cell hc
  rcases hAi _ (hS.2.2 x hx) with ⟨k, e, hk⟩ | h
  · have h1 := hP k _ hk
    cases e with
    | inl a =>
      have h1 : s.heap[x.base]? = some (vp_cell a.1 a.2) := h1
      cases hc.symm.trans h1
      obtain ⟨a1, a2, z⟩ := a
      rcases z with f | f | f | f | f <;> rfl
    | inr o =>
      obtain ⟨r9, hr9, cellO, g1, g2, g3, g4⟩ := h1
      have g1 : s.heap[x.base]? = some cellO := g1
      cases hc.symm.trans g1
      rw [g3]; rfl
  · exact absurd h (Nat.not_le.mpr (Array.getElem?_eq_some_iff.mp hc).1)
section AXE
variable {p : Program} {l : Launch} {e : Env} {R : Room} {s : State} {m : MethodId} {args : Array Value} {below : List Frame} {meth : Method} {c : Code} {H : Heap} {locs : List Loc} {cells slots : Nat} {Q : State → Prop}
variable {cl : List vw_C} {D : va_G} {tys : List (ClassId × FieldType)} {A : Nat → Prop} {ws : va_W} {cc : ByteArray} {pc : Nat} {ls : Array Slot} {rest : List Value}
/-- a new object of a class that is none of the world's -/
theorem ax_newX (hx : p.tables.exec = Jvm.exec) (hb : c.code = cc) {own C : String} {N index : Nat} (hown : s.vm.findClass own = some m.cls) (hcl : (Cond.classLink own index C).before args s = true) (hinst : (Cond.instantiable C N).before args s = true) (hini : (Cond.initialized C).before args s = true)
    (hP : va_P D cl ws H) (hD : va_D A ws) (hS : va_S A s.heap H locs) (hA : ∀ q, s.heap.size ≤ q → A q) (hcells : cells + 1 ≤ R.cells) (hslots : slots + N ≤ R.slots) (hdg : decode cc pc = .ok (.new index, 3))
    (kk : ∀ (q : Nat) (H1 : Heap), (∃ (cX : ClassId) (kX : Class), s.vm.findClass C = some cX ∧ s.vm.classes[cX]? = some kX ∧ H1[q]? = some (freshCell cX kX) ∧ s.heap.size ≤ q) → va_P D cl ws H1 → va_D A ws → va_S A s.heap H1 locs →
      W p l e R s m args below meth c H1 locs (cells + 1) (slots + N) Q (F0 m (pc + 3) ls (.ref q :: rest))) : W p l e R s m args below meth c H locs cells slots Q (F0 m pc ls rest) := by
  obtain ⟨c1, kX, hc1, hk, -⟩ := Cond.instantiable_spec (show (Cond.instantiable C N).holds args s none s [] = true from hinst)
  refine W.newcK hx hb hown hcl hinst hini rfl hdg hcells hslots hc1 rfl fun H1 kC hkC e1 z1 o1 => ?_
  have hk2 : ∀ (k : Nat) (x : Nat × va_E), ws[k]? = some x → H1[x.1]? = H[x.1]? := fun k x hx => o1 x.1 ((hP k x hx).lt)
  exact kk H.size H1 ⟨c1, kC, hc1, hkC, e1, hS.1⟩ (hP.kept hk2) hD ⟨Nat.le_trans hS.1 (by omega), fun x h1 h2 => (o1 x (Nat.lt_of_lt_of_le h1 hS.1)).trans (hS.2.1 x h1 h2), hS.2.2⟩
theorem ax_ldcSw (hx : p.tables.exec = Jvm.exec) (hb : c.code = cc) {own tx : String} {index q : Nat} (hown : s.vm.findClass own = some m.cls) (hZ : vk_R own index tx q s) (hdg : decode cc pc = .ok (.ldc_w index, 3))
    (k : W p l e R s m args below meth c H locs cells slots Q (F0 m (pc + 3) ls (.ref q :: rest))) : W p l e R s m args below meth c H locs cells slots Q (F0 m pc ls rest) := by
  intro T hT X
  obtain ⟨t, a1, b1⟩ := k T hT X
  exact ⟨t, X.ldcStringW hx hown (text := tx) (a := q) hZ.1 hZ.2 (g := F0 m pc ls rest) rfl (by rw [hb]; exact hdg) t a1, b1⟩
/-- the constructor with the message, and athrow -/
theorem ax_throwCtor {own C : String} {names : List String} {ic nL mc ms : Nat} {q sa : Nat} (hx : p.tables.exec = Jvm.exec) (hb : c.code = cc) (hml : c.maxLocals = nL) (hown : s.vm.findClass own = some m.cls) (hlocks : meth.locks = false) (hne : c.exceptionTable.isEmpty = true) (hl9 : l.stackTraces = false)
    (hat : ∀ w ∈ Bundle.ownAtoms own ic C names, w.before args s = true) (hcls : Bundle.fit C = true) (hnames : ∀ n ∈ names, Bundle.fit n = true) (hls : ls.size = nL) (hS : va_S A s.heap H locs) (hloc : ∀ x ∈ locs, ∀ cell, s.heap[x.base]? = some cell → cell.vm.isStatics = false)
    (hfr : ∃ (cX : ClassId) (kX : Class), s.vm.findClass C = some cX ∧ s.vm.classes[cX]? = some kX ∧ H[q]? = some (freshCell cX kX) ∧ s.heap.size ≤ q) (hf : names.length + 4 ≤ R.frames) (hlo : 13 * names.length + 56 ≤ R.locals) (hc : cells ≤ mc) (hs : slots ≤ ms)
    (hd6 : decode cc pc = .ok (.invokespecial ic, 3)) (hd9 : decode cc (pc + 3) = .ok (.athrow, 1)) :
    W p l e R s m args below meth c H locs cells slots (MQT below (ax_QE C A) args s mc ms A) (F0 m pc ls [.ref sa, .ref q, .ref q]) := by
  refine W.widen hc hs ?_
  intro T hT X
  obtain ⟨cX, kX, hfX, hkX, hcell, hnew⟩ := hfr
  have htr : e.platform.stackTraces = false := by rw [Example.NoTraceControls.admits_follows X.admits]; exact hl9
  obtain ⟨U, hsteps, hrun, hend, hW, hsame, ce, hce, K⟩ := X.ctorThrowS hx htr hown hcls hnames hat hloc hfX hkX (by rw [hT]; exact hcell) hnew (msg := .ref sa) rfl (g := F0 m pc ls [.ref sa, .ref q, .ref q]) rfl (hls.trans hml.symm) rfl rfl (rest := []) rfl
    (by rw [hb]; exact hd6) (by rw [hb]; exact hd9) (covers_of_empty hne _) (Nat.lt_of_succ_le hf) (Nat.le_trans (show 2 * 0 + 1 + (13 * (names.length + 1) + 42) ≤ 13 * names.length + 56 by omega) hlo) hlocks
  refine ⟨U, hsteps, .threw q, hrun, hend, ⟨⟨q, rfl, ce, hce, by rw [K.vm]; rfl, K.cls⟩, hsame.2.1, fun a ha hn => ?_⟩, locs, ⟨⟨q, rfl⟩, hW, hsame⟩, hS.2.2⟩
  have h1 : s.heap[a]? = some s.heap[a] := Array.getElem?_eq_getElem ha
  obtain ⟨c', g1, g2, g3, g4⟩ := hsame.2.2.2.2.2 a _ h1
  have g1 : U.heap[a]? = some c' := g1
  have g5 : c'.slots = s.heap[a].slots := by
    apply Array.ext_getElem?
    intro i
    exact g4 i (fun h => hn (hS.2.2 _ h))
  rw [g1, h1, g2, g5]
end AXE
def xNames : List String := ["java/lang/RuntimeException", "java/lang/Exception"]
def eAtoms : List Cond := Bundle.ownAtoms R_SS 192 "java/lang/IndexOutOfBoundsException" xNames ++ (Bundle.ownAtoms R_SS 347 "java/lang/IllegalArgumentException" xNames ++ (Bundle.ownAtoms R_SS 352 "java/lang/IllegalStateException" xNames ++
  ([.laysStatic Bundle.tN "UNASSIGNED_STACK" Bundle.steD, .laysStatic Bundle.tN "SUPPRESSED_SENTINEL" Bundle.listD, .initialized Bundle.tN] : List Cond)))
theorem eA_stay : eAtoms.all ax_stay = true := by decide +kernel
theorem eA_in0 : ∀ w ∈ Bundle.ownAtoms R_SS 192 "java/lang/IndexOutOfBoundsException" xNames, w ∈ eAtoms := fun _ h => List.mem_append_left _ h
theorem eA_in1 : ∀ w ∈ Bundle.ownAtoms R_SS 347 "java/lang/IllegalArgumentException" xNames, w ∈ eAtoms := fun _ h => List.mem_append_right _ (List.mem_append_left _ h)
theorem eA_in2 : ∀ w ∈ Bundle.ownAtoms R_SS 352 "java/lang/IllegalStateException" xNames, w ∈ eAtoms := fun _ h => List.mem_append_right _ (List.mem_append_right _ (List.mem_append_left _ h))
theorem eA_st : ∀ C n d, Cond.isRef (.static C n d) ∈ eAtoms → Cond.laysStatic C n d ∈ eAtoms ∧ Cond.initialized C ∈ eAtoms := by
  have h : eAtoms.all (fun w => match w with
    | .isRef (.static C n d) => decide (Cond.laysStatic C n d ∈ eAtoms) && decide (Cond.initialized C ∈ eAtoms)
    | _ => true) = true := by decide +kernel
  intro C n d hw
  have h1 := List.all_eq_true.mp h _ hw
  simpa using h1
/-- what a method of the class that may throw asks beside -/
def sE (dC : Nat → ClassId) (dI : Nat → Nat → Nat) (ca : Nat → ClassId) (U : State) : Prop :=
  sK dC dI ca U ∧ kA eAtoms U ∧ (∃ a, vk_R R_SS 190 "there is none such" a U) ∧ (∃ a, vk_R R_SS 345 "no such side, or not so many steps" a U) ∧ (∃ a, vk_R R_SS 350 "no call runs" a U)
theorem sE_bl (dC : Nat → ClassId) (dI : Nat → Nat → Nat) (ca : Nat → ClassId) : ax_bl (sE dC dI ca) := by
  intro U g mk a h
  obtain ⟨h1, h2, ⟨a1, h3⟩, ⟨a2, h4⟩, a3, h5⟩ := h
  exact ⟨sK_bl dC dI ca U g mk a h1, kA_up eA_stay eA_st (s := U) (U := U.calling g mk a) (State.WarmedH.refl U) (fun _ _ h _ => h) h2, ⟨a1, vk_R.same (u := U) rfl h3⟩, ⟨a2, vk_R.same (u := U) rfl h4⟩, a3, vk_R.same (u := U) rfl h5⟩
theorem sE_up {dC : Nat → ClassId} {dI : Nat → Nat → Nat} {ca : Nat → ClassId} {s : State} {H : Heap} (h : sE dC dI ca s) (hst : ∀ (q : Nat) (cell : Cell), s.heap[q]? = some cell → cell.vm.isStatics = true → H[q]? = some cell) : ∀ U : State, U.heap = H → s.WarmedH U.vm → sE dC dI ca U := by
  intro U hU hW
  obtain ⟨h1, h2, ⟨a1, h3⟩, ⟨a2, h4⟩, a3, h5⟩ := h
  exact ⟨sK_up h1 U hU hW, kA_up eA_stay eA_st hW (fun q cell g1 g2 => by rw [hU]; exact hst q cell g1 g2) h2, ⟨a1, vk_R.warm hW h3⟩, ⟨a2, vk_R.warm hW h4⟩, a3, vk_R.warm hW h5⟩
