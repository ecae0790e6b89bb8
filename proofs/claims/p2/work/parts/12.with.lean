/-! METHODS WITH HANDLERS THAT RETURN -/
abbrev ax_ww (Z : List Cond) (y : MethodName) (b : ByteArray) (n : Nat) (r : Option FieldType) (hh : List (Nat × Nat × Nat × Nat)) : List Cond := .codeWith y b n r hh :: Z
def CTw {S : Type} (l : Launch) (cl : List vw_C) (D : va_G) (K : State → Prop) (Z : List Cond) (y : MethodName) (b : ByteArray) (n : Nat) (r : Option FieldType) (hh : List (Nat × Nat × Nat × Nat)) (fr lo mc ms : Nat) (As : List Value) (ws : va_W) (post : Option Value → S → Prop) (ws1 : S → va_W) : Prop :=
  ∀ sz : Nat, Met l y (ax_ww Z y b n r hh) ({ frames := fr, cells := mc, slots := ms, locals := lo }) (ax_Pre cl D K As ws sz) (ax_Q post (ax_B cl D (va_A ws sz) ws1) (va_A ws sz)) mc ms (va_A ws sz)
theorem ax_ofw {S : Type} {l : Launch} {cl : List vw_C} {D : va_G} {K : State → Prop} {Z : List Cond} {y : MethodName} {b : ByteArray} {n : Nat} {r : Option FieldType} {hh : List (Nat × Nat × Nat × Nat)} {fr lo mc ms : Nat} {As : List Value} {ws : va_W} {post : Option Value → S → Prop} {ws1 : S → va_W}
    (hy : plainName y.cls = true) (hn : (lg_sl As).length ≤ n)
    (body : ∀ (p : Program) (e : Env) (s : State) (m : MethodId) (below : List Frame) (meth : Method) (c : Code) (A : Nat → Prop) (ls : Array Slot), ax_At p s m meth c As.toArray Z y b n r → ax_tab c hh → K s → va_P D cl ws s.heap → va_D A ws → va_S A s.heap s.heap [] → (∀ q : Nat, s.heap.size ≤ q → A q) → lv_has ls n (lv_args 0 As) →
      W p l e ({ frames := fr, cells := mc, slots := ms, locals := lo }) s m As.toArray below meth c s.heap [] 0 0 (MQ below (ax_Q post (ax_B cl D A ws1) A) As.toArray s mc ms A) (F0 m 0 ls [])) :
    CTw l cl D K Z y b n r hh fr lo mc ms As ws post ws1 := by
  intro sz
  refine va_MetW (cc := b) (maxL := n) (ret := r) (hh := hh) hy rfl ?_
  intro p e s m args below meth c s₁ B hml hv
  obtain ⟨rfl, hsz, hP, hK, hD0⟩ := hv
  subst hsz
  have hD := hD0.self (sz := s.heap.size)
  have hts0 := atoms_spec (ws := ax_ww Z y b n r hh) B.pre
  have htab : ax_tab c hh := by
    obtain ⟨m9, meth9, c9, hn9, hm9, hc9, -, -, ht9, -⟩ := Cond.codeWith_spec (hts0 _ List.mem_cons_self)
    cases B.named.symm.trans hn9
    cases B.method.symm.trans hm9
    cases (Stand.of_body B).code.symm.trans hc9
    exact ht9
  rw [lg_entry_eq]
  exact body p e s m below meth c _ _ ⟨B.exec, B.bytes, B.returns, hml, findClass_of_methodNamed B.named, fun w h => hts0 w (List.mem_cons_of_mem _ h), B.notSynchronized, (name_of_methodNamed B.named B.method).1⟩ htab hK hP hD va_S.rf (fun q h => Or.inr h) (lv_entry As hn)
section AXY
variable {p : Program} {l : Launch} {e : Env} {R : Room} {s : State} {m : MethodId} {args : Array Value} {below : List Frame} {meth : Method} {c : Code} {H : Heap} {locs : List Loc} {cells slots : Nat} {Q : State → Prop}
variable {cl : List vw_C} {D : va_G} {K : State → Prop} {tys : List (ClassId × FieldType)} {Z : List Cond} {A : Nat → Prop} {ws wc wr : va_W} {H0 : Heap} {cc : ByteArray} {pc : Nat} {ls : Array Slot} {rest : List Value}
theorem ax_goodw {y : MethodName} {b : ByteArray} {n : Nat} {r : Option FieldType} {hh : List (Nat × Nat × Nat × Nat)} (hZ : ax_good Z) (h : Cond.codeWith y b n r hh ∈ Z) : GoodIn Z (ax_ww Z y b n r hh) := fun w hw => by
  rcases List.mem_cons.mp hw with rfl | h2
  · exact ⟨h, (hZ _ h).2⟩
  · exact hZ w h2
/-- invokevirtual of a method with handlers -/
theorem ax_VW {S : Type} {post : Option Value → S → Prop} {ws1 : S → va_W} {y : MethodName} {b : ByteArray} {hh : List (Nat × Nat × Nat × Nat)} {n fr lo mc ms nL index k ci q0 N : Nat} {Tt : u_T} {fs : List Value} {ret : Option FieldType} {As st0 : List Value} {a : Nat} {own : String} (hst : st0 = As.reverse ++ .ref a :: rest)
    (hx : p.tables.exec = Jvm.exec) (hb : c.code = cc) (hml : c.maxLocals = nL) (hown : s.vm.findClass own = some m.cls) (hts : ∀ w ∈ Z, w.before args s = true) (hZ : ax_good Z) (kp : ax_bl K)
    (C : CTw l cl D K Z y b n ret hh fr lo mc ms (.ref a :: As) wc post ws1) (w1 : Cond.methodLink own index y ∈ Z) (w2 : Cond.instanceMethod y ∈ Z) (w3 : Cond.initialized y.cls ∈ Z) (w4 : Cond.codeWith y b n ret hh ∈ Z) (w5 : Cond.selects y.cls y y ∈ Z)
    (hd : y.cls ≠ "java/lang/invoke/MethodHandle" ∧ y.cls ≠ "java/lang/invoke/VarHandle" ∧ (parseMethodDescriptor y.desc).map (fun d => d.parameters.length) = some k) (hk : As.length = k) (hfr : fr + 1 ≤ R.frames) (hlo : 8 + (n + 11) + lo ≤ R.locals) (hls : ls.size = nL) (hrest : (rest.map fun v => v.category).sum ≤ 8)
    (hK : ∀ U : State, U.heap = H → s.WarmedH U.vm → K U) (hk9 : va_K D cl tys s) (hP : va_P D cl ws H) (hD : va_D A ws) (hS : va_S A H0 H locs) (hA : ∀ q, H0.size ≤ q → A q) (hci : cl[ci]? = some (y.cls, Tt, N)) (hcq : wc[q0]? = some (a, .inr (ci, fs))) (isC isR : List Nat) (hCf : isC.filterMap (fun i => ws[i]?) = wc) (hCn : va_nd isC = true) (hC : isC.map (fun i => ws[i]?) = wc.map some) (hR : isR.map (fun i => ws[i]?) = wr.map some) (hn : va_nd isR = true) (hdis : ∀ i ∈ isR, i ∉ isC)
    (hc : cells + mc ≤ R.cells) (hs : slots + ms ≤ R.slots) (hdg : decode cc pc = .ok (.invokevirtual index, 3))
    (kk : ∀ (v : Option Value) (u : S) (H1 : Heap) (locs1 : List Loc), post v u → va_P D cl (wr ++ ws1 u) H1 → va_D A (wr ++ ws1 u) → va_S A H0 H1 locs1 → W p l e R s m args below meth c H1 locs1 (cells + mc) (slots + ms) Q (F0 m (pc + 3) ls (v.toList ++ rest))) :
    W p l e R s m args below meth c H locs cells slots Q (F0 m pc ls st0) := by
  have hPc := hP.sub isC hCf
  have hDc := hD.sub isC hCn hC
  obtain ⟨cellB, hcB, hoB, hclB⟩ := va_recv hk9 hPc hci hcq
  obtain ⟨mk, methM, hnamed, hmethM, hstM, habM⟩ := Cond.instanceMethod_spec (hts _ w2)
  obtain ⟨m9, methM', cM, hn9, hmethM', -, -, -, -, -, -, hsigM⟩ := Cond.codeWith_spec (hts _ w4)
  cases hnamed.symm.trans hn9
  cases hmethM.symm.trans hmethM'
  obtain ⟨c2, r2, m2, q1, q2, q3, q4, kP, hkP, hkPi⟩ := Cond.selects_spec (hts _ w5)
  cases hclB.symm.trans q1
  cases (State.methodFound?_of_named hnamed ⟨hd.1, hd.2.1⟩).symm.trans q2
  cases hnamed.symm.trans q3
  have hlen : As.length = methM.sig.parameters.length := by
    have h2 := hd.2.2
    rw [hsigM] at h2
    exact hk.trans (Option.some.inj h2).symm
  have hB : Back l R p e below s args y 3 8 (PreOf R mc ms (ax_Pre cl D K (.ref a :: As) wc H.size)) (PostOf (ax_Q post (ax_B cl D (va_A wc H.size) ws1) (va_A wc H.size)) mc ms (va_A wc H.size)) :=
    va_backW (hh := hh) (bytes := b) (maxL := n) (ret := ret) (C H.size) (ax_blind kp) rfl rfl hfr hlo (pay_in hts (ax_goodw hZ w4)) List.mem_cons_self (fun a' U hW => word_at hW (Or.inl (by first | rfl | simp [Cond.onTables, Cond.keeps, Cond.steady])) (hts _ w3))
  refine ax_back (mc := mc) (ms := ms) (post := post) (ws1 := ws1) (wc := wc) (a := (Value.ref a :: As).toArray) ?_ hP hD hS hA isC isR hC hR hn hdis kk
  intro T hT X
  have hselP : selectMethod e.platform s.vm cellB.cls mk = .method mk := by rw [Launch.admits_selectMethod X.admits]; exact q4
  obtain ⟨vm₁, X₁, hstep₁⟩ := X.invokevirtual hx hown (hts _ w1) hnamed hmethM hstM hkP hkPi ⟨hd.1, hd.2.1⟩ (a := a) (cell := cellB) (by rw [hT]; exact hcB)
    (fun z h => by rw [h] at hoB; cases hoB) hselP hmethM habM hkP hkPi (g := F0 m pc ls st0) rfl (argsL := As) (rest := rest) hlen hst (by rw [hb]; exact hdg)
  obtain ⟨v, ⟨U', l2, c2, s2⟩, X', ⟨g', mk', t, L, e1, e2, hq, h1, hL, h2, h3⟩, hsteps⟩ := hB m meth c ⟨T.setVm vm₁, locs, cells, slots⟩ (F0 m pc ls rest) (.invokevirtual index) mk (Value.ref a :: As).toArray X₁ rfl (hls.trans hml.symm) (by rw [hb]; exact hdg) (lv_room hrest) (X₁.named hnamed)
    ⟨hc, hs, ⟨rfl, by show T.heap.size = _; rw [hT], by show va_P D cl wc T.heap; rw [hT]; exact hPc, hK (T.setVm vm₁) hT X₁.warmed, hDc.weaken (fun _ _ _ _ => trivial)⟩⟩
  dsimp only [Pt.U, Pt.locs, Pt.cells, Pt.slots] at X' e1 e2 h1 h2 h3 hsteps
  subst h1; subst h2; subst h3
  exact ⟨v, (T.setVm vm₁).calling g' mk' (Value.ref a :: As).toArray, t, U', L, hT, X', hL, e1, e2, hq, fun target h => hstep₁ _ fun acts => by rw [doInvoke_state]; exact hsteps.trans h⟩
/-- invokestatic of a method with handlers -/
theorem ax_StW {S : Type} {post : Option Value → S → Prop} {ws1 : S → va_W} {y : MethodName} {b : ByteArray} {hh : List (Nat × Nat × Nat × Nat)} {n fr lo mc ms nL index k : Nat} {ret : Option FieldType} {As st0 : List Value} {own : String} (hst : st0 = As.reverse ++ rest)
    (hx : p.tables.exec = Jvm.exec) (hb : c.code = cc) (hml : c.maxLocals = nL) (hown : s.vm.findClass own = some m.cls) {Zb : List Cond} (htb : ∀ w ∈ Zb, w.before args s = true) (hG : GoodIn Zb (ax_ww Z y b n ret hh)) (kp : ax_bl K)
    (C : CTw l cl D K Z y b n ret hh fr lo mc ms As wc post ws1) (w1 : (Cond.methodLink own index y).before args s = true) (w2 : (Cond.static y).before args s = true) (w3 : (Cond.initialized y.cls).before args s = true)
    (hd : y.cls ≠ "java/lang/invoke/MethodHandle" ∧ y.cls ≠ "java/lang/invoke/VarHandle" ∧ (parseMethodDescriptor y.desc).map (fun d => d.parameters.length) = some k) (hk : As.length = k) (hfr : fr + 1 ≤ R.frames) (hlo : 8 + (n + 11) + lo ≤ R.locals) (hls : ls.size = nL) (hrest : (rest.map fun v => v.category).sum ≤ 8)
    (hK : ∀ U : State, U.heap = H → s.WarmedH U.vm → K U) (hP : va_P D cl ws H) (hD : va_D A ws) (hS : va_S A H0 H locs) (hA : ∀ q, H0.size ≤ q → A q) (isC isR : List Nat) (hCf : isC.filterMap (fun i => ws[i]?) = wc) (hCn : va_nd isC = true) (hC : isC.map (fun i => ws[i]?) = wc.map some) (hR : isR.map (fun i => ws[i]?) = wr.map some) (hn : va_nd isR = true) (hdis : ∀ i ∈ isR, i ∉ isC)
    (hc : cells + mc ≤ R.cells) (hs : slots + ms ≤ R.slots) (hdg : decode cc pc = .ok (.invokestatic index, 3))
    (kk : ∀ (v : Option Value) (u : S) (H1 : Heap) (locs1 : List Loc), post v u → va_P D cl (wr ++ ws1 u) H1 → va_D A (wr ++ ws1 u) → va_S A H0 H1 locs1 → W p l e R s m args below meth c H1 locs1 (cells + mc) (slots + ms) Q (F0 m (pc + 3) ls (v.toList ++ rest))) :
    W p l e R s m args below meth c H locs cells slots Q (F0 m pc ls st0) := by
  have hPc := hP.sub isC hCf
  have hDc := hD.sub isC hCn hC
  have hcode := htb _ (hG _ List.mem_cons_self).1
  obtain ⟨mk, methM, cM, hnamed, hmethM, -, -, -, -, -, -, hsigM⟩ := Cond.codeWith_spec hcode
  have hstatic : methM.isStatic = true := Cond.static_spec hnamed hmethM w2
  obtain ⟨kP, hkP, -⟩ := className_of_methodNamed hnamed
  have hinitP : kP.init = .initialized := Cond.initialized_spec (findClass_of_methodNamed hnamed) hkP w3
  have hlen : As.length = methM.sig.parameters.length := by
    have h2 := hd.2.2
    rw [hsigM] at h2
    exact hk.trans (Option.some.inj h2).symm
  have hB : Back l R p e below s args y 3 8 (PreOf R mc ms (ax_Pre cl D K As wc H.size)) (PostOf (ax_Q post (ax_B cl D (va_A wc H.size) ws1) (va_A wc H.size)) mc ms (va_A wc H.size)) :=
    va_backW (hh := hh) (bytes := b) (maxL := n) (ret := ret) (C H.size) (ax_blind kp) rfl rfl hfr hlo (pay_in htb hG) List.mem_cons_self (fun a' U hW => word_at hW (Or.inl (by first | rfl | simp [Cond.onTables, Cond.keeps, Cond.steady])) w3)
  refine ax_back (mc := mc) (ms := ms) (post := post) (ws1 := ws1) (wc := wc) (a := As.toArray) ?_ hP hD hS hA isC isR hC hR hn hdis kk
  intro T hT X
  obtain ⟨vm₁, X₁, hstep₁⟩ := X.invokestatic hx hown w1 hnamed hmethM hstatic hkP hinitP ⟨hd.1, hd.2.1⟩ (g := F0 m pc ls st0) rfl (argsL := As) (rest := rest) hlen hst (by rw [hb]; exact hdg)
  obtain ⟨v, ⟨U', l2, c2, s2⟩, X', ⟨g', mk', t, L, e1, e2, hq, h1, hL, h2, h3⟩, hsteps⟩ := hB m meth c ⟨T.setVm vm₁, locs, cells, slots⟩ (F0 m pc ls rest) (.invokestatic index) mk As.toArray X₁ rfl (hls.trans hml.symm) (by rw [hb]; exact hdg) (lv_room hrest) (X₁.named hnamed)
    ⟨hc, hs, ⟨rfl, by show T.heap.size = _; rw [hT], by show va_P D cl wc T.heap; rw [hT]; exact hPc, hK (T.setVm vm₁) hT X₁.warmed, hDc.weaken (fun _ _ _ _ => trivial)⟩⟩
  dsimp only [Pt.U, Pt.locs, Pt.cells, Pt.slots] at X' e1 e2 h1 h2 h3 hsteps
  subst h1; subst h2; subst h3
  exact ⟨v, (T.setVm vm₁).calling g' mk' As.toArray, t, U', L, hT, X', hL, e1, e2, hq, fun target h => hstep₁ _ fun acts => by rw [doInvoke_state]; exact hsteps.trans h⟩
end AXY
