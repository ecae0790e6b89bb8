/-! CALLS FROM A METHOD THAT HAS MORE WORDS THAN ITS CALLEE -/
section AXL
variable {p : Program} {l : Launch} {e : Env} {R : Room} {s : State} {m : MethodId} {args : Array Value} {below : List Frame} {meth : Method} {c : Code} {H : Heap} {locs : List Loc} {cells slots : Nat} {Q : State → Prop}
variable {cl : List vw_C} {D : va_G} {K : State → Prop} {tys : List (ClassId × FieldType)} {Z Zb : List Cond} {A : Nat → Prop} {ws wc wr : va_W} {H0 : Heap} {cc : ByteArray} {pc : Nat} {ls : Array Slot} {rest : List Value}
theorem ax_goodb {y : MethodName} {b : ByteArray} {n : Nat} {r : Option FieldType} (hZ : ax_good Z) (hsb : ∀ w ∈ Z, w ∈ Zb) (h : Cond.code y b n r ∈ Z) : GoodIn Zb (ax_w Z y b n r) := fun w hw => by
  have h1 := ax_goodc hZ h w hw
  exact ⟨hsb _ h1.1, h1.2⟩
/-- invokespecial <init> -/
theorem ax_Ib {S : Type} {post : Option Value → S → Prop} {ws1 : S → va_W} {y : MethodName} {b : ByteArray} {n fr lo mc ms nL index k : Nat} {As st0 : List Value} {a : Nat} {own : String} (hst : st0 = As.reverse ++ .ref a :: rest)
    (hx : p.tables.exec = Jvm.exec) (hb : c.code = cc) (hml : c.maxLocals = nL) (hown : s.vm.findClass own = some m.cls) (hts : ∀ w ∈ Zb, w.before args s = true) (hZ : ax_good Z) (hsb : ∀ w ∈ Z, w ∈ Zb) (kp : ax_bl K)
    (C : CT l cl D K Z y b n none fr lo mc ms (.ref a :: As) wc post ws1) (hy1 : y.name = "<init>") (w1 : Cond.methodLink own index y ∈ Zb) (w2 : Cond.instanceMethod y ∈ Z) (w3 : Cond.initialized y.cls ∈ Z) (w4 : Cond.code y b n none ∈ Z)
    (hd : y.cls ≠ "java/lang/invoke/MethodHandle" ∧ y.cls ≠ "java/lang/invoke/VarHandle" ∧ (parseMethodDescriptor y.desc).map (fun d => d.parameters.length) = some k) (hk : As.length = k) (hfr : fr + 1 ≤ R.frames) (hlo : 8 + (n + 11) + lo ≤ R.locals) (hls : ls.size = nL) (hrest : (rest.map fun v => v.category).sum ≤ 8)
    (hK : ∀ U : State, U.heap = H → s.WarmedH U.vm → K U) (hP : va_P D cl ws H) (hD : va_D A ws) (hS : va_S A H0 H locs) (hA : ∀ q, H0.size ≤ q → A q) (isC isR : List Nat) (hCf : isC.filterMap (fun i => ws[i]?) = wc) (hCn : va_nd isC = true) (hC : isC.map (fun i => ws[i]?) = wc.map some) (hR : isR.map (fun i => ws[i]?) = wr.map some) (hn : va_nd isR = true) (hdis : ∀ i ∈ isR, i ∉ isC)
    (hc : cells + mc ≤ R.cells) (hs : slots + ms ≤ R.slots) (hdg : decode cc pc = .ok (.invokespecial index, 3))
    (kk : ∀ (v : Option Value) (u : S) (H1 : Heap) (locs1 : List Loc), post v u → va_P D cl (wr ++ ws1 u) H1 → va_D A (wr ++ ws1 u) → va_S A H0 H1 locs1 → W p l e R s m args below meth c H1 locs1 (cells + mc) (slots + ms) Q (F0 m (pc + 3) ls (v.toList ++ rest))) :
    W p l e R s m args below meth c H locs cells slots Q (F0 m pc ls st0) :=
  ax_back (va_runI (As := As) (rest := rest) ⟨hx, hb, hml, hown, hts⟩ (C H.size) (cwI k hts (ax_goodb hZ hsb w4) rfl rfl rfl (hts _ (hsb _ w3)) (hts _ w1) (hts _ (hsb _ w2)) hy1 hd ⟨hfr, hlo⟩) (ax_preS kp hK (hP.sub isC hCf) (hD.sub isC hCn hC)) rfl hk hls hst (lv_room hrest) hdg ⟨hc, hs⟩) hP hD hS hA isC isR hC hR hn hdis kk

/-- invokevirtual -/
theorem ax_Vb {S : Type} {post : Option Value → S → Prop} {ws1 : S → va_W} {y : MethodName} {b : ByteArray} {n fr lo mc ms nL index k ci q0 N : Nat} {T : u_T} {fs : List Value} {ret : Option FieldType} {As st0 : List Value} {a : Nat} {own : String} (hst : st0 = As.reverse ++ .ref a :: rest)
    (hx : p.tables.exec = Jvm.exec) (hb : c.code = cc) (hml : c.maxLocals = nL) (hown : s.vm.findClass own = some m.cls) (hts : ∀ w ∈ Zb, w.before args s = true) (hZ : ax_good Z) (hsb : ∀ w ∈ Z, w ∈ Zb) (kp : ax_bl K)
    (C : CT l cl D K Z y b n ret fr lo mc ms (.ref a :: As) wc post ws1) (w1 : Cond.methodLink own index y ∈ Zb) (w2 : Cond.instanceMethod y ∈ Z) (w3 : Cond.initialized y.cls ∈ Z) (w4 : Cond.code y b n ret ∈ Z) (w5 : Cond.selects y.cls y y ∈ Z)
    (hd : y.cls ≠ "java/lang/invoke/MethodHandle" ∧ y.cls ≠ "java/lang/invoke/VarHandle" ∧ (parseMethodDescriptor y.desc).map (fun d => d.parameters.length) = some k) (hk : As.length = k) (hfr : fr + 1 ≤ R.frames) (hlo : 8 + (n + 11) + lo ≤ R.locals) (hls : ls.size = nL) (hrest : (rest.map fun v => v.category).sum ≤ 8)
    (hK : ∀ U : State, U.heap = H → s.WarmedH U.vm → K U) (hk9 : va_K D cl tys s) (hP : va_P D cl ws H) (hD : va_D A ws) (hS : va_S A H0 H locs) (hA : ∀ q, H0.size ≤ q → A q) (hci : cl[ci]? = some (y.cls, T, N)) (hcq : wc[q0]? = some (a, .inr (ci, fs))) (isC isR : List Nat) (hCf : isC.filterMap (fun i => ws[i]?) = wc) (hCn : va_nd isC = true) (hC : isC.map (fun i => ws[i]?) = wc.map some) (hR : isR.map (fun i => ws[i]?) = wr.map some) (hn : va_nd isR = true) (hdis : ∀ i ∈ isR, i ∉ isC)
    (hc : cells + mc ≤ R.cells) (hs : slots + ms ≤ R.slots) (hdg : decode cc pc = .ok (.invokevirtual index, 3))
    (kk : ∀ (v : Option Value) (u : S) (H1 : Heap) (locs1 : List Loc), post v u → va_P D cl (wr ++ ws1 u) H1 → va_D A (wr ++ ws1 u) → va_S A H0 H1 locs1 → W p l e R s m args below meth c H1 locs1 (cells + mc) (slots + ms) Q (F0 m (pc + 3) ls (v.toList ++ rest))) :
    W p l e R s m args below meth c H locs cells slots Q (F0 m pc ls st0) :=
  ax_back (va_runV (As := As) (rest := rest) (C := y.cls) ⟨hx, hb, hml, hown, hts⟩ (C H.size) ⟨callB_of k hts (ax_goodb hZ hsb w4) rfl rfl rfl (hts _ (hsb _ w3)) (hts _ w1) hd ⟨hfr, hlo⟩, hts _ (hsb _ w2), hts _ (hsb _ w5)⟩ (ax_preV kp hK hk9 (hP.sub isC hCf) (hD.sub isC hCn hC) hci hcq) rfl hk hls hst (lv_room hrest) hdg ⟨hc, hs⟩) hP hD hS hA isC isR hC hR hn hdis kk

theorem ax_goodwb {y : MethodName} {b : ByteArray} {n : Nat} {r : Option FieldType} {hh : List (Nat × Nat × Nat × Nat)} (hZ : ax_good Z) (hsb : ∀ w ∈ Z, w ∈ Zb) (h : Cond.codeWith y b n r hh ∈ Z) : GoodIn Zb (ax_ww Z y b n r hh) := fun w hw => by
  have h1 := ax_goodw hZ h w hw
  exact ⟨hsb _ h1.1, h1.2⟩
/-- invokevirtual of a method with handlers -/
theorem ax_VWb {S : Type} {post : Option Value → S → Prop} {ws1 : S → va_W} {y : MethodName} {b : ByteArray} {hh : List (Nat × Nat × Nat × Nat)} {n fr lo mc ms nL index k ci q0 N : Nat} {Tt : u_T} {fs : List Value} {ret : Option FieldType} {As st0 : List Value} {a : Nat} {own : String} (hst : st0 = As.reverse ++ .ref a :: rest)
    (hx : p.tables.exec = Jvm.exec) (hb : c.code = cc) (hml : c.maxLocals = nL) (hown : s.vm.findClass own = some m.cls) (hts : ∀ w ∈ Zb, w.before args s = true) (hZ : ax_good Z) (hsb : ∀ w ∈ Z, w ∈ Zb) (kp : ax_bl K)
    (C : CTw l cl D K Z y b n ret hh fr lo mc ms (.ref a :: As) wc post ws1) (w1 : Cond.methodLink own index y ∈ Zb) (w2 : Cond.instanceMethod y ∈ Z) (w3 : Cond.initialized y.cls ∈ Z) (w4 : Cond.codeWith y b n ret hh ∈ Z) (w5 : Cond.selects y.cls y y ∈ Z)
    (hd : y.cls ≠ "java/lang/invoke/MethodHandle" ∧ y.cls ≠ "java/lang/invoke/VarHandle" ∧ (parseMethodDescriptor y.desc).map (fun d => d.parameters.length) = some k) (hk : As.length = k) (hfr : fr + 1 ≤ R.frames) (hlo : 8 + (n + 11) + lo ≤ R.locals) (hls : ls.size = nL) (hrest : (rest.map fun v => v.category).sum ≤ 8)
    (hK : ∀ U : State, U.heap = H → s.WarmedH U.vm → K U) (hk9 : va_K D cl tys s) (hP : va_P D cl ws H) (hD : va_D A ws) (hS : va_S A H0 H locs) (hA : ∀ q, H0.size ≤ q → A q) (hci : cl[ci]? = some (y.cls, Tt, N)) (hcq : wc[q0]? = some (a, .inr (ci, fs))) (isC isR : List Nat) (hCf : isC.filterMap (fun i => ws[i]?) = wc) (hCn : va_nd isC = true) (hC : isC.map (fun i => ws[i]?) = wc.map some) (hR : isR.map (fun i => ws[i]?) = wr.map some) (hn : va_nd isR = true) (hdis : ∀ i ∈ isR, i ∉ isC)
    (hc : cells + mc ≤ R.cells) (hs : slots + ms ≤ R.slots) (hdg : decode cc pc = .ok (.invokevirtual index, 3))
    (kk : ∀ (v : Option Value) (u : S) (H1 : Heap) (locs1 : List Loc), post v u → va_P D cl (wr ++ ws1 u) H1 → va_D A (wr ++ ws1 u) → va_S A H0 H1 locs1 → W p l e R s m args below meth c H1 locs1 (cells + mc) (slots + ms) Q (F0 m (pc + 3) ls (v.toList ++ rest))) :
    W p l e R s m args below meth c H locs cells slots Q (F0 m pc ls st0) := by
  have hPc := hP.sub isC hCf
  have hDc := hD.sub isC hCn hC
  obtain ⟨cellB, hcB, hoB, hclB⟩ := va_recv hk9 hPc hci hcq
  obtain ⟨mk, methM, hnamed, hmethM, hstM, habM⟩ := Cond.instanceMethod_spec (hts _ (hsb _ w2))
  obtain ⟨m9, methM', cM, hn9, hmethM', -, -, -, -, -, -, hsigM⟩ := Cond.codeWith_spec (hts _ (hsb _ w4))
  cases hnamed.symm.trans hn9
  cases hmethM.symm.trans hmethM'
  obtain ⟨c2, r2, m2, q1, q2, q3, q4, kP, hkP, hkPi⟩ := Cond.selects_spec (hts _ (hsb _ w5))
  cases hclB.symm.trans q1
  cases (State.methodFound?_of_named hnamed ⟨hd.1, hd.2.1⟩).symm.trans q2
  cases hnamed.symm.trans q3
  have hlen : As.length = methM.sig.parameters.length := by
    have h2 := hd.2.2
    rw [hsigM] at h2
    exact hk.trans (Option.some.inj h2).symm
  have hB : Back l R p e below s args y 3 8 (PreOf R mc ms (ax_Pre cl D K (.ref a :: As) wc H.size)) (PostOf (ax_Q post (ax_B cl D (va_A wc H.size) ws1) (va_A wc H.size)) mc ms (va_A wc H.size)) :=
    va_backW (hh := hh) (bytes := b) (maxL := n) (ret := ret) (C H.size) (ax_blind kp) rfl rfl hfr hlo (pay_in hts (ax_goodwb hZ hsb w4)) List.mem_cons_self (fun a' U hW => word_at hW (Or.inl (by first | rfl | simp [Cond.onTables, Cond.keeps, Cond.steady])) (hts _ (hsb _ w3)))
  refine ax_back (mc := mc) (ms := ms) (post := post) (ws1 := ws1) (wc := wc) (a := (Value.ref a :: As).toArray) ?_ hP hD hS hA isC isR hC hR hn hdis kk
  intro T hT X
  have hselP : selectMethod e.platform s.vm cellB.cls mk = .method mk := by rw [Launch.admits_selectMethod X.admits]; exact q4
  obtain ⟨vm₁, X₁, hstep₁⟩ := X.invokevirtual hx hown (hts _ w1) hnamed hmethM hstM hkP hkPi ⟨hd.1, hd.2.1⟩ (a := a) (cell := cellB) (by rw [hT]; exact hcB)
    (fun z h => by rw [h] at hoB; cases hoB) hselP hmethM habM hkP hkPi (g := F0 m pc ls st0) rfl (argsL := As) (rest := rest) hlen hst (by rw [hb]; exact hdg)
  obtain ⟨v, ⟨U', l2, c2, s2⟩, X', ⟨g', mk', t, L, e1, e2, hq, h1, hL, h2, h3⟩, hsteps⟩ := hB m meth c ⟨T.setVm vm₁, locs, cells, slots⟩ (F0 m pc ls rest) (.invokevirtual index) mk (Value.ref a :: As).toArray X₁ rfl (hls.trans hml.symm) (by rw [hb]; exact hdg) (lv_room hrest) (X₁.named hnamed)
    ⟨hc, hs, ⟨rfl, by show T.heap.size = _; rw [hT], by show va_P D cl wc T.heap; rw [hT]; exact hPc, hK (T.setVm vm₁) hT X₁.warmed, hDc.weaken (fun _ _ _ _ => trivial)⟩⟩
  dsimp only [Pt.U, Pt.locs, Pt.cells, Pt.slots] at X' e1 e2 h1 h2 h3 hsteps
  subst h1; subst h2; subst h3
  exact ⟨v, (T.setVm vm₁).calling g' mk' (Value.ref a :: As).toArray, t, U', L, hT, X', hL, e1, e2, hq, fun target h => hstep₁ _ fun acts => by rw [doInvoke_state]; exact hsteps.trans h⟩

/-- invokevirtual of a method that throws a new exception -/
theorem ax_runVE {Cx : String} {y : MethodName} {b : ByteArray} {n fr lo mc ms nL index k ci q0 N : Nat} {Tt : u_T} {fs : List Value} {ret : Option FieldType} {As st0 : List Value} {a : Nat} {own : String} (hst : st0 = As.reverse ++ .ref a :: rest)
    (hx : p.tables.exec = Jvm.exec) (hb : c.code = cc) (hml : c.maxLocals = nL) (hown : s.vm.findClass own = some m.cls) (hts : ∀ w ∈ Zb, w.before args s = true) (hZ : ax_good Z) (hsb : ∀ w ∈ Z, w ∈ Zb) (kp : ax_bl K)
    (C : CTE l cl D K Z y b n ret fr lo mc ms (.ref a :: As) wc Cx) (w1 : Cond.methodLink own index y ∈ Zb) (w2 : Cond.instanceMethod y ∈ Z) (w3 : Cond.initialized y.cls ∈ Z) (w4 : Cond.code y b n ret ∈ Z) (w5 : Cond.selects y.cls y y ∈ Z)
    (hd : y.cls ≠ "java/lang/invoke/MethodHandle" ∧ y.cls ≠ "java/lang/invoke/VarHandle" ∧ (parseMethodDescriptor y.desc).map (fun d => d.parameters.length) = some k) (hk : As.length = k) (hfr : fr + 1 ≤ R.frames) (hlo : 8 + (n + 11) + lo ≤ R.locals) (hls : ls.size = nL) (hrest : (rest.map fun v => v.category).sum ≤ 8)
    (hK : ∀ U : State, U.heap = H → s.WarmedH U.vm → K U) (hk9 : va_K D cl tys s) (hP : va_P D cl ws H) (hD : va_D A ws) (hS : va_S A H0 H locs) (hA : ∀ q, H0.size ≤ q → A q) (hci : cl[ci]? = some (y.cls, Tt, N)) (hcq : wc[q0]? = some (a, .inr (ci, fs))) (isC isR : List Nat) (hCf : isC.filterMap (fun i => ws[i]?) = wc) (hCn : va_nd isC = true) (hC : isC.map (fun i => ws[i]?) = wc.map some) (hR : isR.map (fun i => ws[i]?) = wr.map some) (hn : va_nd isR = true) (hdis : ∀ i ∈ isR, i ∉ isC)
    (hc : cells + mc ≤ R.cells) (hs : slots + ms ≤ R.slots) (hdg : decode cc pc = .ok (.invokevirtual index, 3)) (T : State) (hT : T.heap = H) (X : Stand p l e R s m args below meth c T locs cells slots) :
    ∃ (x : Addr) (T' : State) (locs1 : List Loc), ax_X Cx s x T' ∧ va_P D cl wr T'.heap ∧ va_D A wr ∧ va_S A H0 T'.heap locs1 ∧ Stand p l e R s m args below meth c T' locs1 (cells + mc) (slots + ms) ∧
      ∀ target, Steps p.tables e below ((T'.setTop (F0 m pc ls rest)).pushFrame (.throwing x)) target → Steps p.tables e below (T.setTop (F0 m pc ls st0)) target := by
  have hPc := hP.sub isC hCf
  have hDc := hD.sub isC hCn hC
  obtain ⟨cellB, hcB, hoB, hclB⟩ := va_recv hk9 hPc hci hcq
  have hinst := hts _ (hsb _ w2)
  have hcode := hts _ (hsb _ w4)
  obtain ⟨mk, methM, hnamed, hmethM, hstM, habM⟩ := Cond.instanceMethod_spec hinst
  obtain ⟨methM', cM, hmethM', -, -, -, -, -, -, hsigM⟩ := Cond.code_spec hnamed hcode
  cases hmethM.symm.trans hmethM'
  obtain ⟨c2, r2, m2, q1, q2, q3, q4, kP, hkP, hkPi⟩ := Cond.selects_spec (hts _ (hsb _ w5))
  cases hclB.symm.trans q1
  cases (State.methodFound?_of_named hnamed ⟨hd.1, hd.2.1⟩).symm.trans q2
  cases hnamed.symm.trans q3
  have hselP : selectMethod e.platform s.vm cellB.cls mk = .method mk := by rw [Launch.admits_selectMethod X.admits]; exact q4
  have hlen : As.length = methM.sig.parameters.length := by
    have h2 := hd.2.2
    rw [hsigM] at h2
    exact hk.trans (Option.some.inj h2).symm
  obtain ⟨vm₁, X₁, hstep₁⟩ := X.invokevirtual hx hown (hts _ w1) hnamed hmethM hstM hkP hkPi ⟨hd.1, hd.2.1⟩ (a := a) (cell := cellB) (by rw [hT]; exact hcB)
    (fun z h => by rw [h] at hoB; cases hoB) hselP hmethM habM hkP hkPi (g := F0 m pc ls st0) rfl (argsL := As) (rest := rest) hlen hst (by rw [hb]; exact hdg)
  have hpc : ax_Pre cl D K (.ref a :: As) wc H.size (Value.ref a :: As).toArray ((T.setVm vm₁).calling (F0 m pc ls rest) mk (Value.ref a :: As).toArray) :=
    ax_blind kp _ _ _ _ ⟨rfl, by show T.heap.size = _; rw [hT], by show va_P D cl wc T.heap; rw [hT]; exact hPc, hK (T.setVm vm₁) hT X₁.warmed, hDc.weaken (fun _ _ _ _ => trivial)⟩
  obtain ⟨x, t, T', L, X', hL, e1, e2, ⟨⟨x2, hv, ce, hce, hst, hfc⟩, hz, hk1⟩, hsteps⟩ := ax_throws X₁ (C H.size) rfl rfl hfr hlo (pay_in hts (ax_goodb hZ hsb w4)) List.mem_cons_self (fun a' U hW => word_at hW (Or.inl (by first | rfl | simp [Cond.onTables, Cond.keeps, Cond.steady])) (hts _ (hsb _ w3))) (g := F0 m pc ls rest) rfl (hls.trans hml.symm) (by rw [hb]; exact hdg) (lv_room hrest) (X₁.named hnamed) hc hs hpc
  cases hv
  have hh : ((T.setVm vm₁).calling (F0 m pc ls rest) mk (Value.ref a :: As).toArray).heap = H := hT
  rw [hh] at hz hk1
  have hF := va_free hD hS hA isC hC
  have hk2 : ∀ q : Nat, q < H.size → ¬ va_A wc H.size q → T'.heap[q]? = H[q]? := fun q h1 h2 => by rw [e1]; exact hk1 q h1 h2
  rw [← e1] at hce hz
  obtain ⟨hP2, hD2⟩ := va_join (w1 := []) hP hD isC isR hC hR hn hdis hk2 hF (fun k q h => by simp at h) ⟨fun i j p q h => by simp at h, fun k q h => by simp at h⟩
  rw [List.append_nil] at hP2 hD2
  have hfc : (T.setVm vm₁).vm.findClass Cx = some ce.cls := hfc
  rw [X₁.warmed.alike.findClass] at hfc
  exact ⟨x, T', locs ++ L, ⟨ce, hce, hst, hfc⟩, hP2, hD2, ⟨Nat.le_trans hS.1 hz, fun q h1 h2 => by rw [hk2 q (Nat.lt_of_lt_of_le h1 hS.1) (fun z => h2 (hF q z))]; exact hS.2.1 q h1 h2, fun q hq => by
      rcases List.mem_append.mp hq with h | h
      · exact hS.2.2 q h
      · exact hF _ (hL q h)⟩, X', fun target h => hstep₁ _ fun acts => (hsteps acts).trans h⟩

/-- .. and into the caller's handler -/
theorem ax_VCE {Cx : String} {mc ms hpc : Nat} {st0 : List Value}
    (hr : ∀ T : State, T.heap = H → Stand p l e R s m args below meth c T locs cells slots → ∃ (x : Addr) (T' : State) (locs1 : List Loc), ax_X Cx s x T' ∧ va_P D cl wr T'.heap ∧ va_D A wr ∧ va_S A H0 T'.heap locs1 ∧ Stand p l e R s m args below meth c T' locs1 (cells + mc) (slots + ms) ∧
      ∀ target, Steps p.tables e below ((T'.setTop (F0 m pc ls rest)).pushFrame (.throwing x)) target → Steps p.tables e below (T.setTop (F0 m pc ls st0)) target)
    (hf : ∀ (x : Addr) (T' : State) (locs1 : List Loc), ax_X Cx s x T' → Stand p l e R s m args below meth c T' locs1 (cells + mc) (slots + ms) → ∃ vm' : Vm, s.WarmedH vm' ∧ ax_Fnd e ((T'.setTop (F0 m pc ls rest)).pushFrame (.throwing x)) (F0 m pc ls rest) x (.found hpc) vm')
    (kk : ∀ (x : Addr) (H1 : Heap) (locs1 : List Loc), va_P D cl wr H1 → va_D A wr → va_S A H0 H1 locs1 → W p l e R s m args below meth c H1 locs1 (cells + mc) (slots + ms) Q (F0 m hpc ls [.ref x])) :
    W p l e R s m args below meth c H locs cells slots Q (F0 m pc ls st0) := by
  intro T hT X
  obtain ⟨x, T', locs1, hp, hP, hD, hS, X', st⟩ := hr T hT X
  obtain ⟨vm', hW, hfn⟩ := hf x T' locs1 hp X'
  obtain ⟨t, a1, b1⟩ := kk x T'.heap locs1 hP hD hS (T'.setVm vm') rfl (X'.noted hW)
  exact ⟨t, st _ (ax_caught (g := F0 m pc ls rest) X'.here hfn a1), b1⟩
end AXL
