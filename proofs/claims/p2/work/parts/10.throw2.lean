/-! THE CONTRACT OF A METHOD THAT THROWS, AND CALLS OF IT -/
def ax_QT {S : Type} (post : Addr → S → Prop) (B : S → State → Prop) (A : Nat → Prop) : Array Value → State → Outcome → State → Prop :=
  fun _ st oc t => (∃ (x : Addr) (u : S), oc = .threw x ∧ post x u ∧ B u t) ∧ va_F A st t
def CTT {S : Type} (l : Launch) (cl : List vw_C) (D : va_G) (K : State → Prop) (Z : List Cond) (y : MethodName) (b : ByteArray) (n : Nat) (r : Option FieldType) (fr lo mc ms : Nat) (As : List Value) (ws : va_W) (post : Addr → S → Prop) (ws1 : S → va_W) : Prop :=
  ∀ sz : Nat, MetT l y (ax_w Z y b n r) ({ frames := fr, cells := mc, slots := ms, locals := lo }) (ax_Pre cl D K As ws sz) (ax_QT post (ax_B cl D (va_A ws sz) ws1) (va_A ws sz)) mc ms (va_A ws sz)
theorem ax_ofT {S : Type} {l : Launch} {cl : List vw_C} {D : va_G} {K : State → Prop} {Z : List Cond} {y : MethodName} {b : ByteArray} {n : Nat} {r : Option FieldType} {fr lo mc ms : Nat} {As : List Value} {ws : va_W} {post : Addr → S → Prop} {ws1 : S → va_W}
    (hy : plainName y.cls = true) (hn : (lg_sl As).length ≤ n)
    (body : ∀ (p : Program) (e : Env) (s : State) (m : MethodId) (below : List Frame) (meth : Method) (c : Code) (A : Nat → Prop) (ls : Array Slot), ax_At p s m meth c As.toArray Z y b n r → c.exceptionTable.isEmpty = true → K s → va_P D cl ws s.heap → va_D A ws → va_S A s.heap s.heap [] → (∀ q : Nat, s.heap.size ≤ q → A q) → (∀ q : Nat, A q → (∃ (k : Nat) (e : va_E), ws[k]? = some (q, e)) ∨ s.heap.size ≤ q) → lv_has ls n (lv_args 0 As) →
      W p l e ({ frames := fr, cells := mc, slots := ms, locals := lo }) s m As.toArray below meth c s.heap [] 0 0 (MQT below (ax_QT post (ax_B cl D A ws1) A) As.toArray s mc ms A) (F0 m 0 ls [])) :
    CTT l cl D K Z y b n r fr lo mc ms As ws post ws1 := by
  intro sz
  refine MetT.ofW (cc := b) (maxL := n) (ret := r) hy rfl ?_
  intro p e s m args below meth c s₁ B hml hv
  obtain ⟨rfl, hsz, hP, hK, hD0⟩ := hv
  subst hsz
  have hD := hD0.self (sz := s.heap.size)
  have hts0 := atoms_spec (ws := ax_w Z y b n r) B.pre
  rw [lg_entry_eq]
  exact body p e s m below meth c _ _ ⟨B.exec, B.bytes, B.returns, hml, findClass_of_methodNamed B.named, fun w h => hts0 w (List.mem_cons_of_mem _ h), B.notSynchronized, (name_of_methodNamed B.named B.method).1⟩ (B.noHandlers (hts0 _ List.mem_cons_self)) hK hP hD va_S.rf (fun q h => Or.inr h) (fun q h => h) (lv_entry As hn)
section AXW
variable {p : Program} {l : Launch} {e : Env} {R : Room} {s : State} {m : MethodId} {args : Array Value} {below : List Frame} {meth : Method} {c : Code} {H : Heap} {locs : List Loc} {cells slots : Nat} {Q : State → Prop}
variable {cl : List vw_C} {D : va_G} {K : State → Prop} {tys : List (ClassId × FieldType)} {Z : List Cond} {A : Nat → Prop} {ws wc wr : va_W} {H0 : Heap} {cc : ByteArray} {pc : Nat} {ls : Array Slot} {rest : List Value}
/-- athrow of an object that is there, in a method without handlers -/
theorem ax_athrow {S : Type} {post : Addr → S → Prop} {ws1 : S → va_W} {mc ms : Nat} {x : Addr} (hx : p.tables.exec = Jvm.exec) (hb : c.code = cc) (hlocks : meth.locks = false) (hne : c.exceptionTable.isEmpty = true) (hP : va_P D cl ws H) (hD : va_D A ws) (hS : va_S A s.heap H locs) (u : S) (hp : post x u) (is : List Nat) (h1 : is.filterMap (fun i => ws[i]?) = ws1 u) (hn : va_nd is = true) (h2 : is.map (fun i => ws[i]?) = (ws1 u).map some) (hc : cells ≤ mc) (hs : slots ≤ ms) (hdg : decode cc pc = .ok (.athrow, 1)) :
    W p l e R s m args below meth c H locs cells slots (MQT below (ax_QT post (ax_B cl D A ws1) A) args s mc ms A) (F0 m pc ls (.ref x :: rest)) := by
  refine W.widen hc hs ?_
  intro T hT X
  obtain ⟨a1, a2, a3, a4, a5⟩ := X.athrowLeaves hx (g := F0 m pc ls (.ref x :: rest)) rfl rfl rfl (covers_of_empty hne _) rfl (by rw [hb]; exact hdg) hlocks
  have hh : (T.setFrames (.throwing x :: below)).heap = H := hT
  exact ⟨_, a1, .threw x, a2, a3, ⟨⟨x, u, rfl, hp, by rw [hh]; exact hP.sub is h1, hD.sub is hn h2⟩, hS.F hh⟩, locs, ⟨⟨x, rfl⟩, a4, a5⟩, hS.2.2⟩
/-- invokevirtual of a method that throws: the note lies over the caller's frame -/
theorem ax_runVT {S : Type} {post : Addr → S → Prop} {ws1 : S → va_W} {y : MethodName} {b : ByteArray} {n fr lo mc ms nL index k ci q0 N : Nat} {Tt : u_T} {fs : List Value} {ret : Option FieldType} {As st0 : List Value} {a : Nat} {own : String} (hst : st0 = As.reverse ++ .ref a :: rest)
    (hx : p.tables.exec = Jvm.exec) (hb : c.code = cc) (hml : c.maxLocals = nL) (hown : s.vm.findClass own = some m.cls) (hts : ∀ w ∈ Z, w.before args s = true) (hZ : ax_good Z) (kp : ax_bl K)
    (C : CTT l cl D K Z y b n ret fr lo mc ms (.ref a :: As) wc post ws1) (w1 : Cond.methodLink own index y ∈ Z) (w2 : Cond.instanceMethod y ∈ Z) (w3 : Cond.initialized y.cls ∈ Z) (w4 : Cond.code y b n ret ∈ Z) (w5 : Cond.selects y.cls y y ∈ Z)
    (hd : y.cls ≠ "java/lang/invoke/MethodHandle" ∧ y.cls ≠ "java/lang/invoke/VarHandle" ∧ (parseMethodDescriptor y.desc).map (fun d => d.parameters.length) = some k) (hk : As.length = k) (hfr : fr + 1 ≤ R.frames) (hlo : 8 + (n + 11) + lo ≤ R.locals) (hls : ls.size = nL) (hrest : (rest.map fun v => v.category).sum ≤ 8)
    (hK : ∀ U : State, U.heap = H → s.WarmedH U.vm → K U) (hk9 : va_K D cl tys s) (hP : va_P D cl ws H) (hD : va_D A ws) (hS : va_S A H0 H locs) (hA : ∀ q, H0.size ≤ q → A q) (hci : cl[ci]? = some (y.cls, Tt, N)) (hcq : wc[q0]? = some (a, .inr (ci, fs))) (isC isR : List Nat) (hCf : isC.filterMap (fun i => ws[i]?) = wc) (hCn : va_nd isC = true) (hC : isC.map (fun i => ws[i]?) = wc.map some) (hR : isR.map (fun i => ws[i]?) = wr.map some) (hn : va_nd isR = true) (hdis : ∀ i ∈ isR, i ∉ isC)
    (hc : cells + mc ≤ R.cells) (hs : slots + ms ≤ R.slots) (hdg : decode cc pc = .ok (.invokevirtual index, 3)) (T : State) (hT : T.heap = H) (X : Stand p l e R s m args below meth c T locs cells slots) :
    ∃ (x : Addr) (u : S) (T' : State) (locs1 : List Loc), post x u ∧ va_P D cl (wr ++ ws1 u) T'.heap ∧ va_D A (wr ++ ws1 u) ∧ va_S A H0 T'.heap locs1 ∧ Stand p l e R s m args below meth c T' locs1 (cells + mc) (slots + ms) ∧
      ∀ target, Steps p.tables e below ((T'.setTop (F0 m pc ls rest)).pushFrame (.throwing x)) target → Steps p.tables e below (T.setTop (F0 m pc ls st0)) target := by
  have hPc := hP.sub isC hCf
  have hDc := hD.sub isC hCn hC
  obtain ⟨cellB, hcB, hoB, hclB⟩ := va_recv hk9 hPc hci hcq
  have hinst := hts _ w2
  have hcode := hts _ w4
  obtain ⟨mk, methM, hnamed, hmethM, hstM, habM⟩ := Cond.instanceMethod_spec hinst
  obtain ⟨methM', cM, hmethM', -, -, -, -, -, -, hsigM⟩ := Cond.code_spec hnamed hcode
  cases hmethM.symm.trans hmethM'
  obtain ⟨c2, r2, m2, q1, q2, q3, q4, kP, hkP, hkPi⟩ := Cond.selects_spec (hts _ w5)
  cases hclB.symm.trans q1
  cases (State.methodFound?_of_named hnamed ⟨hd.1, hd.2.1⟩).symm.trans q2
  cases hnamed.symm.trans q3
  have hselP : selectMethod e.platform s.vm cellB.cls mk = .method mk := by rw [Launch.admits_selectMethod X.admits]; exact q4
  have hlen : As.length = methM.sig.parameters.length := by
    have h2 := hd.2.2
    rw [hsigM] at h2
    exact hk.trans (Option.some.inj h2).symm
  obtain ⟨vm₁, X₁, hstep₁⟩ := X.invokevirtual hx hown (hts _ w1) hnamed hmethM hstM hkP hkPi ⟨hd.1, hd.2.1⟩ (a := a) (cell := cellB) (by rw [hT]; exact hcB)
    (fun z h => by rw [h] at hoB; cases hoB) hselP hmethM habM hkP hkPi (g := F0 m pc ls st0) rfl (argsL := As) (rest := rest) hlen hst (by rw [hb]; exact hdg)
  have hpc : ax_Pre cl D K (.ref a :: As) wc H.size (Value.ref a :: As).toArray ((T.setVm vm₁).calling (F0 m pc ls rest) mk (Value.ref a :: As).toArray) :=
    ax_blind kp _ _ _ _ ⟨rfl, by show T.heap.size = _; rw [hT], by show va_P D cl wc T.heap; rw [hT]; exact hPc, hK (T.setVm vm₁) hT X₁.warmed, hDc.weaken (fun _ _ _ _ => trivial)⟩
  obtain ⟨x, t, T', L, X', hL, e1, e2, ⟨⟨x2, u, hv, hp, hP1, hD1⟩, hz, hk1⟩, hsteps⟩ := ax_throws X₁ (C H.size) rfl rfl hfr hlo (pay_in hts (ax_goodc hZ w4)) List.mem_cons_self (fun a' U hW => word_at hW (Or.inl (by first | rfl | simp [Cond.onTables, Cond.keeps, Cond.steady])) (hts _ w3)) (g := F0 m pc ls rest) rfl (hls.trans hml.symm) (by rw [hb]; exact hdg) (lv_room hrest) (X₁.named hnamed) hc hs hpc
  cases hv
  have hh : ((T.setVm vm₁).calling (F0 m pc ls rest) mk (Value.ref a :: As).toArray).heap = H := hT
  rw [hh] at hz hk1
  have hF := va_free hD hS hA isC hC
  have hk2 : ∀ q : Nat, q < H.size → ¬ va_A wc H.size q → T'.heap[q]? = H[q]? := fun q h1 h2 => by rw [e1]; exact hk1 q h1 h2
  rw [← e1] at hP1 hz
  obtain ⟨hP2, hD2⟩ := va_join hP hD isC isR hC hR hn hdis hk2 hF hP1 hD1
  exact ⟨x, u, T', locs ++ L, hp, hP2, hD2, ⟨Nat.le_trans hS.1 hz, fun q h1 h2 => by rw [hk2 q (Nat.lt_of_lt_of_le h1 hS.1) (fun z => h2 (hF q z))]; exact hS.2.1 q h1 h2, fun q hq => by
      rcases List.mem_append.mp hq with h | h
      · exact hS.2.2 q h
      · exact hF _ (hL q h)⟩, X', fun target h => hstep₁ _ fun acts => (hsteps acts).trans h⟩
/-- .. and out of the caller, which has no handlers -/
theorem ax_VT {S S2 : Type} {post : Addr → S → Prop} {ws1 : S → va_W} {post2 : Addr → S2 → Prop} {ws2 : S2 → va_W} {mc ms mc2 ms2 : Nat} {st0 : List Value} (hlocks : meth.locks = false) (hne : c.exceptionTable.isEmpty = true)
    (hr : ∀ T : State, T.heap = H → Stand p l e R s m args below meth c T locs cells slots → ∃ (x : Addr) (u : S) (T' : State) (locs1 : List Loc), post x u ∧ va_P D cl (wr ++ ws1 u) T'.heap ∧ va_D A (wr ++ ws1 u) ∧ va_S A s.heap T'.heap locs1 ∧ Stand p l e R s m args below meth c T' locs1 (cells + mc) (slots + ms) ∧
      ∀ target, Steps p.tables e below ((T'.setTop (F0 m pc ls rest)).pushFrame (.throwing x)) target → Steps p.tables e below (T.setTop (F0 m pc ls st0)) target)
    (hc : cells + mc ≤ mc2) (hs : slots + ms ≤ ms2)
    (fin : ∀ (x : Addr) (u : S) (H1 : Heap), post x u → va_P D cl (wr ++ ws1 u) H1 → va_D A (wr ++ ws1 u) → ∃ u2 : S2, post2 x u2 ∧ va_P D cl (ws2 u2) H1 ∧ va_D A (ws2 u2)) :
    W p l e R s m args below meth c H locs cells slots (MQT below (ax_QT post2 (ax_B cl D A ws2) A) args s mc2 ms2 A) (F0 m pc ls st0) := by
  intro T hT X
  obtain ⟨x, u, T', locs1, hp, hP, hD, hS, X', st⟩ := hr T hT X
  obtain ⟨u2, hp2, hP2, hD2⟩ := fin x u T'.heap hp hP hD
  obtain ⟨a1, a2, a3, a4, a5⟩ := (stand_widen X' hc hs).leaveThrown x (g := F0 m pc ls rest) rfl rfl rfl (covers_of_empty hne _) hlocks
  have hh : (T'.setFrames (.throwing x :: below)).heap = T'.heap := rfl
  exact ⟨_, st _ a1, .threw x, a2, a3, ⟨⟨x, u2, rfl, hp2, by rw [hh]; exact hP2, hD2⟩, hS.F hh⟩, locs1, ⟨⟨x, rfl⟩, a4, a5⟩, hS.2.2⟩
/-- .. and into the caller's handler -/
theorem ax_VC {S : Type} {post : Addr → S → Prop} {ws1 : S → va_W} {mc ms hpc : Nat} {st0 : List Value}
    (hr : ∀ T : State, T.heap = H → Stand p l e R s m args below meth c T locs cells slots → ∃ (x : Addr) (u : S) (T' : State) (locs1 : List Loc), post x u ∧ va_P D cl (wr ++ ws1 u) T'.heap ∧ va_D A (wr ++ ws1 u) ∧ va_S A H0 T'.heap locs1 ∧ Stand p l e R s m args below meth c T' locs1 (cells + mc) (slots + ms) ∧
      ∀ target, Steps p.tables e below ((T'.setTop (F0 m pc ls rest)).pushFrame (.throwing x)) target → Steps p.tables e below (T.setTop (F0 m pc ls st0)) target)
    (hf : ∀ (x : Addr) (u : S) (T' : State) (locs1 : List Loc), post x u → va_P D cl (wr ++ ws1 u) T'.heap → Stand p l e R s m args below meth c T' locs1 (cells + mc) (slots + ms) → ∃ vm' : Vm, s.WarmedH vm' ∧ ax_Fnd e ((T'.setTop (F0 m pc ls rest)).pushFrame (.throwing x)) (F0 m pc ls rest) x (.found hpc) vm')
    (kk : ∀ (x : Addr) (u : S) (H1 : Heap) (locs1 : List Loc), post x u → va_P D cl (wr ++ ws1 u) H1 → va_D A (wr ++ ws1 u) → va_S A H0 H1 locs1 → W p l e R s m args below meth c H1 locs1 (cells + mc) (slots + ms) Q (F0 m hpc ls [.ref x])) :
    W p l e R s m args below meth c H locs cells slots Q (F0 m pc ls st0) := by
  intro T hT X
  obtain ⟨x, u, T', locs1, hp, hP, hD, hS, X', st⟩ := hr T hT X
  obtain ⟨vm', hW, hfn⟩ := hf x u T' locs1 hp hP X'
  obtain ⟨t, a1, b1⟩ := kk x u T'.heap locs1 hp hP hD hS (T'.setVm vm') rfl (X'.noted hW)
  exact ⟨t, st _ (ax_caught (g := F0 m pc ls rest) X'.here hfn a1), b1⟩
end AXW
