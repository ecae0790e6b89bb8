section
/-! MY OWN KIT: one form of contract for all methods; a call as one row. Nothing here speaks of the classes. -/
/-- a method's words: its code, and one list Z for all methods of a side -/
abbrev ax_w (Z : List Cond) (y : MethodName) (b : ByteArray) (n : Nat) (r : Option FieldType) : List Cond := .code y b n r :: Z
/-- what a method knows beside its cells asks nothing of frames -/
def ax_bl (K : State → Prop) : Prop := ∀ (U : State) (g : JFrame) (mk : MethodId) (a : Array Value), K U → K (U.calling g mk a)
def ax_Pre (cl : List vw_C) (D : va_G) (K : State → Prop) (As : List Value) (ws : va_W) (sz : Nat) : Array Value → State → Prop :=
  va_Pc As (fun U => U.heap.size = sz ∧ va_P D cl ws U.heap ∧ K U ∧ va_D (fun _ => True) ws)
def ax_B {S : Type} (cl : List vw_C) (D : va_G) (A : Nat → Prop) (ws1 : S → va_W) (u : S) (t : State) : Prop :=
  va_P D cl (ws1 u) t.heap ∧ va_D A (ws1 u)
def ax_Q {S : Type} (post : Option Value → S → Prop) (B : S → State → Prop) (A : Nat → Prop) : Array Value → State → Outcome → State → Prop :=
  fun _ st oc t => (∃ (v : Option Value) (u : S), oc = .returned v ∧ post v u ∧ B u t) ∧ va_F A st t
/-- the contract: from the cells ws the method returns v with 'post v u', the cells are then 'ws1 u'; fr frames, lo words, mc cells of ms slots are enough -/
def CT {S : Type} (l : Launch) (cl : List vw_C) (D : va_G) (K : State → Prop) (Z : List Cond) (y : MethodName) (b : ByteArray) (n : Nat) (r : Option FieldType) (fr lo mc ms : Nat) (As : List Value) (ws : va_W) (post : Option Value → S → Prop) (ws1 : S → va_W) : Prop :=
  ∀ sz : Nat, Met l y (ax_w Z y b n r) ({ frames := fr, cells := mc, slots := ms, locals := lo }) (ax_Pre cl D K As ws sz) (ax_Q post (ax_B cl D (va_A ws sz) ws1) (va_A ws sz)) mc ms (va_A ws sz)
/-- what is known in a method's body -/
def ax_At (p : Program) (s : State) (m : MethodId) (meth : Method) (c : Code) (args : Array Value) (Z : List Cond) (y : MethodName) (b : ByteArray) (n : Nat) (r : Option FieldType) : Prop :=
  p.tables.exec = Jvm.exec ∧ c.code = b ∧ meth.sig.returnType = r ∧ c.maxLocals = n ∧ s.vm.findClass y.cls = some m.cls ∧ (∀ w ∈ Z, w.before args s = true) ∧ meth.locks = false ∧ meth.name = y.name
theorem ax_of {S : Type} {l : Launch} {cl : List vw_C} {D : va_G} {K : State → Prop} {Z : List Cond} {y : MethodName} {b : ByteArray} {n : Nat} {r : Option FieldType} {fr lo mc ms : Nat} {As : List Value} {ws : va_W} {post : Option Value → S → Prop} {ws1 : S → va_W}
    (hy : plainName y.cls = true) (hn : (lg_sl As).length ≤ n)
    (body : ∀ (p : Program) (e : Env) (s : State) (m : MethodId) (below : List Frame) (meth : Method) (c : Code) (A : Nat → Prop) (ls : Array Slot), ax_At p s m meth c As.toArray Z y b n r → K s → va_P D cl ws s.heap → va_D A ws → va_S A s.heap s.heap [] → (∀ q : Nat, s.heap.size ≤ q → A q) → lv_has ls n (lv_args 0 As) →
      W p l e ({ frames := fr, cells := mc, slots := ms, locals := lo }) s m As.toArray below meth c s.heap [] 0 0 (MQ below (ax_Q post (ax_B cl D A ws1) A) As.toArray s mc ms A) (F0 m 0 ls [])) :
    CT l cl D K Z y b n r fr lo mc ms As ws post ws1 := by
  intro sz
  refine Met.ofW (cc := b) (maxL := n) (ret := r) hy rfl ?_
  intro p e s m args below meth c s₁ B hml hv
  obtain ⟨rfl, hsz, hP, hK, hD0⟩ := hv
  subst hsz
  have hD := hD0.self (sz := s.heap.size)
  have hts0 := atoms_spec (ws := ax_w Z y b n r) B.pre
  rw [lg_entry_eq]
  exact body p e s m below meth c _ _ ⟨B.exec, B.bytes, B.returns, hml, findClass_of_methodNamed B.named, fun w h => hts0 w (List.mem_cons_of_mem _ h), B.notSynchronized, (name_of_methodNamed B.named B.method).1⟩ hK hP hD va_S.rf (fun q h => Or.inr h) (lv_entry As hn)
section AX
variable {p : Program} {l : Launch} {e : Env} {R : Room} {s : State} {m : MethodId} {args : Array Value} {below : List Frame} {meth : Method} {c : Code} {H : Heap} {locs : List Loc} {cells slots : Nat} {Q : State → Prop}
variable {cl : List vw_C} {D : va_G} {K : State → Prop} {tys : List (ClassId × FieldType)} {Z : List Cond} {A : Nat → Prop} {ws wc wr : va_W} {H0 : Heap} {cc : ByteArray} {pc : Nat} {ls : Array Slot} {rest : List Value}
/-- the end of a method without a result -/
theorem ax_vret {S : Type} {post : Option Value → S → Prop} {ws1 : S → va_W} {mc ms : Nat} (hx : p.tables.exec = Jvm.exec) (hb : c.code = cc) (hr : meth.sig.returnType = none) (hlocks : meth.locks = false) (hP : va_P D cl ws H) (hD : va_D A ws) (hS : va_S A s.heap H locs) (u : S) (hp : post none u) (is : List Nat) (h1 : is.filterMap (fun i => ws[i]?) = ws1 u) (hn : va_nd is = true) (h2 : is.map (fun i => ws[i]?) = (ws1 u).map some) (hc : cells ≤ mc) (hs : slots ≤ ms) (hdg : decode cc pc = .ok (.return_, 1)) :
    W p l e R s m args below meth c H locs cells slots (MQ below (ax_Q post (ax_B cl D A ws1) A) args s mc ms A) (F0 m pc ls []) := by
  refine W.widen hc hs ?_
  exact W.vret hx hb hr (fun t ht hW => ⟨⟨none, u, rfl, hp, by rw [ht]; exact hP.sub is h1, hD.sub is hn h2⟩, hS.F ht⟩) hS.2.2 hdg hlocks
theorem ax_iret {S : Type} {post : Option Value → S → Prop} {ws1 : S → va_W} {mc ms : Nat} {v : Int32} (hx : p.tables.exec = Jvm.exec) (hb : c.code = cc) (hr : meth.sig.returnType = some .int) (hlocks : meth.locks = false) (hP : va_P D cl ws H) (hD : va_D A ws) (hS : va_S A s.heap H locs) (u : S) (hp : post (some (.int v)) u) (is : List Nat) (h1 : is.filterMap (fun i => ws[i]?) = ws1 u) (hn : va_nd is = true) (h2 : is.map (fun i => ws[i]?) = (ws1 u).map some) (hc : cells ≤ mc) (hs : slots ≤ ms) (hdg : decode cc pc = .ok (.ireturn, 1)) :
    W p l e R s m args below meth c H locs cells slots (MQ below (ax_Q post (ax_B cl D A ws1) A) args s mc ms A) (F0 m pc ls [.int v]) := by
  refine W.widen hc hs ?_
  exact W.iret hx hb hr (fun t ht hW => ⟨⟨_, u, rfl, hp, by rw [ht]; exact hP.sub is h1, hD.sub is hn h2⟩, hS.F ht⟩) hS.2.2 hdg hlocks
theorem ax_zret {S : Type} {post : Option Value → S → Prop} {ws1 : S → va_W} {mc ms : Nat} {v : Int32} (hx : p.tables.exec = Jvm.exec) (hb : c.code = cc) (hr : meth.sig.returnType = some .boolean) (hz : narrow .boolean (.int v) = .int v) (hlocks : meth.locks = false) (hP : va_P D cl ws H) (hD : va_D A ws) (hS : va_S A s.heap H locs) (u : S) (hp : post (some (.int v)) u) (is : List Nat) (h1 : is.filterMap (fun i => ws[i]?) = ws1 u) (hn : va_nd is = true) (h2 : is.map (fun i => ws[i]?) = (ws1 u).map some) (hc : cells ≤ mc) (hs : slots ≤ ms) (hdg : decode cc pc = .ok (.ireturn, 1)) :
    W p l e R s m args below meth c H locs cells slots (MQ below (ax_Q post (ax_B cl D A ws1) A) args s mc ms A) (F0 m pc ls [.int v]) := by
  refine W.widen hc hs ?_
  exact W.zret hx hb hr hz (fun t ht hW => ⟨⟨_, u, rfl, hp, by rw [ht]; exact hP.sub is h1, hD.sub is hn h2⟩, hS.F ht⟩) hS.2.2 hdg (hlocks := hlocks)
theorem ax_lret {S : Type} {post : Option Value → S → Prop} {ws1 : S → va_W} {mc ms : Nat} {v : Int64} (hx : p.tables.exec = Jvm.exec) (hb : c.code = cc) (hr : meth.sig.returnType = some .long) (hlocks : meth.locks = false) (hP : va_P D cl ws H) (hD : va_D A ws) (hS : va_S A s.heap H locs) (u : S) (hp : post (some (.long v)) u) (is : List Nat) (h1 : is.filterMap (fun i => ws[i]?) = ws1 u) (hn : va_nd is = true) (h2 : is.map (fun i => ws[i]?) = (ws1 u).map some) (hc : cells ≤ mc) (hs : slots ≤ ms) (hdg : decode cc pc = .ok (.lreturn, 1)) :
    W p l e R s m args below meth c H locs cells slots (MQ below (ax_Q post (ax_B cl D A ws1) A) args s mc ms A) (F0 m pc ls [.long v]) := by
  refine W.widen hc hs ?_
  exact W.lret hx hb hr (fun t ht hW => ⟨⟨_, u, rfl, hp, by rw [ht]; exact hP.sub is h1, hD.sub is hn h2⟩, hS.F ht⟩) hS.2.2 hdg (hlocks := hlocks)
/-- what a callee's contract asks at the call -/
theorem ax_blind (kp : ax_bl K) {As : List Value} {sz : Nat} : FrameBlind (ax_Pre cl D K As wc sz) := fun a U g mk q => by
  obtain ⟨q0, q1, qP, qK, qD⟩ := q
  exact ⟨q0, q1, qP, kp U g mk a qK, qD⟩
theorem ax_preS {As : List Value} (kp : ax_bl K) (hK : ∀ U : State, U.heap = H → s.WarmedH U.vm → K U) (hP : va_P D cl wc H) (hD : va_D A wc) : PreS s H (ax_Pre cl D K As wc H.size) As :=
  ⟨ax_blind kp, fun U hU hW => ⟨rfl, by rw [hU], by rw [hU]; exact hP, hK U hU hW, hD.weaken (fun _ _ _ _ => trivial)⟩⟩
theorem ax_preV {As : List Value} {C : String} {a q0 ci : Nat} {T : u_T} {N : Nat} {fs : List Value} (kp : ax_bl K) (hK : ∀ U : State, U.heap = H → s.WarmedH U.vm → K U) (hk : va_K D cl tys s) (hP : va_P D cl wc H) (hD : va_D A wc) (hc : cl[ci]? = some (C, T, N)) (he : wc[q0]? = some (a, .inr (ci, fs))) : PreV s H C a (ax_Pre cl D K (.ref a :: As) wc H.size) As :=
  ⟨ax_blind kp, va_recv hk hP hc he, fun U hU hW => ⟨rfl, by rw [hU], by rw [hU]; exact hP, hK U hU hW, hD.weaken (fun _ _ _ _ => trivial)⟩⟩
/-- behind a call: what came back beside the rest -/
theorem ax_back {S : Type} {post : Option Value → S → Prop} {ws1 : S → va_W} {mc ms : Nat} {st0 : List Value} {a : Array Value}
    (hr : va_Run p l e R s m args below meth c H locs cells slots mc ms (F0 m pc ls st0) rest (ax_Q post (ax_B cl D (va_A wc H.size) ws1) (va_A wc H.size) a) (va_A wc H.size))
    (hP : va_P D cl ws H) (hD : va_D A ws) (hS : va_S A H0 H locs) (hA : ∀ q, H0.size ≤ q → A q) (isC isR : List Nat) (hC : isC.map (fun i => ws[i]?) = wc.map some) (hR : isR.map (fun i => ws[i]?) = wr.map some) (hn : va_nd isR = true) (hdis : ∀ i ∈ isR, i ∉ isC)
    (kk : ∀ (v : Option Value) (u : S) (H1 : Heap) (locs1 : List Loc), post v u → va_P D cl (wr ++ ws1 u) H1 → va_D A (wr ++ ws1 u) → va_S A H0 H1 locs1 → W p l e R s m args below meth c H1 locs1 (cells + mc) (slots + ms) Q (F0 m (pc + 3) ls (v.toList ++ rest))) :
    W p l e R s m args below meth c H locs cells slots Q (F0 m pc ls st0) := by
  intro T hT X
  obtain ⟨v, st₀, t, T', L, h0, X', hL, e1, e2, ⟨⟨v2, u, hv, hp, hP1, hD1⟩, hz, hk⟩, st⟩ := hr T hT X
  cases hv
  rw [h0] at hz hk
  have hF := va_free hD hS hA isC hC
  have hk2 : ∀ q : Nat, q < H.size → ¬ va_A wc H.size q → T'.heap[q]? = H[q]? := fun q h1 h2 => by rw [e1]; exact hk q h1 h2
  rw [← e1] at hP1 hz
  obtain ⟨hP2, hD2⟩ := va_join hP hD isC isR hC hR hn hdis hk2 hF hP1 hD1
  obtain ⟨t2, a1, b1⟩ := kk v u T'.heap (locs ++ L) hp hP2 hD2
    ⟨Nat.le_trans hS.1 hz, fun q h1 h2 => by rw [hk2 q (Nat.lt_of_lt_of_le h1 hS.1) (fun z => h2 (hF q z))]; exact hS.2.1 q h1 h2, fun q hq => by
      rcases List.mem_append.mp hq with h | h
      · exact hS.2.2 q h
      · exact hF _ (hL q h)⟩ T' rfl X'
  exact ⟨t2, st t2 a1, b1⟩
/-- a list of words that is good in itself -/
def ax_good (Z : List Cond) : Prop := GoodIn Z Z
theorem ax_goodc {y : MethodName} {b : ByteArray} {n : Nat} {r : Option FieldType} (hZ : ax_good Z) (h : Cond.code y b n r ∈ Z) : GoodIn Z (ax_w Z y b n r) := fun w hw => by
  rcases List.mem_cons.mp hw with rfl | h2
  · exact ⟨h, Or.inl rfl⟩
  · exact hZ w h2
/-- invokespecial <init> -/
theorem ax_I {S : Type} {post : Option Value → S → Prop} {ws1 : S → va_W} {y : MethodName} {b : ByteArray} {n fr lo mc ms nL index k : Nat} {As st0 : List Value} {a : Nat} {own : String} (hst : st0 = As.reverse ++ .ref a :: rest)
    (hx : p.tables.exec = Jvm.exec) (hb : c.code = cc) (hml : c.maxLocals = nL) (hown : s.vm.findClass own = some m.cls) (hts : ∀ w ∈ Z, w.before args s = true) (hZ : ax_good Z) (kp : ax_bl K)
    (C : CT l cl D K Z y b n none fr lo mc ms (.ref a :: As) wc post ws1) (hy1 : y.name = "<init>") (w1 : Cond.methodLink own index y ∈ Z) (w2 : Cond.instanceMethod y ∈ Z) (w3 : Cond.initialized y.cls ∈ Z) (w4 : Cond.code y b n none ∈ Z)
    (hd : y.cls ≠ "java/lang/invoke/MethodHandle" ∧ y.cls ≠ "java/lang/invoke/VarHandle" ∧ (parseMethodDescriptor y.desc).map (fun d => d.parameters.length) = some k) (hk : As.length = k) (hfr : fr + 1 ≤ R.frames) (hlo : 8 + (n + 11) + lo ≤ R.locals) (hls : ls.size = nL) (hrest : (rest.map fun v => v.category).sum ≤ 8)
    (hK : ∀ U : State, U.heap = H → s.WarmedH U.vm → K U) (hP : va_P D cl ws H) (hD : va_D A ws) (hS : va_S A H0 H locs) (hA : ∀ q, H0.size ≤ q → A q) (isC isR : List Nat) (hCf : isC.filterMap (fun i => ws[i]?) = wc) (hCn : va_nd isC = true) (hC : isC.map (fun i => ws[i]?) = wc.map some) (hR : isR.map (fun i => ws[i]?) = wr.map some) (hn : va_nd isR = true) (hdis : ∀ i ∈ isR, i ∉ isC)
    (hc : cells + mc ≤ R.cells) (hs : slots + ms ≤ R.slots) (hdg : decode cc pc = .ok (.invokespecial index, 3))
    (kk : ∀ (v : Option Value) (u : S) (H1 : Heap) (locs1 : List Loc), post v u → va_P D cl (wr ++ ws1 u) H1 → va_D A (wr ++ ws1 u) → va_S A H0 H1 locs1 → W p l e R s m args below meth c H1 locs1 (cells + mc) (slots + ms) Q (F0 m (pc + 3) ls (v.toList ++ rest))) :
    W p l e R s m args below meth c H locs cells slots Q (F0 m pc ls st0) :=
  ax_back (va_runI (As := As) (rest := rest) ⟨hx, hb, hml, hown, hts⟩ (C H.size) (cwI k hts (ax_goodc hZ w4) rfl rfl rfl (hts _ w3) (hts _ w1) (hts _ w2) hy1 hd ⟨hfr, hlo⟩) (ax_preS kp hK (hP.sub isC hCf) (hD.sub isC hCn hC)) rfl hk hls hst (lv_room hrest) hdg ⟨hc, hs⟩) hP hD hS hA isC isR hC hR hn hdis kk
/-- of a nest mate -/
theorem ax_IN {S : Type} {post : Option Value → S → Prop} {ws1 : S → va_W} {y : MethodName} {b : ByteArray} {n fr lo mc ms nL index k : Nat} {As st0 : List Value} {a : Nat} {own : String} (hst : st0 = As.reverse ++ .ref a :: rest)
    (hx : p.tables.exec = Jvm.exec) (hb : c.code = cc) (hml : c.maxLocals = nL) (hown : s.vm.findClass own = some m.cls) (hts : ∀ w ∈ Z, w.before args s = true) (hZ : ax_good Z) (kp : ax_bl K)
    (C : CT l cl D K Z y b n none fr lo mc ms (.ref a :: As) wc post ws1) (hy1 : y.name = "<init>") {host : String} (w1 : va_Nw (.methodLinkNest own index y host) s) (w2 : Cond.instanceMethod y ∈ Z) (w3 : Cond.initialized y.cls ∈ Z) (w4 : Cond.code y b n none ∈ Z)
    (hd : y.cls ≠ "java/lang/invoke/MethodHandle" ∧ y.cls ≠ "java/lang/invoke/VarHandle" ∧ (parseMethodDescriptor y.desc).map (fun d => d.parameters.length) = some k) (hk : As.length = k) (hfr : fr + 1 ≤ R.frames) (hlo : 8 + (n + 11) + lo ≤ R.locals) (hls : ls.size = nL) (hrest : (rest.map fun v => v.category).sum ≤ 8)
    (hK : ∀ U : State, U.heap = H → s.WarmedH U.vm → K U) (hP : va_P D cl ws H) (hD : va_D A ws) (hS : va_S A H0 H locs) (hA : ∀ q, H0.size ≤ q → A q) (isC isR : List Nat) (hCf : isC.filterMap (fun i => ws[i]?) = wc) (hCn : va_nd isC = true) (hC : isC.map (fun i => ws[i]?) = wc.map some) (hR : isR.map (fun i => ws[i]?) = wr.map some) (hn : va_nd isR = true) (hdis : ∀ i ∈ isR, i ∉ isC)
    (hc : cells + mc ≤ R.cells) (hs : slots + ms ≤ R.slots) (hdg : decode cc pc = .ok (.invokespecial index, 3))
    (kk : ∀ (v : Option Value) (u : S) (H1 : Heap) (locs1 : List Loc), post v u → va_P D cl (wr ++ ws1 u) H1 → va_D A (wr ++ ws1 u) → va_S A H0 H1 locs1 → W p l e R s m args below meth c H1 locs1 (cells + mc) (slots + ms) Q (F0 m (pc + 3) ls (v.toList ++ rest))) :
    W p l e R s m args below meth c H locs cells slots Q (F0 m pc ls st0) :=
  ax_back (va_runIN (host := host) (As := As) (rest := rest) ⟨hx, hb, hml, hown, hts⟩ (C H.size) ⟨va_cnB k hts (ax_goodc hZ w4) rfl rfl rfl w1 (hts _ w3) hd ⟨hfr, hlo⟩, hy1, hts _ w2⟩ (ax_preS kp hK (hP.sub isC hCf) (hD.sub isC hCn hC)) rfl hk hls hst (lv_room hrest) hdg ⟨hc, hs⟩) hP hD hS hA isC isR hC hR hn hdis kk
/-- invokevirtual of a class's own method -/
theorem ax_V {S : Type} {post : Option Value → S → Prop} {ws1 : S → va_W} {y : MethodName} {b : ByteArray} {n fr lo mc ms nL index k ci q0 N : Nat} {T : u_T} {fs : List Value} {ret : Option FieldType} {As st0 : List Value} {a : Nat} {own : String} (hst : st0 = As.reverse ++ .ref a :: rest)
    (hx : p.tables.exec = Jvm.exec) (hb : c.code = cc) (hml : c.maxLocals = nL) (hown : s.vm.findClass own = some m.cls) (hts : ∀ w ∈ Z, w.before args s = true) (hZ : ax_good Z) (kp : ax_bl K)
    (C : CT l cl D K Z y b n ret fr lo mc ms (.ref a :: As) wc post ws1) (w1 : Cond.methodLink own index y ∈ Z) (w2 : Cond.instanceMethod y ∈ Z) (w3 : Cond.initialized y.cls ∈ Z) (w4 : Cond.code y b n ret ∈ Z) (w5 : Cond.selects y.cls y y ∈ Z)
    (hd : y.cls ≠ "java/lang/invoke/MethodHandle" ∧ y.cls ≠ "java/lang/invoke/VarHandle" ∧ (parseMethodDescriptor y.desc).map (fun d => d.parameters.length) = some k) (hk : As.length = k) (hfr : fr + 1 ≤ R.frames) (hlo : 8 + (n + 11) + lo ≤ R.locals) (hls : ls.size = nL) (hrest : (rest.map fun v => v.category).sum ≤ 8)
    (hK : ∀ U : State, U.heap = H → s.WarmedH U.vm → K U) (hk9 : va_K D cl tys s) (hP : va_P D cl ws H) (hD : va_D A ws) (hS : va_S A H0 H locs) (hA : ∀ q, H0.size ≤ q → A q) (hci : cl[ci]? = some (y.cls, T, N)) (hcq : wc[q0]? = some (a, .inr (ci, fs))) (isC isR : List Nat) (hCf : isC.filterMap (fun i => ws[i]?) = wc) (hCn : va_nd isC = true) (hC : isC.map (fun i => ws[i]?) = wc.map some) (hR : isR.map (fun i => ws[i]?) = wr.map some) (hn : va_nd isR = true) (hdis : ∀ i ∈ isR, i ∉ isC)
    (hc : cells + mc ≤ R.cells) (hs : slots + ms ≤ R.slots) (hdg : decode cc pc = .ok (.invokevirtual index, 3))
    (kk : ∀ (v : Option Value) (u : S) (H1 : Heap) (locs1 : List Loc), post v u → va_P D cl (wr ++ ws1 u) H1 → va_D A (wr ++ ws1 u) → va_S A H0 H1 locs1 → W p l e R s m args below meth c H1 locs1 (cells + mc) (slots + ms) Q (F0 m (pc + 3) ls (v.toList ++ rest))) :
    W p l e R s m args below meth c H locs cells slots Q (F0 m pc ls st0) :=
  ax_back (va_runV (As := As) (rest := rest) (C := y.cls) ⟨hx, hb, hml, hown, hts⟩ (C H.size) ⟨callB_of k hts (ax_goodc hZ w4) rfl rfl rfl (hts _ w3) (hts _ w1) hd ⟨hfr, hlo⟩, hts _ w2, hts _ w5⟩ (ax_preV kp hK hk9 (hP.sub isC hCf) (hD.sub isC hCn hC) hci hcq) rfl hk hls hst (lv_room hrest) hdg ⟨hc, hs⟩) hP hD hS hA isC isR hC hR hn hdis kk
/-- of a nest mate -/
theorem ax_VN {S : Type} {post : Option Value → S → Prop} {ws1 : S → va_W} {y : MethodName} {b : ByteArray} {n fr lo mc ms nL index k ci q0 N : Nat} {T : u_T} {fs : List Value} {ret : Option FieldType} {As st0 : List Value} {a : Nat} {own : String} (hst : st0 = As.reverse ++ .ref a :: rest)
    (hx : p.tables.exec = Jvm.exec) (hb : c.code = cc) (hml : c.maxLocals = nL) (hown : s.vm.findClass own = some m.cls) (hts : ∀ w ∈ Z, w.before args s = true) (hZ : ax_good Z) (kp : ax_bl K)
    (C : CT l cl D K Z y b n ret fr lo mc ms (.ref a :: As) wc post ws1) {host : String} (w1 : va_Nw (.methodLinkNest own index y host) s) (w2 : Cond.instanceMethod y ∈ Z) (w3 : Cond.initialized y.cls ∈ Z) (w4 : Cond.code y b n ret ∈ Z) (w5 : Cond.selects y.cls y y ∈ Z)
    (hd : y.cls ≠ "java/lang/invoke/MethodHandle" ∧ y.cls ≠ "java/lang/invoke/VarHandle" ∧ (parseMethodDescriptor y.desc).map (fun d => d.parameters.length) = some k) (hk : As.length = k) (hfr : fr + 1 ≤ R.frames) (hlo : 8 + (n + 11) + lo ≤ R.locals) (hls : ls.size = nL) (hrest : (rest.map fun v => v.category).sum ≤ 8)
    (hK : ∀ U : State, U.heap = H → s.WarmedH U.vm → K U) (hk9 : va_K D cl tys s) (hP : va_P D cl ws H) (hD : va_D A ws) (hS : va_S A H0 H locs) (hA : ∀ q, H0.size ≤ q → A q) (hci : cl[ci]? = some (y.cls, T, N)) (hcq : wc[q0]? = some (a, .inr (ci, fs))) (isC isR : List Nat) (hCf : isC.filterMap (fun i => ws[i]?) = wc) (hCn : va_nd isC = true) (hC : isC.map (fun i => ws[i]?) = wc.map some) (hR : isR.map (fun i => ws[i]?) = wr.map some) (hn : va_nd isR = true) (hdis : ∀ i ∈ isR, i ∉ isC)
    (hc : cells + mc ≤ R.cells) (hs : slots + ms ≤ R.slots) (hdg : decode cc pc = .ok (.invokevirtual index, 3))
    (kk : ∀ (v : Option Value) (u : S) (H1 : Heap) (locs1 : List Loc), post v u → va_P D cl (wr ++ ws1 u) H1 → va_D A (wr ++ ws1 u) → va_S A H0 H1 locs1 → W p l e R s m args below meth c H1 locs1 (cells + mc) (slots + ms) Q (F0 m (pc + 3) ls (v.toList ++ rest))) :
    W p l e R s m args below meth c H locs cells slots Q (F0 m pc ls st0) :=
  ax_back (va_runVN (host := host) (As := As) (rest := rest) (C := y.cls) ⟨hx, hb, hml, hown, hts⟩ (C H.size) ⟨va_cnB k hts (ax_goodc hZ w4) rfl rfl rfl w1 (hts _ w3) hd ⟨hfr, hlo⟩, hts _ w2, hts _ w5⟩ (ax_preV kp hK hk9 (hP.sub isC hCf) (hD.sub isC hCn hC) hci hcq) rfl hk hls hst (lv_room hrest) hdg ⟨hc, hs⟩) hP hD hS hA isC isR hC hR hn hdis kk
/-- invokestatic -/
theorem ax_St {S : Type} {post : Option Value → S → Prop} {ws1 : S → va_W} {y : MethodName} {b : ByteArray} {n fr lo mc ms nL index k : Nat} {ret : Option FieldType} {As st0 : List Value} {own : String} (hst : st0 = As.reverse ++ rest)
    (hx : p.tables.exec = Jvm.exec) (hb : c.code = cc) (hml : c.maxLocals = nL) (hown : s.vm.findClass own = some m.cls) (hts : ∀ w ∈ Z, w.before args s = true) (hZ : ax_good Z) (kp : ax_bl K)
    (C : CT l cl D K Z y b n ret fr lo mc ms As wc post ws1) (w1 : Cond.methodLink own index y ∈ Z) (w2 : Cond.static y ∈ Z) (w3 : Cond.initialized y.cls ∈ Z) (w4 : Cond.code y b n ret ∈ Z)
    (hd : y.cls ≠ "java/lang/invoke/MethodHandle" ∧ y.cls ≠ "java/lang/invoke/VarHandle" ∧ (parseMethodDescriptor y.desc).map (fun d => d.parameters.length) = some k) (hk : As.length = k) (hfr : fr + 1 ≤ R.frames) (hlo : 8 + (n + 11) + lo ≤ R.locals) (hls : ls.size = nL) (hrest : (rest.map fun v => v.category).sum ≤ 8)
    (hK : ∀ U : State, U.heap = H → s.WarmedH U.vm → K U) (hP : va_P D cl ws H) (hD : va_D A ws) (hS : va_S A H0 H locs) (hA : ∀ q, H0.size ≤ q → A q) (isC isR : List Nat) (hCf : isC.filterMap (fun i => ws[i]?) = wc) (hCn : va_nd isC = true) (hC : isC.map (fun i => ws[i]?) = wc.map some) (hR : isR.map (fun i => ws[i]?) = wr.map some) (hn : va_nd isR = true) (hdis : ∀ i ∈ isR, i ∉ isC)
    (hc : cells + mc ≤ R.cells) (hs : slots + ms ≤ R.slots) (hdg : decode cc pc = .ok (.invokestatic index, 3))
    (kk : ∀ (v : Option Value) (u : S) (H1 : Heap) (locs1 : List Loc), post v u → va_P D cl (wr ++ ws1 u) H1 → va_D A (wr ++ ws1 u) → va_S A H0 H1 locs1 → W p l e R s m args below meth c H1 locs1 (cells + mc) (slots + ms) Q (F0 m (pc + 3) ls (v.toList ++ rest))) :
    W p l e R s m args below meth c H locs cells slots Q (F0 m pc ls st0) :=
  ax_back (va_runS (As := As) (rest := rest) ⟨hx, hb, hml, hown, hts⟩ (C H.size) ⟨callB_of k hts (ax_goodc hZ w4) rfl rfl rfl (hts _ w3) (hts _ w1) hd ⟨hfr, hlo⟩, hts _ w2⟩ (ax_preS kp hK (hP.sub isC hCf) (hD.sub isC hCn hC)) rfl hk hls hst (lv_room hrest) hdg ⟨hc, hs⟩) hP hD hS hA isC isR hC hR hn hdis kk
/-- a new array of a primitive kind whose class is in the world's tables already: no new kind -/
theorem ax_newa {atype : ArrayType} (hx : p.tables.exec = Jvm.exec) (hb : c.code = cc) (harr : (Cond.arrayClass (newarray.typeOf atype)).before args s = true) {ty : FieldType} (hty : newarray.typeOf atype = ty) (hK : va_K D cl tys s) (t0 : Nat) {cA : ClassId} (ht0 : tys[t0]? = some (cA, ty)) (hpr : ∀ C, ty ≠ .object C) (hP : va_P D cl ws H) (hD : va_D A ws) (hS : va_S A H0 H locs) (hA : ∀ q, H0.size ≤ q → A q)
    {n : Int32} {N' : Nat} {a0 : vp_A} (ha : ∀ cA : ClassId, vp_cell cA a0 = arrV cA N' (fun _ => defaultValue ty)) (hn : ¬ n < 0) (hN : n.toNatClampNeg = N') (hbytes : N' * componentBytes ty ≤ 536870912) (hcells : cells + 1 ≤ R.cells) (hslots : slots + N' ≤ R.slots) (hdg : decode cc pc = .ok (.newarray atype, 2))
    (kk : ∀ (q : Nat) (H1 : Heap), va_P D cl (ws ++ [(q, .inl (cA, a0))]) H1 → va_D A (ws ++ [(q, .inl (cA, a0))]) → va_S A H0 H1 locs →
      W p l e R s m args below meth c H1 locs (cells + 1) (slots + N') Q (F0 m (pc + 2) ls (.ref q :: rest))) : W p l e R s m args below meth c H locs cells slots Q (F0 m pc ls (.int n :: rest)) := by
  refine va_newa hx hb harr hty hK hP hD hS hA ha hn hN hbytes hcells hslots hdg (fun q cB H1 hK1 hP1 hD1 hS1 => ?_)
  have h1 : va_RA s cA ty := (hK.2 t0 _ ht0).2
  have h2 : va_RA s cB ty := (hK1.2 tys.length (cB, ty) (by simp)).2
  have he : cB = cA := by
    cases ty with
    | object C => exact absurd rfl (hpr C)
    | _ => exact Option.some.inj (h2.symm.trans h1)
  subst he
  exact kk q H1 hP1 hD1 hS1
/-- a new array of references that nobody asks for again -/
theorem ax_newq (hx : p.tables.exec = Jvm.exec) (hb : c.code = cc) {own C : String} {index : Nat} (hown : s.vm.findClass own = some m.cls) (hclink : (Cond.classLink own index C).before args s = true) (hover : va_AO C s) (hK : va_K D cl tys s) (hP : va_P D cl ws H) (hD : va_D A ws) (hS : va_S A H0 H locs) (hA : ∀ q, H0.size ≤ q → A q)
    {n : Int32} {N' : Nat} (hn : ¬ n < 0) (hN : n.toNatClampNeg = N') (hbytes : N' * 4 ≤ 536870912) (hcells : cells + 1 ≤ R.cells) (hslots : slots + N' ≤ R.slots) (hdg : decode cc pc = .ok (.anewarray index, 3))
    (kk : ∀ (q : Nat) (H1 : Heap), va_P D cl ws H1 → va_D A ws → va_S A H0 H1 locs → W p l e R s m args below meth c H1 locs (cells + 1) (slots + N') Q (F0 m (pc + 3) ls (.ref q :: rest))) : W p l e R s m args below meth c H locs cells slots Q (F0 m pc ls (.int n :: rest)) := by
  refine va_newq hx hb hown hclink hover hK hP hD hS hA hn hN hbytes hcells hslots hdg (fun q cA H1 hK1 hP1 hD1 hS1 => ?_)
  exact kk q H1 (fun k x hx => hP1 k x (by rw [List.getElem?_append_left (List.getElem?_eq_some_iff.mp hx).1]; exact hx)) hD hS1
end AX
end
section
def R_MM : String := "SourceBackModel"
def F_MM : u_T := fun k => match k with
  | 0 => ("SourceBackModel", "thrown", "I", false)
  | 1 => ("SourceBackModel", "halt", "LSourceBackModel$Halt;", true)
  | 2 => ("SourceBackModel", "tape", "LSourceBackModel$Bytes;", true)
  | 3 => ("SourceBackModel", "letters", "LSourceBackModel$Bytes;", true)
  | 4 => ("SourceBackModel", "wordFrom", "LSourceBackModel$Ints;", true)
  | 5 => ("SourceBackModel", "wordSize", "LSourceBackModel$Ints;", true)
  | 6 => ("SourceBackModel", "size", "I", false)
  | 7 => ("SourceBackModel", "at", "I", false)
  | 8 => ("SourceBackModel", "count", "I", false)
  | 9 => ("SourceBackModel", "files", "[LSourceBackModel$Box;", true)
  | 10 => ("SourceBackModel", "older", "[LSourceBackModel$Box;", true)
  | 11 => ("SourceBackModel", "edits", "[I", true)
  | 12 => ("SourceBackModel", "spares", "[LSourceBackModel$Box;", true)
  | 13 => ("SourceBackModel", "spareCount", "I", false)
  | 14 => ("SourceBackModel", "box", "LSourceBackModel$Box;", false)
  | 15 => ("SourceBackModel", "places", "LSourceBackModel$Ints;", true)
  | 16 => ("SourceBackModel", "nameAt", "I", false)
  | 17 => ("SourceBackModel", "reading", "LSourceBackModel$Member;", true)
  | 18 => ("SourceBackModel", "localKind", "[B", true)
  | 19 => ("SourceBackModel", "pileKind", "[B", true)
  | 20 => ("SourceBackModel", "depth", "[I", true)
  | 21 => ("SourceBackModel", "nowLocal", "[B", true)
  | 22 => ("SourceBackModel", "nowPile", "[B", true)
  | 23 => ("SourceBackModel", "nowDepth", "I", false)
  | 24 => ("SourceBackModel", "deepest", "I", false)
  | 25 => ("SourceBackModel", "changes", "Z", false)
  | 26 => ("SourceBackModel", "blocks", "I", false)
  | 27 => ("SourceBackModel", "begins", "[Z", true)
  | 28 => ("SourceBackModel", "order", "[I", true)
  | 29 => ("SourceBackModel", "first", "[I", true)
  | 30 => ("SourceBackModel", "last", "[I", true)
  | 31 => ("SourceBackModel", "parent", "[I", true)
  | 32 => ("SourceBackModel", "isHead", "[Z", true)
  | 33 => ("SourceBackModel", "isMet", "[Z", true)
  | 34 => ("SourceBackModel", "knotted", "Z", false)
  | 35 => ("SourceBackModel", "wayFrom", "[I", true)
  | 36 => ("SourceBackModel", "ways", "LSourceBackModel$Ints;", true)
  | 37 => ("SourceBackModel", "some", "LSourceBackModel$Ints;", true)
  | 38 => ("SourceBackModel", "stack", "LSourceBackModel$Ints;", true)
  | 39 => ("SourceBackModel", "left", "LSourceBackModel$Ints;", true)
  | 40 => ("SourceBackModel", "stackWay", "LSourceBackModel$Ints;", true)
  | 41 => ("SourceBackModel", "stackOf", "[I", true)
  | 42 => ("SourceBackModel", "termSort", "LSourceBackModel$Ints;", true)
  | 43 => ("SourceBackModel", "termA", "LSourceBackModel$Ints;", true)
  | 44 => ("SourceBackModel", "termB", "LSourceBackModel$Ints;", true)
  | 45 => ("SourceBackModel", "termC", "LSourceBackModel$Ints;", true)
  | 46 => ("SourceBackModel", "termV", "LSourceBackModel$Longs;", true)
  | 47 => ("SourceBackModel", "parts", "LSourceBackModel$Ints;", true)
  | 48 => ("SourceBackModel", "sort", "LSourceBackModel$Ints;", true)
  | 49 => ("SourceBackModel", "label", "LSourceBackModel$Ints;", true)
  | 50 => ("SourceBackModel", "sa", "LSourceBackModel$Ints;", true)
  | 51 => ("SourceBackModel", "sb", "LSourceBackModel$Ints;", true)
  | 52 => ("SourceBackModel", "sc", "LSourceBackModel$Ints;", true)
  | 53 => ("SourceBackModel", "sv", "LSourceBackModel$Longs;", true)
  | 54 => ("SourceBackModel", "body", "LSourceBackModel$Ints;", true)
  | 55 => ("SourceBackModel", "other", "LSourceBackModel$Ints;", true)
  | 56 => ("SourceBackModel", "next", "LSourceBackModel$Ints;", true)
  | 57 => ("SourceBackModel", "caseFrom", "LSourceBackModel$Ints;", true)
  | 58 => ("SourceBackModel", "caseMany", "LSourceBackModel$Ints;", true)
  | 59 => ("SourceBackModel", "caseBody", "LSourceBackModel$Ints;", true)
  | 60 => ("SourceBackModel", "caseNext", "LSourceBackModel$Ints;", true)
  | 61 => ("SourceBackModel", "caseKey", "LSourceBackModel$Longs;", true)
  | 62 => ("SourceBackModel", "temporaries", "I", false)
  | 63 => ("SourceBackModel", "arrays", "I", false)
  | 64 => ("SourceBackModel", "pile", "[I", true)
  | 65 => ("SourceBackModel", "high", "I", false)
  | 66 => ("SourceBackModel", "firstOut", "I", false)
  | 67 => ("SourceBackModel", "lastOut", "I", false)
  | 68 => ("SourceBackModel", "listFirst", "I", false)
  | 69 => ("SourceBackModel", "listLast", "I", false)
  | 70 => ("SourceBackModel", "lists", "LSourceBackModel$Ints;", true)
  | 71 => ("SourceBackModel", "page", "LSourceBackModel$Bytes;", false)
  | 72 => ("SourceBackModel", "tasks", "LSourceBackModel$Ints;", true)
  | 73 => ("SourceBackModel", "hasLocal", "[Z", true)
  | 74 => ("SourceBackModel", "placesSeen", "I", false)
  | 75 => ("SourceBackModel", "atSeen", "Z", false)
  | 76 => ("SourceBackModel", "seenTemporary", "LSourceBackModel$Ints;", true)
  | 77 => ("SourceBackModel", "seenArray", "LSourceBackModel$Ints;", true)
  | 78 => ("SourceBackModel", "signWords", "[Ljava/lang/String;", true)
  | 79 => ("SourceBackModel", "saidVariables", "I", false)
  | 80 => ("SourceBackModel", "comparedWords", "[Ljava/lang/String;", true)
  | 81 => ("SourceBackModel", "source", "LSourceBackModel$Bytes;", false)
  | 82 => ("SourceBackModel", "length", "I", false)
  | 83 => ("SourceBackModel", "token", "I", false)
  | 84 => ("SourceBackModel", "from", "I", false)
  | 85 => ("SourceBackModel", "to", "I", false)
  | 86 => ("SourceBackModel", "mark", "I", false)
  | 87 => ("SourceBackModel", "judged", "LSourceBackModel$Box;", false)
  | 88 => ("SourceBackModel", "making", "LSourceBackModel$Member;", false)
  | 89 => ("SourceBackModel", "variables", "I", false)
  | 90 => ("SourceBackModel", "variableWord", "[I", true)
  | 91 => ("SourceBackModel", "variableKind", "[I", true)
  | 92 => ("SourceBackModel", "labels", "I", false)
  | 93 => ("SourceBackModel", "labelWord", "[I", true)
  | 94 => ("SourceBackModel", "isLoop", "[Z", true)
  | 95 => ("SourceBackModel", "loopBegin", "[I", true)
  | 96 => ("SourceBackModel", "breakChain", "[I", true)
  | 97 => ("SourceBackModel", "nested", "I", false)
  | 98 => ("SourceBackModel", "bracketed", "I", false)
  | 99 => ("SourceBackModel", "given", "I", false)
  | 100 => ("SourceBackModel", "codeBytes", "I", false)
  | 101 => ("SourceBackModel", "lying", "I", false)
  | 102 => ("SourceBackModel", "mostLying", "I", false)
  | 103 => ("SourceBackModel", "keys", "LSourceBackModel$Longs;", true)
  | 104 => ("SourceBackModel", "keyEnds", "LSourceBackModel$Ints;", true)
  | 105 => ("SourceBackModel", "firstPlace", "I", false)
  | 106 => ("SourceBackModel", "draftMember", "LSourceBackModel$Member;", true)
  | 107 => ("SourceBackModel", "analysed", "LSourceBackModel$Member;", false)
  | 108 => ("SourceBackModel", "draft", "LSourceBackModel$Bytes;", true)
  | 109 => ("SourceBackModel", "assembled", "LSourceBackModel$Bytes;", true)
  | 110 => ("SourceBackModel", "phase", "[I", true)
  | 111 => ("SourceBackModel", "came", "[J", true)
  | 112 => ("SourceBackModel", "failure", "[I", true)
  | 113 => ("SourceBackModel", "failNumber", "[J", true)
  | 114 => ("SourceBackModel", "done", "[J", true)
  | 115 => ("SourceBackModel", "begun", "I", false)
  | 116 => ("SourceBackModel", "fieldValue", "[J", true)
  | 117 => ("SourceBackModel", "arrayCount", "[I", true)
  | 118 => ("SourceBackModel", "elementCount", "[I", true)
  | 119 => ("SourceBackModel", "arrayFrom", "[I", true)
  | 120 => ("SourceBackModel", "arraySize", "[I", true)
  | 121 => ("SourceBackModel", "elements", "[J", true)
  | 122 => ("SourceBackModel", "frames", "[I", true)
  | 123 => ("SourceBackModel", "frameFile", "[I", true)
  | 124 => ("SourceBackModel", "frameMember", "[I", true)
  | 125 => ("SourceBackModel", "frameCode", "[LSourceBackModel$Member;", true)
  | 126 => ("SourceBackModel", "frameAct", "[I", true)
  | 127 => ("SourceBackModel", "frameHigh", "[I", true)
  | 128 => ("SourceBackModel", "frameLocal", "[J", true)
  | 129 => ("SourceBackModel", "framePile", "[J", true)
  | 130 => ("SourceBackModel", "side", "I", false)
  | _ => ("SourceBackModel", "top", "I", false)
def t_MM : Nat → FieldType := fun k => match k with
  | 0 => .int
  | 1 => .object "SourceBackModel$Halt"
  | 2 => .object "SourceBackModel$Bytes"
  | 3 => .object "SourceBackModel$Bytes"
  | 4 => .object "SourceBackModel$Ints"
  | 5 => .object "SourceBackModel$Ints"
  | 6 => .int
  | 7 => .int
  | 8 => .int
  | 9 => .array (.object "SourceBackModel$Box")
  | 10 => .array (.object "SourceBackModel$Box")
  | 11 => .array (.int)
  | 12 => .array (.object "SourceBackModel$Box")
  | 13 => .int
  | 14 => .object "SourceBackModel$Box"
  | 15 => .object "SourceBackModel$Ints"
  | 16 => .int
  | 17 => .object "SourceBackModel$Member"
  | 18 => .array (.byte)
  | 19 => .array (.byte)
  | 20 => .array (.int)
  | 21 => .array (.byte)
  | 22 => .array (.byte)
  | 23 => .int
  | 24 => .int
  | 25 => .boolean
  | 26 => .int
  | 27 => .array (.boolean)
  | 28 => .array (.int)
  | 29 => .array (.int)
  | 30 => .array (.int)
  | 31 => .array (.int)
  | 32 => .array (.boolean)
  | 33 => .array (.boolean)
  | 34 => .boolean
  | 35 => .array (.int)
  | 36 => .object "SourceBackModel$Ints"
  | 37 => .object "SourceBackModel$Ints"
  | 38 => .object "SourceBackModel$Ints"
  | 39 => .object "SourceBackModel$Ints"
  | 40 => .object "SourceBackModel$Ints"
  | 41 => .array (.int)
  | 42 => .object "SourceBackModel$Ints"
  | 43 => .object "SourceBackModel$Ints"
  | 44 => .object "SourceBackModel$Ints"
  | 45 => .object "SourceBackModel$Ints"
  | 46 => .object "SourceBackModel$Longs"
  | 47 => .object "SourceBackModel$Ints"
  | 48 => .object "SourceBackModel$Ints"
  | 49 => .object "SourceBackModel$Ints"
  | 50 => .object "SourceBackModel$Ints"
  | 51 => .object "SourceBackModel$Ints"
  | 52 => .object "SourceBackModel$Ints"
  | 53 => .object "SourceBackModel$Longs"
  | 54 => .object "SourceBackModel$Ints"
  | 55 => .object "SourceBackModel$Ints"
  | 56 => .object "SourceBackModel$Ints"
  | 57 => .object "SourceBackModel$Ints"
  | 58 => .object "SourceBackModel$Ints"
  | 59 => .object "SourceBackModel$Ints"
  | 60 => .object "SourceBackModel$Ints"
  | 61 => .object "SourceBackModel$Longs"
  | 62 => .int
  | 63 => .int
  | 64 => .array (.int)
  | 65 => .int
  | 66 => .int
  | 67 => .int
  | 68 => .int
  | 69 => .int
  | 70 => .object "SourceBackModel$Ints"
  | 71 => .object "SourceBackModel$Bytes"
  | 72 => .object "SourceBackModel$Ints"
  | 73 => .array (.boolean)
  | 74 => .int
  | 75 => .boolean
  | 76 => .object "SourceBackModel$Ints"
  | 77 => .object "SourceBackModel$Ints"
  | 78 => .array (.object "java/lang/String")
  | 79 => .int
  | 80 => .array (.object "java/lang/String")
  | 81 => .object "SourceBackModel$Bytes"
  | 82 => .int
  | 83 => .int
  | 84 => .int
  | 85 => .int
  | 86 => .int
  | 87 => .object "SourceBackModel$Box"
  | 88 => .object "SourceBackModel$Member"
  | 89 => .int
  | 90 => .array (.int)
  | 91 => .array (.int)
  | 92 => .int
  | 93 => .array (.int)
  | 94 => .array (.boolean)
  | 95 => .array (.int)
  | 96 => .array (.int)
  | 97 => .int
  | 98 => .int
  | 99 => .int
  | 100 => .int
  | 101 => .int
  | 102 => .int
  | 103 => .object "SourceBackModel$Longs"
  | 104 => .object "SourceBackModel$Ints"
  | 105 => .int
  | 106 => .object "SourceBackModel$Member"
  | 107 => .object "SourceBackModel$Member"
  | 108 => .object "SourceBackModel$Bytes"
  | 109 => .object "SourceBackModel$Bytes"
  | 110 => .array (.int)
  | 111 => .array (.long)
  | 112 => .array (.int)
  | 113 => .array (.long)
  | 114 => .array (.long)
  | 115 => .int
  | 116 => .array (.long)
  | 117 => .array (.int)
  | 118 => .array (.int)
  | 119 => .array (.int)
  | 120 => .array (.int)
  | 121 => .array (.long)
  | 122 => .array (.int)
  | 123 => .array (.int)
  | 124 => .array (.int)
  | 125 => .array (.object "SourceBackModel$Member")
  | 126 => .array (.int)
  | 127 => .array (.int)
  | 128 => .array (.long)
  | 129 => .array (.long)
  | 130 => .int
  | _ => .int
set_option maxRecDepth 20000 in
theorem n_MM : ∀ a, a < 132 → ∀ b, b < 132 → a ≠ b → (F_MM a).2.1 ≠ (F_MM b).2.1 := by decide +kernel
set_option maxRecDepth 20000 in
theorem t_MM_ok : ∀ k, k < 132 → parseFieldDescriptor (F_MM k).2.2.1 = some (t_MM k) := by decide +kernel
def R_MH : String := "SourceBackModel$Halt"
def F_MH : u_T := fun k => match k with
  | 0 => ("java/lang/Throwable", "cause", "Ljava/lang/Throwable;", false)
  | 1 => ("java/lang/Throwable", "stackTrace", "[Ljava/lang/StackTraceElement;", false)
  | 2 => ("java/lang/Throwable", "suppressedExceptions", "Ljava/util/List;", false)
  | 3 => ("java/lang/Throwable", "detailMessage", "Ljava/lang/String;", false)
  | 4 => ("java/lang/Throwable", "backtrace", "Ljava/lang/Object;", false)
  | 5 => ("SourceBackModel$Halt", "number", "I", false)
  | 6 => ("SourceBackModel$Halt", "place", "I", false)
  | _ => ("java/lang/Throwable", "depth", "I", false)
def t_MH : Nat → FieldType := fun k => match k with
  | 0 => .object "java/lang/Throwable"
  | 1 => .array (.object "java/lang/StackTraceElement")
  | 2 => .object "java/util/List"
  | 3 => .object "java/lang/String"
  | 4 => .object "java/lang/Object"
  | 5 => .int
  | 6 => .int
  | _ => .int
set_option maxRecDepth 20000 in
theorem n_MH : ∀ a, a < 8 → ∀ b, b < 8 → a ≠ b → (F_MH a).2.1 ≠ (F_MH b).2.1 := by decide +kernel
set_option maxRecDepth 20000 in
theorem t_MH_ok : ∀ k, k < 8 → parseFieldDescriptor (F_MH k).2.2.1 = some (t_MH k) := by decide +kernel
def R_MB : String := "SourceBackModel$Bytes"
def F_MB : u_T := fun k => match k with
  | 0 => ("SourceBackModel$Bytes", "a", "[B", false)
  | _ => ("SourceBackModel$Bytes", "size", "I", false)
def t_MB : Nat → FieldType := fun k => match k with
  | 0 => .array (.byte)
  | _ => .int
set_option maxRecDepth 20000 in
theorem n_MB : ∀ a, a < 2 → ∀ b, b < 2 → a ≠ b → (F_MB a).2.1 ≠ (F_MB b).2.1 := by decide +kernel
set_option maxRecDepth 20000 in
theorem t_MB_ok : ∀ k, k < 2 → parseFieldDescriptor (F_MB k).2.2.1 = some (t_MB k) := by decide +kernel
def R_MI : String := "SourceBackModel$Ints"
def F_MI : u_T := fun k => match k with
  | 0 => ("SourceBackModel$Ints", "a", "[I", false)
  | _ => ("SourceBackModel$Ints", "size", "I", false)
def t_MI : Nat → FieldType := fun k => match k with
  | 0 => .array (.int)
  | _ => .int
set_option maxRecDepth 20000 in
theorem n_MI : ∀ a, a < 2 → ∀ b, b < 2 → a ≠ b → (F_MI a).2.1 ≠ (F_MI b).2.1 := by decide +kernel
set_option maxRecDepth 20000 in
theorem t_MI_ok : ∀ k, k < 2 → parseFieldDescriptor (F_MI k).2.2.1 = some (t_MI k) := by decide +kernel
def R_ML : String := "SourceBackModel$Longs"
def F_ML : u_T := fun k => match k with
  | 0 => ("SourceBackModel$Longs", "a", "[J", false)
  | _ => ("SourceBackModel$Longs", "size", "I", false)
def t_ML : Nat → FieldType := fun k => match k with
  | 0 => .array (.long)
  | _ => .int
set_option maxRecDepth 20000 in
theorem n_ML : ∀ a, a < 2 → ∀ b, b < 2 → a ≠ b → (F_ML a).2.1 ≠ (F_ML b).2.1 := by decide +kernel
set_option maxRecDepth 20000 in
theorem t_ML_ok : ∀ k, k < 2 → parseFieldDescriptor (F_ML k).2.2.1 = some (t_ML k) := by decide +kernel
def R_MR : String := "SourceBackModel$Member"
def F_MR : u_T := fun k => match k with
  | 0 => ("SourceBackModel$Member", "entry", "I", false)
  | 1 => ("SourceBackModel$Member", "name", "I", false)
  | 2 => ("SourceBackModel$Member", "sign", "I", false)
  | 3 => ("SourceBackModel$Member", "locals", "I", false)
  | 4 => ("SourceBackModel$Member", "pile", "I", false)
  | 5 => ("SourceBackModel$Member", "bytes", "I", false)
  | 6 => ("SourceBackModel$Member", "from", "I", false)
  | 7 => ("SourceBackModel$Member", "at", "LSourceBackModel$Ints;", true)
  | 8 => ("SourceBackModel$Member", "op", "LSourceBackModel$Ints;", true)
  | 9 => ("SourceBackModel$Member", "a", "LSourceBackModel$Ints;", true)
  | 10 => ("SourceBackModel$Member", "b", "LSourceBackModel$Ints;", true)
  | 11 => ("SourceBackModel$Member", "v", "LSourceBackModel$Longs;", true)
  | 12 => ("SourceBackModel$Member", "owner", "LSourceBackModel$Ints;", true)
  | 13 => ("SourceBackModel$Member", "of", "LSourceBackModel$Ints;", true)
  | 14 => ("SourceBackModel$Member", "sort", "LSourceBackModel$Ints;", true)
  | 15 => ("SourceBackModel$Member", "key", "LSourceBackModel$Longs;", true)
  | 16 => ("SourceBackModel$Member", "end", "LSourceBackModel$Ints;", true)
  | 17 => ("SourceBackModel$Member", "text", "LSourceBackModel$Bytes;", false)
  | 18 => ("SourceBackModel$Member", "remade", "I", false)
  | 19 => ("SourceBackModel$Member", "reached", "I", false)
  | 20 => ("SourceBackModel$Member", "blockCount", "I", false)
  | 21 => ("SourceBackModel$Member", "isKnotted", "Z", false)
  | 22 => ("SourceBackModel$Member", "made", "LSourceBackModel$Member;", false)
  | _ => ("SourceBackModel$Member", "isGood", "Z", false)
def t_MR : Nat → FieldType := fun k => match k with
  | 0 => .int
  | 1 => .int
  | 2 => .int
  | 3 => .int
  | 4 => .int
  | 5 => .int
  | 6 => .int
  | 7 => .object "SourceBackModel$Ints"
  | 8 => .object "SourceBackModel$Ints"
  | 9 => .object "SourceBackModel$Ints"
  | 10 => .object "SourceBackModel$Ints"
  | 11 => .object "SourceBackModel$Longs"
  | 12 => .object "SourceBackModel$Ints"
  | 13 => .object "SourceBackModel$Ints"
  | 14 => .object "SourceBackModel$Ints"
  | 15 => .object "SourceBackModel$Longs"
  | 16 => .object "SourceBackModel$Ints"
  | 17 => .object "SourceBackModel$Bytes"
  | 18 => .int
  | 19 => .int
  | 20 => .int
  | 21 => .boolean
  | 22 => .object "SourceBackModel$Member"
  | _ => .boolean
set_option maxRecDepth 20000 in
theorem n_MR : ∀ a, a < 24 → ∀ b, b < 24 → a ≠ b → (F_MR a).2.1 ≠ (F_MR b).2.1 := by decide +kernel
set_option maxRecDepth 20000 in
theorem t_MR_ok : ∀ k, k < 24 → parseFieldDescriptor (F_MR k).2.2.1 = some (t_MR k) := by decide +kernel
def R_MX : String := "SourceBackModel$Box"
def F_MX : u_T := fun k => match k with
  | 0 => ("SourceBackModel$Box", "bytes", "LSourceBackModel$Bytes;", true)
  | 1 => ("SourceBackModel$Box", "version", "I", false)
  | 2 => ("SourceBackModel$Box", "nameEntry", "I", false)
  | 3 => ("SourceBackModel$Box", "tag", "LSourceBackModel$Ints;", true)
  | 4 => ("SourceBackModel$Box", "word", "LSourceBackModel$Ints;", true)
  | 5 => ("SourceBackModel$Box", "owner", "LSourceBackModel$Ints;", true)
  | 6 => ("SourceBackModel$Box", "name", "LSourceBackModel$Ints;", true)
  | 7 => ("SourceBackModel$Box", "sort", "LSourceBackModel$Ints;", true)
  | 8 => ("SourceBackModel$Box", "number", "LSourceBackModel$Longs;", true)
  | 9 => ("SourceBackModel$Box", "fields", "LSourceBackModel$Ints;", true)
  | 10 => ("SourceBackModel$Box", "entryOf", "LSourceBackModel$Ints;", true)
  | 11 => ("SourceBackModel$Box", "members", "[LSourceBackModel$Member;", true)
  | 12 => ("SourceBackModel$Box", "memberCount", "I", false)
  | 13 => ("SourceBackModel$Box", "hasMade", "Z", false)
  | _ => ("SourceBackModel$Box", "made", "LSourceBackModel$Box;", false)
def t_MX : Nat → FieldType := fun k => match k with
  | 0 => .object "SourceBackModel$Bytes"
  | 1 => .int
  | 2 => .int
  | 3 => .object "SourceBackModel$Ints"
  | 4 => .object "SourceBackModel$Ints"
  | 5 => .object "SourceBackModel$Ints"
  | 6 => .object "SourceBackModel$Ints"
  | 7 => .object "SourceBackModel$Ints"
  | 8 => .object "SourceBackModel$Longs"
  | 9 => .object "SourceBackModel$Ints"
  | 10 => .object "SourceBackModel$Ints"
  | 11 => .array (.object "SourceBackModel$Member")
  | 12 => .int
  | 13 => .boolean
  | _ => .object "SourceBackModel$Box"
set_option maxRecDepth 20000 in
theorem n_MX : ∀ a, a < 15 → ∀ b, b < 15 → a ≠ b → (F_MX a).2.1 ≠ (F_MX b).2.1 := by decide +kernel
set_option maxRecDepth 20000 in
theorem t_MX_ok : ∀ k, k < 15 → parseFieldDescriptor (F_MX k).2.2.1 = some (t_MX k) := by decide +kernel
def R_SS : String := "SourceBack"
def F_SS : u_T := fun k => match k with
  | 0 => ("SourceBack", "tape", "[B", false)
  | 1 => ("SourceBack", "tapeLength", "I", false)
  | 2 => ("SourceBack", "forms", "[LSourceBack$Form;", true)
  | 3 => ("SourceBack", "fileCount", "I", false)
  | 4 => ("SourceBack", "past", "[LSourceBack$Form;", true)
  | 5 => ("SourceBack", "undoable", "[I", true)
  | 6 => ("SourceBack", "begun", "I", false)
  | 7 => ("SourceBack", "sides", "[LSourceBack$Side;", true)
  | 8 => ("SourceBack", "reader", "LSourceBack$Reader;", true)
  | 9 => ("SourceBack", "flow", "LSourceBack$Flow;", true)
  | 10 => ("SourceBack", "blocks", "LSourceBack$Blocks;", true)
  | 11 => ("SourceBack", "nodes", "LSourceBack$Nodes;", true)
  | 12 => ("SourceBack", "tree", "LSourceBack$Tree;", true)
  | 13 => ("SourceBack", "printer", "LSourceBack$Printer;", true)
  | 14 => ("SourceBack", "maker", "LSourceBack$Maker;", true)
  | 15 => ("SourceBack", "judge", "LSourceBack$Judge;", true)
  | 16 => ("SourceBack", "seenForm", "LSourceBack$Form;", false)
  | _ => ("SourceBack", "seenMember", "I", false)
def t_SS : Nat → FieldType := fun k => match k with
  | 0 => .array (.byte)
  | 1 => .int
  | 2 => .array (.object "SourceBack$Form")
  | 3 => .int
  | 4 => .array (.object "SourceBack$Form")
  | 5 => .array (.int)
  | 6 => .int
  | 7 => .array (.object "SourceBack$Side")
  | 8 => .object "SourceBack$Reader"
  | 9 => .object "SourceBack$Flow"
  | 10 => .object "SourceBack$Blocks"
  | 11 => .object "SourceBack$Nodes"
  | 12 => .object "SourceBack$Tree"
  | 13 => .object "SourceBack$Printer"
  | 14 => .object "SourceBack$Maker"
  | 15 => .object "SourceBack$Judge"
  | 16 => .object "SourceBack$Form"
  | _ => .int
set_option maxRecDepth 20000 in
theorem n_SS : ∀ a, a < 18 → ∀ b, b < 18 → a ≠ b → (F_SS a).2.1 ≠ (F_SS b).2.1 := by decide +kernel
set_option maxRecDepth 20000 in
theorem t_SS_ok : ∀ k, k < 18 → parseFieldDescriptor (F_SS k).2.2.1 = some (t_SS k) := by decide +kernel
def R_SR : String := "SourceBack$Reader"
def F_SR : u_T := fun k => match k with
  | 0 => ("SourceBack$Reader", "form", "LSourceBack$Form;", false)
  | 1 => ("SourceBack$Reader", "at", "I", false)
  | _ => ("SourceBack$Reader", "fault", "I", false)
def t_SR : Nat → FieldType := fun k => match k with
  | 0 => .object "SourceBack$Form"
  | 1 => .int
  | _ => .int
set_option maxRecDepth 20000 in
theorem n_SR : ∀ a, a < 3 → ∀ b, b < 3 → a ≠ b → (F_SR a).2.1 ≠ (F_SR b).2.1 := by decide +kernel
set_option maxRecDepth 20000 in
theorem t_SR_ok : ∀ k, k < 3 → parseFieldDescriptor (F_SR k).2.2.1 = some (t_SR k) := by decide +kernel
def R_SF : String := "SourceBack$Flow"
def F_SF : u_T := fun k => match k with
  | 0 => ("SourceBack$Flow", "form", "LSourceBack$Form;", false)
  | 1 => ("SourceBack$Flow", "code", "[B", false)
  | 2 => ("SourceBack$Flow", "base", "I", false)
  | 3 => ("SourceBack$Flow", "length", "I", false)
  | 4 => ("SourceBack$Flow", "locals", "I", false)
  | 5 => ("SourceBack$Flow", "most", "I", false)
  | 6 => ("SourceBack$Flow", "sign", "I", false)
  | 7 => ("SourceBack$Flow", "acts", "I", false)
  | 8 => ("SourceBack$Flow", "at", "[I", false)
  | 9 => ("SourceBack$Flow", "index", "[I", false)
  | 10 => ("SourceBack$Flow", "deep", "[I", false)
  | 11 => ("SourceBack$Flow", "low", "[J", false)
  | 12 => ("SourceBack$Flow", "high", "[J", false)
  | 13 => ("SourceBack$Flow", "pile", "[J", false)
  | 14 => ("SourceBack$Flow", "nowLow", "J", false)
  | 15 => ("SourceBack$Flow", "nowHigh", "J", false)
  | 16 => ("SourceBack$Flow", "nowPile", "J", false)
  | 17 => ("SourceBack$Flow", "nowDeep", "I", false)
  | _ => ("SourceBack$Flow", "changed", "Z", false)
def t_SF : Nat → FieldType := fun k => match k with
  | 0 => .object "SourceBack$Form"
  | 1 => .array (.byte)
  | 2 => .int
  | 3 => .int
  | 4 => .int
  | 5 => .int
  | 6 => .int
  | 7 => .int
  | 8 => .array (.int)
  | 9 => .array (.int)
  | 10 => .array (.int)
  | 11 => .array (.long)
  | 12 => .array (.long)
  | 13 => .array (.long)
  | 14 => .long
  | 15 => .long
  | 16 => .long
  | 17 => .int
  | _ => .boolean
set_option maxRecDepth 20000 in
theorem n_SF : ∀ a, a < 19 → ∀ b, b < 19 → a ≠ b → (F_SF a).2.1 ≠ (F_SF b).2.1 := by decide +kernel
set_option maxRecDepth 20000 in
theorem t_SF_ok : ∀ k, k < 19 → parseFieldDescriptor (F_SF k).2.2.1 = some (t_SF k) := by decide +kernel
def R_SK : String := "SourceBack$Blocks"
def F_SK : u_T := fun k => match k with
  | 0 => ("SourceBack$Blocks", "count", "I", false)
  | 1 => ("SourceBack$Blocks", "knotted", "Z", false)
  | 2 => ("SourceBack$Blocks", "flow", "LSourceBack$Flow;", false)
  | 3 => ("SourceBack$Blocks", "begins", "[I", false)
  | 4 => ("SourceBack$Blocks", "holder", "[I", false)
  | 5 => ("SourceBack$Blocks", "first", "[I", false)
  | 6 => ("SourceBack$Blocks", "last", "[I", false)
  | 7 => ("SourceBack$Blocks", "from", "[I", false)
  | 8 => ("SourceBack$Blocks", "numberOf", "[I", false)
  | 9 => ("SourceBack$Blocks", "nextWay", "[I", false)
  | 10 => ("SourceBack$Blocks", "ends", "[I", false)
  | 11 => ("SourceBack$Blocks", "endCount", "I", false)
  | 12 => ("SourceBack$Blocks", "standing", "[I", false)
  | 13 => ("SourceBack$Blocks", "parents", "[I", false)
  | 14 => ("SourceBack$Blocks", "marks", "[I", false)
  | _ => ("SourceBack$Blocks", "stack", "[I", false)
def t_SK : Nat → FieldType := fun k => match k with
  | 0 => .int
  | 1 => .boolean
  | 2 => .object "SourceBack$Flow"
  | 3 => .array (.int)
  | 4 => .array (.int)
  | 5 => .array (.int)
  | 6 => .array (.int)
  | 7 => .array (.int)
  | 8 => .array (.int)
  | 9 => .array (.int)
  | 10 => .array (.int)
  | 11 => .int
  | 12 => .array (.int)
  | 13 => .array (.int)
  | 14 => .array (.int)
  | _ => .array (.int)
set_option maxRecDepth 20000 in
theorem n_SK : ∀ a, a < 16 → ∀ b, b < 16 → a ≠ b → (F_SK a).2.1 ≠ (F_SK b).2.1 := by decide +kernel
set_option maxRecDepth 20000 in
theorem t_SK_ok : ∀ k, k < 16 → parseFieldDescriptor (F_SK k).2.2.1 = some (t_SK k) := by decide +kernel
def R_SN : String := "SourceBack$Nodes"
def F_SN : u_T := fun k => match k with
  | 0 => ("SourceBack$Nodes", "row", "[I", false)
  | _ => ("SourceBack$Nodes", "nodes", "I", false)
def t_SN : Nat → FieldType := fun k => match k with
  | 0 => .array (.int)
  | _ => .int
set_option maxRecDepth 20000 in
theorem n_SN : ∀ a, a < 2 → ∀ b, b < 2 → a ≠ b → (F_SN a).2.1 ≠ (F_SN b).2.1 := by decide +kernel
set_option maxRecDepth 20000 in
theorem t_SN_ok : ∀ k, k < 2 → parseFieldDescriptor (F_SN k).2.2.1 = some (t_SN k) := by decide +kernel
def R_ST : String := "SourceBack$Tree"
def F_ST : u_T := fun k => match k with
  | 0 => ("SourceBack$Tree", "nodes", "LSourceBack$Nodes;", true)
  | 1 => ("SourceBack$Tree", "flow", "LSourceBack$Flow;", false)
  | 2 => ("SourceBack$Tree", "blocks", "LSourceBack$Blocks;", false)
  | 3 => ("SourceBack$Tree", "numbers", "J", false)
  | 4 => ("SourceBack$Tree", "arrays", "J", false)
  | 5 => ("SourceBack$Tree", "numberTemporaries", "I", false)
  | 6 => ("SourceBack$Tree", "arrayTemporaries", "I", false)
  | 7 => ("SourceBack$Tree", "numberPlace", "Z", false)
  | 8 => ("SourceBack$Tree", "arrayPlace", "Z", false)
  | 9 => ("SourceBack$Tree", "pile", "[I", true)
  | 10 => ("SourceBack$Tree", "deep", "I", false)
  | 11 => ("SourceBack$Tree", "list", "I", false)
  | 12 => ("SourceBack$Tree", "blockNode", "[I", false)
  | 13 => ("SourceBack$Tree", "loopNode", "[I", false)
  | 14 => ("SourceBack$Tree", "work", "[I", false)
  | 15 => ("SourceBack$Tree", "waiting", "I", false)
  | 16 => ("SourceBack$Tree", "dispatcher", "I", false)
  | _ => ("SourceBack$Tree", "tooDeep", "Z", false)
def t_ST : Nat → FieldType := fun k => match k with
  | 0 => .object "SourceBack$Nodes"
  | 1 => .object "SourceBack$Flow"
  | 2 => .object "SourceBack$Blocks"
  | 3 => .long
  | 4 => .long
  | 5 => .int
  | 6 => .int
  | 7 => .boolean
  | 8 => .boolean
  | 9 => .array (.int)
  | 10 => .int
  | 11 => .int
  | 12 => .array (.int)
  | 13 => .array (.int)
  | 14 => .array (.int)
  | 15 => .int
  | 16 => .int
  | _ => .boolean
set_option maxRecDepth 20000 in
theorem n_ST : ∀ a, a < 18 → ∀ b, b < 18 → a ≠ b → (F_ST a).2.1 ≠ (F_ST b).2.1 := by decide +kernel
set_option maxRecDepth 20000 in
theorem t_ST_ok : ∀ k, k < 18 → parseFieldDescriptor (F_ST k).2.2.1 = some (t_ST k) := by decide +kernel
def R_SP : String := "SourceBack$Printer"
def F_SP : u_T := fun k => match k with
  | 0 => ("SourceBack$Printer", "out", "[B", false)
  | 1 => ("SourceBack$Printer", "length", "I", false)
  | 2 => ("SourceBack$Printer", "nodes", "LSourceBack$Nodes;", true)
  | 3 => ("SourceBack$Printer", "form", "LSourceBack$Form;", false)
  | 4 => ("SourceBack$Printer", "flow", "LSourceBack$Flow;", false)
  | 5 => ("SourceBack$Printer", "stack", "[I", false)
  | _ => ("SourceBack$Printer", "top", "I", false)
def t_SP : Nat → FieldType := fun k => match k with
  | 0 => .array (.byte)
  | 1 => .int
  | 2 => .object "SourceBack$Nodes"
  | 3 => .object "SourceBack$Form"
  | 4 => .object "SourceBack$Flow"
  | 5 => .array (.int)
  | _ => .int
set_option maxRecDepth 20000 in
theorem n_SP : ∀ a, a < 7 → ∀ b, b < 7 → a ≠ b → (F_SP a).2.1 ≠ (F_SP b).2.1 := by decide +kernel
set_option maxRecDepth 20000 in
theorem t_SP_ok : ∀ k, k < 7 → parseFieldDescriptor (F_SP k).2.2.1 = some (t_SP k) := by decide +kernel
def R_SM : String := "SourceBack$Maker"
def F_SM : u_T := fun k => match k with
  | 0 => ("SourceBack$Maker", "rows", "[I", false)
  | 1 => ("SourceBack$Maker", "rowCount", "I", false)
  | 2 => ("SourceBack$Maker", "offsets", "[I", false)
  | 3 => ("SourceBack$Maker", "labels", "[I", false)
  | 4 => ("SourceBack$Maker", "labelCount", "I", false)
  | 5 => ("SourceBack$Maker", "keys", "[I", false)
  | 6 => ("SourceBack$Maker", "keyCount", "I", false)
  | 7 => ("SourceBack$Maker", "switches", "I", false)
  | 8 => ("SourceBack$Maker", "numbers", "[J", false)
  | 9 => ("SourceBack$Maker", "numberCount", "I", false)
  | 10 => ("SourceBack$Maker", "code", "[B", false)
  | 11 => ("SourceBack$Maker", "codeLength", "I", false)
  | 12 => ("SourceBack$Maker", "locals", "I", false)
  | 13 => ("SourceBack$Maker", "pile", "I", false)
  | 14 => ("SourceBack$Maker", "pool", "[B", false)
  | 15 => ("SourceBack$Maker", "poolLength", "I", false)
  | 16 => ("SourceBack$Maker", "entryAt", "[I", false)
  | 17 => ("SourceBack$Maker", "entryCount", "I", false)
  | 18 => ("SourceBack$Maker", "bodies", "[B", false)
  | _ => ("SourceBack$Maker", "bodyLength", "I", false)
def t_SM : Nat → FieldType := fun k => match k with
  | 0 => .array (.int)
  | 1 => .int
  | 2 => .array (.int)
  | 3 => .array (.int)
  | 4 => .int
  | 5 => .array (.int)
  | 6 => .int
  | 7 => .int
  | 8 => .array (.long)
  | 9 => .int
  | 10 => .array (.byte)
  | 11 => .int
  | 12 => .int
  | 13 => .int
  | 14 => .array (.byte)
  | 15 => .int
  | 16 => .array (.int)
  | 17 => .int
  | 18 => .array (.byte)
  | _ => .int
set_option maxRecDepth 20000 in
theorem n_SM : ∀ a, a < 20 → ∀ b, b < 20 → a ≠ b → (F_SM a).2.1 ≠ (F_SM b).2.1 := by decide +kernel
set_option maxRecDepth 20000 in
theorem t_SM_ok : ∀ k, k < 20 → parseFieldDescriptor (F_SM k).2.2.1 = some (t_SM k) := by decide +kernel
def R_SJ : String := "SourceBack$Judge"
def F_SJ : u_T := fun k => match k with
  | 0 => ("SourceBack$Judge", "tokens", "LSourceBack$Tokens;", true)
  | 1 => ("SourceBack$Judge", "maker", "LSourceBack$Maker;", true)
  | 2 => ("SourceBack$Judge", "form", "LSourceBack$Form;", false)
  | 3 => ("SourceBack$Judge", "fault", "I", false)
  | 4 => ("SourceBack$Judge", "state", "I", false)
  | 5 => ("SourceBack$Judge", "purpose", "I", false)
  | 6 => ("SourceBack$Judge", "subject", "I", false)
  | 7 => ("SourceBack$Judge", "termKind", "I", false)
  | 8 => ("SourceBack$Judge", "termAt", "I", false)
  | 9 => ("SourceBack$Judge", "termIs", "I", false)
  | 10 => ("SourceBack$Judge", "stack", "[I", true)
  | 11 => ("SourceBack$Judge", "top", "I", false)
  | 12 => ("SourceBack$Judge", "nested", "I", false)
  | 13 => ("SourceBack$Judge", "frames", "[I", true)
  | 14 => ("SourceBack$Judge", "open", "I", false)
  | 15 => ("SourceBack$Judge", "told", "[I", true)
  | 16 => ("SourceBack$Judge", "variables", "I", false)
  | 17 => ("SourceBack$Judge", "parameters", "I", false)
  | 18 => ("SourceBack$Judge", "result", "I", false)
  | 19 => ("SourceBack$Judge", "firstAt", "I", false)
  | _ => ("SourceBack$Judge", "nameAt", "I", false)
def t_SJ : Nat → FieldType := fun k => match k with
  | 0 => .object "SourceBack$Tokens"
  | 1 => .object "SourceBack$Maker"
  | 2 => .object "SourceBack$Form"
  | 3 => .int
  | 4 => .int
  | 5 => .int
  | 6 => .int
  | 7 => .int
  | 8 => .int
  | 9 => .int
  | 10 => .array (.int)
  | 11 => .int
  | 12 => .int
  | 13 => .array (.int)
  | 14 => .int
  | 15 => .array (.int)
  | 16 => .int
  | 17 => .int
  | 18 => .int
  | 19 => .int
  | _ => .int
set_option maxRecDepth 20000 in
theorem n_SJ : ∀ a, a < 21 → ∀ b, b < 21 → a ≠ b → (F_SJ a).2.1 ≠ (F_SJ b).2.1 := by decide +kernel
set_option maxRecDepth 20000 in
theorem t_SJ_ok : ∀ k, k < 21 → parseFieldDescriptor (F_SJ k).2.2.1 = some (t_SJ k) := by decide +kernel
def R_SO : String := "SourceBack$Tokens"
def F_SO : u_T := fun k => match k with
  | 0 => ("SourceBack$Tokens", "text", "[B", false)
  | 1 => ("SourceBack$Tokens", "type", "I", false)
  | 2 => ("SourceBack$Tokens", "start", "I", false)
  | _ => ("SourceBack$Tokens", "stop", "I", false)
def t_SO : Nat → FieldType := fun k => match k with
  | 0 => .array (.byte)
  | 1 => .int
  | 2 => .int
  | _ => .int
set_option maxRecDepth 20000 in
theorem n_SO : ∀ a, a < 4 → ∀ b, b < 4 → a ≠ b → (F_SO a).2.1 ≠ (F_SO b).2.1 := by decide +kernel
set_option maxRecDepth 20000 in
theorem t_SO_ok : ∀ k, k < 4 → parseFieldDescriptor (F_SO k).2.2.1 = some (t_SO k) := by decide +kernel
def R_SD : String := "SourceBack$Side"
def F_SD : u_T := fun k => match k with
  | 0 => ("SourceBack$Side", "forms", "[LSourceBack$Form;", true)
  | 1 => ("SourceBack$Side", "files", "I", false)
  | 2 => ("SourceBack$Side", "fields", "[[J", true)
  | 3 => ("SourceBack$Side", "arrays", "I", false)
  | 4 => ("SourceBack$Side", "arrayAt", "[I", false)
  | 5 => ("SourceBack$Side", "cells", "[J", false)
  | 6 => ("SourceBack$Side", "frames", "[I", true)
  | 7 => ("SourceBack$Side", "open", "I", false)
  | 8 => ("SourceBack$Side", "values", "[J", false)
  | 9 => ("SourceBack$Side", "status", "I", false)
  | 10 => ("SourceBack$Side", "failure", "I", false)
  | 11 => ("SourceBack$Side", "failNumber", "J", false)
  | 12 => ("SourceBack$Side", "result", "J", false)
  | _ => ("SourceBack$Side", "steps", "I", false)
def t_SD : Nat → FieldType := fun k => match k with
  | 0 => .array (.object "SourceBack$Form")
  | 1 => .int
  | 2 => .array (.array (.long))
  | 3 => .int
  | 4 => .array (.int)
  | 5 => .array (.long)
  | 6 => .array (.int)
  | 7 => .int
  | 8 => .array (.long)
  | 9 => .int
  | 10 => .int
  | 11 => .long
  | 12 => .long
  | _ => .int
set_option maxRecDepth 20000 in
theorem n_SD : ∀ a, a < 14 → ∀ b, b < 14 → a ≠ b → (F_SD a).2.1 ≠ (F_SD b).2.1 := by decide +kernel
set_option maxRecDepth 20000 in
theorem t_SD_ok : ∀ k, k < 14 → parseFieldDescriptor (F_SD k).2.2.1 = some (t_SD k) := by decide +kernel
def R_SQ : String := "SourceBack$Form"
def F_SQ : u_T := fun k => match k with
  | 0 => ("SourceBack$Form", "bytes", "[B", true)
  | 1 => ("SourceBack$Form", "entryCount", "I", false)
  | 2 => ("SourceBack$Form", "entryAt", "[I", false)
  | 3 => ("SourceBack$Form", "nameAt", "I", false)
  | 4 => ("SourceBack$Form", "fieldEntry", "[I", false)
  | 5 => ("SourceBack$Form", "memberAt", "[I", false)
  | 6 => ("SourceBack$Form", "texts", "[[B", false)
  | 7 => ("SourceBack$Form", "textKnown", "[B", false)
  | 8 => ("SourceBack$Form", "againKnown", "[B", false)
  | 9 => ("SourceBack$Form", "again", "[I", false)
  | 10 => ("SourceBack$Form", "madeKnown", "Z", false)
  | _ => ("SourceBack$Form", "made", "LSourceBack$Form;", false)
def t_SQ : Nat → FieldType := fun k => match k with
  | 0 => .array (.byte)
  | 1 => .int
  | 2 => .array (.int)
  | 3 => .int
  | 4 => .array (.int)
  | 5 => .array (.int)
  | 6 => .array (.array (.byte))
  | 7 => .array (.byte)
  | 8 => .array (.byte)
  | 9 => .array (.int)
  | 10 => .boolean
  | _ => .object "SourceBack$Form"
set_option maxRecDepth 20000 in
theorem n_SQ : ∀ a, a < 12 → ∀ b, b < 12 → a ≠ b → (F_SQ a).2.1 ≠ (F_SQ b).2.1 := by decide +kernel
set_option maxRecDepth 20000 in
theorem t_SQ_ok : ∀ k, k < 12 → parseFieldDescriptor (F_SQ k).2.2.1 = some (t_SQ k) := by decide +kernel
abbrev classes : List vw_C := [(R_MM, F_MM, 132), (R_MH, F_MH, 8), (R_MB, F_MB, 2), (R_MI, F_MI, 2), (R_ML, F_ML, 2), (R_MR, F_MR, 24), (R_MX, F_MX, 15), (R_SS, F_SS, 18), (R_SR, F_SR, 3), (R_SF, F_SF, 19), (R_SK, F_SK, 16), (R_SN, F_SN, 2), (R_ST, F_ST, 18), (R_SP, F_SP, 7), (R_SM, F_SM, 20), (R_SJ, F_SJ, 21), (R_SO, F_SO, 4), (R_SD, F_SD, 14), (R_SQ, F_SQ, 12)]
abbrev ax_tys (ca : Nat → ClassId) : List (ClassId × FieldType) := [(ca 0, .byte), (ca 1, .int), (ca 2, .long), (ca 3, .boolean), (ca 4, .object "SourceBackModel$Box"), (ca 5, .object "SourceBack$Side"), (ca 6, .object "SourceBack$Form"), (ca 7, .object "java/lang/String")]
abbrev b_MM_init : ByteArray := prog_14_method_1_code
def y_MM_init : MethodName := ⟨R_MM, "<init>", "()V"⟩
abbrev b_MM_thrown : ByteArray := prog_14_method_2_code
def y_MM_thrown : MethodName := ⟨R_MM, "thrown", "()I"⟩
abbrev b_MM_in : ByteArray := prog_14_method_3_code
def y_MM_in : MethodName := ⟨R_MM, "in", "(JJJ)Z"⟩
abbrev b_MM_feed : ByteArray := prog_14_method_4_code
def y_MM_feed : MethodName := ⟨R_MM, "feed", "(JI)I"⟩
abbrev b_MM_must : ByteArray := prog_14_method_12_code
def y_MM_must : MethodName := ⟨R_MM, "must", "(ZII)V"⟩
abbrev b_MM_reads : ByteArray := prog_14_method_13_code
def y_MM_reads : MethodName := ⟨R_MM, "reads", "(I)J"⟩
abbrev b_MM_newBox : ByteArray := prog_14_method_16_code
def y_MM_newBox : MethodName := ⟨R_MM, "newBox", "()LSourceBackModel$Box;"⟩
abbrev b_MM_gives : ByteArray := prog_14_method_17_code
def y_MM_gives : MethodName := ⟨R_MM, "gives", "(LSourceBackModel$Box;)V"⟩
abbrev b_MM_take : ByteArray := prog_14_method_18_code
def y_MM_take : MethodName := ⟨R_MM, "take", "()I"⟩
abbrev b_MM_readsFile : ByteArray := prog_14_method_19_code
def y_MM_readsFile : MethodName := ⟨R_MM, "readsFile", "()V"⟩
abbrev b_MM_act_1 : ByteArray := prog_14_method_60_code
def y_MM_act_1 : MethodName := ⟨R_MM, "act", "(LSourceBackModel$Member;I)V"⟩
abbrev b_MM_member_0 : ByteArray := prog_14_method_156_code
def y_MM_member_0 : MethodName := ⟨R_MM, "member", "(II)I"⟩
abbrev b_MM_judge : ByteArray := prog_14_method_182_code
def y_MM_judge : MethodName := ⟨R_MM, "judge", "(I)I"⟩
abbrev b_MM_edit : ByteArray := prog_14_method_202_code
def y_MM_edit : MethodName := ⟨R_MM, "edit", "(II)I"⟩
abbrev b_MM_undo : ByteArray := prog_14_method_204_code
def y_MM_undo : MethodName := ⟨R_MM, "undo", "(I)Z"⟩
abbrev b_MM_isMember : ByteArray := prog_14_method_205_code
def y_MM_isMember : MethodName := ⟨R_MM, "isMember", "(II)Z"⟩
abbrev b_MM_pair : ByteArray := prog_14_method_206_code
def y_MM_pair : MethodName := ⟨R_MM, "pair", "(III)I"⟩
abbrev b_MM_alike : ByteArray := prog_14_method_207_code
def y_MM_alike : MethodName := ⟨R_MM, "alike", "(III)I"⟩
abbrev b_MM_settles : ByteArray := prog_14_method_208_code
def y_MM_settles : MethodName := ⟨R_MM, "settles", "()V"⟩
abbrev b_MM_settle : ByteArray := prog_14_method_209_code
def y_MM_settle : MethodName := ⟨R_MM, "settle", "()V"⟩
abbrev b_MM_call : ByteArray := prog_14_method_214_code
def y_MM_call : MethodName := ⟨R_MM, "call", "(IIIJJ)Z"⟩
abbrev b_MM_steps : ByteArray := prog_14_method_215_code
def y_MM_steps : MethodName := ⟨R_MM, "steps", "(II)I"⟩
abbrev b_MM_file : ByteArray := prog_14_method_227_code
def y_MM_file : MethodName := ⟨R_MM, "file", "(II)I"⟩
abbrev b_MM_byteAt : ByteArray := prog_14_method_228_code
def y_MM_byteAt : MethodName := ⟨R_MM, "byteAt", "(III)I"⟩
abbrev b_MM_entry : ByteArray := prog_14_method_229_code
def y_MM_entry : MethodName := ⟨R_MM, "entry", "(III)J"⟩
abbrev b_MM_member_1 : ByteArray := prog_14_method_230_code
def y_MM_member_1 : MethodName := ⟨R_MM, "member", "(III)I"⟩
abbrev b_MM_act_0 : ByteArray := prog_14_method_231_code
def y_MM_act_0 : MethodName := ⟨R_MM, "act", "(IIII)I"⟩
abbrev b_MM_kind : ByteArray := prog_14_method_232_code
def y_MM_kind : MethodName := ⟨R_MM, "kind", "(IIII)I"⟩
abbrev b_MM_block : ByteArray := prog_14_method_233_code
def y_MM_block : MethodName := ⟨R_MM, "block", "(IIII)I"⟩
abbrev b_MM_text : ByteArray := prog_14_method_234_code
def y_MM_text : MethodName := ⟨R_MM, "text", "(III)I"⟩
abbrev b_MM_state : ByteArray := prog_14_method_235_code
def y_MM_state : MethodName := ⟨R_MM, "state", "(II)J"⟩
abbrev b_MM_field : ByteArray := prog_14_method_236_code
def y_MM_field : MethodName := ⟨R_MM, "field", "(III)J"⟩
abbrev b_MM_element : ByteArray := prog_14_method_237_code
def y_MM_element : MethodName := ⟨R_MM, "element", "(III)J"⟩
abbrev b_MM_count : ByteArray := prog_14_method_238_code
def y_MM_count : MethodName := ⟨R_MM, "count", "(I)I"⟩
abbrev b_MX_init : ByteArray := prog_15_method_1_code
def y_MX_init : MethodName := ⟨R_MX, "<init>", "()V"⟩
abbrev b_MX_clear : ByteArray := prog_15_method_2_code
def y_MX_clear : MethodName := ⟨R_MX, "clear", "()V"⟩
abbrev b_MX_add : ByteArray := prog_15_method_3_code
def y_MX_add : MethodName := ⟨R_MX, "add", "(I)I"⟩
abbrev b_MB_init : ByteArray := prog_16_method_1_code
def y_MB_init : MethodName := ⟨R_MB, "<init>", "()V"⟩
abbrev b_MB_add : ByteArray := prog_16_method_4_code
def y_MB_add : MethodName := ⟨R_MB, "add", "(I)V"⟩
abbrev b_MB_addLong : ByteArray := prog_16_method_6_code
def y_MB_addLong : MethodName := ⟨R_MB, "addLong", "(JI)V"⟩
abbrev b_MH_init : ByteArray := prog_17_method_1_code
def y_MH_init : MethodName := ⟨R_MH, "<init>", "()V"⟩
abbrev b_MH_of : ByteArray := prog_17_method_2_code
def y_MH_of : MethodName := ⟨R_MH, "of", "(II)LSourceBackModel$Halt;"⟩
abbrev b_MI_init : ByteArray := prog_18_method_1_code
def y_MI_init : MethodName := ⟨R_MI, "<init>", "(I)V"⟩
abbrev b_MI_add : ByteArray := prog_18_method_5_code
def y_MI_add : MethodName := ⟨R_MI, "add", "(I)V"⟩
abbrev b_ML_init : ByteArray := prog_19_method_1_code
def y_ML_init : MethodName := ⟨R_ML, "<init>", "(I)V"⟩
abbrev b_ML_add : ByteArray := prog_19_method_4_code
def y_ML_add : MethodName := ⟨R_ML, "add", "(J)V"⟩
abbrev b_MR_init : ByteArray := prog_20_method_1_code
def y_MR_init : MethodName := ⟨R_MR, "<init>", "(II)V"⟩
def wm_l : List Cond := [.initialized R_MM,
  .initialized R_MH,
  .initialized R_MB,
  .initialized R_MI,
  .initialized R_MR,
  .initialized R_ML,
  .initialized "java/lang/String",
  .initialized R_MX,
  .instanceMethod objectInit,
  .code objectInit ⟨#[0xb1]⟩ 1 none,
  .arrayClass FieldType.byte,
  .arrayClass FieldType.int,
  .arrayClass FieldType.long,
  .instantiable "java/lang/String" 4,
  .instantiable R_MM 132,
  .instanceMethod y_MM_init,
  .code y_MM_init b_MM_init 1 none,
  .methodLink R_MM 1 objectInit,
  .classLink R_MM 7 R_MH,
  .instantiable R_MH 8,
  .instanceMethod y_MH_init,
  .code y_MH_init b_MH_init 1 none,
  .methodLink R_MH 1 ⟨"java/lang/RuntimeException", "<init>", "()V"⟩,
  .fieldLink R_MH 7 "SourceBackModel$Halt" "number" "I",
  .fieldLink R_MH 13 "SourceBackModel$Halt" "place" "I",
  .classLink R_MM 16 R_MB,
  .instantiable R_MB 2,
  .instanceMethod y_MB_init,
  .code y_MB_init b_MB_init 1 none,
  .methodLink R_MB 1 objectInit,
  .fieldLink R_MB 7 "SourceBackModel$Bytes" "a" "[B",
  .fieldLink R_MB 13 "SourceBackModel$Bytes" "size" "I",
  .classLink R_MM 26 R_MI,
  .instantiable R_MI 2,
  .methodLink R_MM 28 y_MI_init,
  .instanceMethod y_MI_init,
  .code y_MI_init b_MI_init 2 none,
  .methodLink R_MI 1 objectInit,
  .fieldLink R_MI 7 "SourceBackModel$Ints" "a" "[I",
  .fieldLink R_MI 13 "SourceBackModel$Ints" "size" "I",
  .classLink R_MM 38 R_MX,
  .classLink R_MM 57 R_MR,
  .instantiable R_MR 24,
  .methodLink R_MM 59 y_MR_init,
  .instanceMethod y_MR_init,
  .code y_MR_init b_MR_init 3 none,
  .methodLink R_MR 3 objectInit,
  .classLink R_MR 9 R_MI,
  .methodLink R_MR 11 y_MI_init,
  .classLink R_MR 29 R_ML,
  .instantiable R_ML 2,
  .methodLink R_MR 31 y_ML_init,
  .instanceMethod y_ML_init,
  .code y_ML_init b_ML_init 2 none,
  .methodLink R_ML 1 objectInit,
  .fieldLink R_ML 7 "SourceBackModel$Longs" "a" "[J",
  .fieldLink R_ML 13 "SourceBackModel$Longs" "size" "I",
  .fieldLink R_MR 14 "SourceBackModel$Member" "at" "LSourceBackModel$Ints;",
  .fieldLink R_MR 20 "SourceBackModel$Member" "op" "LSourceBackModel$Ints;",
  .fieldLink R_MR 23 "SourceBackModel$Member" "a" "LSourceBackModel$Ints;",
  .fieldLink R_MR 26 "SourceBackModel$Member" "b" "LSourceBackModel$Ints;",
  .fieldLink R_MR 32 "SourceBackModel$Member" "v" "LSourceBackModel$Longs;",
  .fieldLink R_MR 36 "SourceBackModel$Member" "owner" "LSourceBackModel$Ints;",
  .fieldLink R_MR 39 "SourceBackModel$Member" "of" "LSourceBackModel$Ints;",
  .fieldLink R_MR 42 "SourceBackModel$Member" "sort" "LSourceBackModel$Ints;",
  .fieldLink R_MR 45 "SourceBackModel$Member" "key" "LSourceBackModel$Longs;",
  .fieldLink R_MR 48 "SourceBackModel$Member" "end" "LSourceBackModel$Ints;",
  .constant R_MM 66 (240000 : Int32),
  .constant R_MM 71 (244000 : Int32),
  .classLink R_MM 139 R_ML,
  .methodLink R_MM 141 y_ML_init,
  .classLink R_MM 209 "java/lang/String",
  .constant R_MM 314 (80000 : Int32),
  .fieldLink R_MM 343 "SourceBackModel" "thrown" "I",
  .fieldLink R_MM 10 "SourceBackModel" "halt" "LSourceBackModel$Halt;",
  .fieldLink R_MM 19 "SourceBackModel" "tape" "LSourceBackModel$Bytes;",
  .fieldLink R_MM 23 "SourceBackModel" "letters" "LSourceBackModel$Bytes;",
  .fieldLink R_MM 31 "SourceBackModel" "wordFrom" "LSourceBackModel$Ints;",
  .fieldLink R_MM 35 "SourceBackModel" "wordSize" "LSourceBackModel$Ints;",
  .fieldLink R_MM 390 "SourceBackModel" "size" "I",
  .fieldLink R_MM 387 "SourceBackModel" "at" "I",
  .fieldLink R_MM 410 "SourceBackModel" "count" "I",
  .fieldLink R_MM 40 "SourceBackModel" "files" "[LSourceBackModel$Box;",
  .fieldLink R_MM 44 "SourceBackModel" "older" "[LSourceBackModel$Box;",
  .fieldLink R_MM 47 "SourceBackModel" "edits" "[I",
  .fieldLink R_MM 51 "SourceBackModel" "spares" "[LSourceBackModel$Box;",
  .fieldLink R_MM 403 "SourceBackModel" "spareCount" "I",
  .fieldLink R_MM 417 "SourceBackModel" "box" "LSourceBackModel$Box;",
  .fieldLink R_MM 54 "SourceBackModel" "places" "LSourceBackModel$Ints;",
  .fieldLink R_MM 498 "SourceBackModel" "nameAt" "I",
  .fieldLink R_MM 62 "SourceBackModel" "reading" "LSourceBackModel$Member;",
  .fieldLink R_MM 67 "SourceBackModel" "localKind" "[B",
  .fieldLink R_MM 72 "SourceBackModel" "pileKind" "[B",
  .fieldLink R_MM 75 "SourceBackModel" "depth" "[I",
  .fieldLink R_MM 78 "SourceBackModel" "nowLocal" "[B",
  .fieldLink R_MM 81 "SourceBackModel" "nowPile" "[B",
  .fieldLink R_MM 712 "SourceBackModel" "blocks" "I",
  .fieldLink R_MM 84 "SourceBackModel" "begins" "[Z",
  .fieldLink R_MM 88 "SourceBackModel" "order" "[I",
  .fieldLink R_MM 91 "SourceBackModel" "first" "[I",
  .fieldLink R_MM 94 "SourceBackModel" "last" "[I",
  .fieldLink R_MM 97 "SourceBackModel" "parent" "[I",
  .fieldLink R_MM 100 "SourceBackModel" "isHead" "[Z",
  .fieldLink R_MM 103 "SourceBackModel" "isMet" "[Z",
  .fieldLink R_MM 106 "SourceBackModel" "wayFrom" "[I",
  .fieldLink R_MM 109 "SourceBackModel" "ways" "LSourceBackModel$Ints;",
  .fieldLink R_MM 112 "SourceBackModel" "some" "LSourceBackModel$Ints;",
  .fieldLink R_MM 115 "SourceBackModel" "stack" "LSourceBackModel$Ints;",
  .fieldLink R_MM 118 "SourceBackModel" "left" "LSourceBackModel$Ints;",
  .fieldLink R_MM 121 "SourceBackModel" "stackWay" "LSourceBackModel$Ints;",
  .fieldLink R_MM 124 "SourceBackModel" "stackOf" "[I",
  .fieldLink R_MM 127 "SourceBackModel" "termSort" "LSourceBackModel$Ints;",
  .fieldLink R_MM 130 "SourceBackModel" "termA" "LSourceBackModel$Ints;",
  .fieldLink R_MM 133 "SourceBackModel" "termB" "LSourceBackModel$Ints;",
  .fieldLink R_MM 136 "SourceBackModel" "termC" "LSourceBackModel$Ints;",
  .fieldLink R_MM 142 "SourceBackModel" "termV" "LSourceBackModel$Longs;",
  .fieldLink R_MM 146 "SourceBackModel" "parts" "LSourceBackModel$Ints;",
  .fieldLink R_MM 149 "SourceBackModel" "sort" "LSourceBackModel$Ints;",
  .fieldLink R_MM 152 "SourceBackModel" "label" "LSourceBackModel$Ints;",
  .fieldLink R_MM 155 "SourceBackModel" "sa" "LSourceBackModel$Ints;",
  .fieldLink R_MM 158 "SourceBackModel" "sb" "LSourceBackModel$Ints;",
  .fieldLink R_MM 161 "SourceBackModel" "sc" "LSourceBackModel$Ints;",
  .fieldLink R_MM 164 "SourceBackModel" "sv" "LSourceBackModel$Longs;",
  .fieldLink R_MM 167 "SourceBackModel" "body" "LSourceBackModel$Ints;",
  .fieldLink R_MM 170 "SourceBackModel" "other" "LSourceBackModel$Ints;",
  .fieldLink R_MM 173 "SourceBackModel" "next" "LSourceBackModel$Ints;",
  .fieldLink R_MM 176 "SourceBackModel" "caseFrom" "LSourceBackModel$Ints;",
  .fieldLink R_MM 179 "SourceBackModel" "caseMany" "LSourceBackModel$Ints;",
  .fieldLink R_MM 182 "SourceBackModel" "caseBody" "LSourceBackModel$Ints;",
  .fieldLink R_MM 185 "SourceBackModel" "caseNext" "LSourceBackModel$Ints;",
  .fieldLink R_MM 188 "SourceBackModel" "caseKey" "LSourceBackModel$Longs;",
  .fieldLink R_MM 191 "SourceBackModel" "pile" "[I",
  .fieldLink R_MM 760 "SourceBackModel" "high" "I",
  .fieldLink R_MM 194 "SourceBackModel" "lists" "LSourceBackModel$Ints;",
  .fieldLink R_MM 197 "SourceBackModel" "tasks" "LSourceBackModel$Ints;",
  .fieldLink R_MM 200 "SourceBackModel" "hasLocal" "[Z",
  .fieldLink R_MM 203 "SourceBackModel" "seenTemporary" "LSourceBackModel$Ints;",
  .fieldLink R_MM 206 "SourceBackModel" "seenArray" "LSourceBackModel$Ints;",
  .fieldLink R_MM 231 "SourceBackModel" "signWords" "[Ljava/lang/String;",
  .fieldLink R_MM 247 "SourceBackModel" "comparedWords" "[Ljava/lang/String;",
  .fieldLink R_MM 250 "SourceBackModel" "variableWord" "[I",
  .fieldLink R_MM 253 "SourceBackModel" "variableKind" "[I",
  .fieldLink R_MM 256 "SourceBackModel" "labelWord" "[I",
  .fieldLink R_MM 259 "SourceBackModel" "isLoop" "[Z",
  .fieldLink R_MM 262 "SourceBackModel" "loopBegin" "[I",
  .fieldLink R_MM 265 "SourceBackModel" "breakChain" "[I",
  .fieldLink R_MM 268 "SourceBackModel" "keys" "LSourceBackModel$Longs;",
  .fieldLink R_MM 271 "SourceBackModel" "keyEnds" "LSourceBackModel$Ints;",
  .fieldLink R_MM 1345 "SourceBackModel" "firstPlace" "I",
  .fieldLink R_MM 274 "SourceBackModel" "draftMember" "LSourceBackModel$Member;",
  .fieldLink R_MM 277 "SourceBackModel" "draft" "LSourceBackModel$Bytes;",
  .fieldLink R_MM 280 "SourceBackModel" "assembled" "LSourceBackModel$Bytes;",
  .fieldLink R_MM 283 "SourceBackModel" "phase" "[I",
  .fieldLink R_MM 286 "SourceBackModel" "came" "[J",
  .fieldLink R_MM 290 "SourceBackModel" "failure" "[I",
  .fieldLink R_MM 293 "SourceBackModel" "failNumber" "[J",
  .fieldLink R_MM 296 "SourceBackModel" "done" "[J",
  .fieldLink R_MM 1488 "SourceBackModel" "begun" "I",
  .fieldLink R_MM 299 "SourceBackModel" "fieldValue" "[J",
  .fieldLink R_MM 302 "SourceBackModel" "arrayCount" "[I",
  .fieldLink R_MM 305 "SourceBackModel" "elementCount" "[I",
  .fieldLink R_MM 308 "SourceBackModel" "arrayFrom" "[I",
  .fieldLink R_MM 311 "SourceBackModel" "arraySize" "[I",
  .fieldLink R_MM 315 "SourceBackModel" "elements" "[J",
  .fieldLink R_MM 318 "SourceBackModel" "frames" "[I",
  .fieldLink R_MM 321 "SourceBackModel" "frameFile" "[I",
  .fieldLink R_MM 324 "SourceBackModel" "frameMember" "[I",
  .fieldLink R_MM 327 "SourceBackModel" "frameCode" "[LSourceBackModel$Member;",
  .fieldLink R_MM 331 "SourceBackModel" "frameAct" "[I",
  .fieldLink R_MM 334 "SourceBackModel" "frameHigh" "[I",
  .fieldLink R_MM 337 "SourceBackModel" "frameLocal" "[J",
  .fieldLink R_MM 340 "SourceBackModel" "framePile" "[J",
  .fieldLink R_MM 1476 "SourceBackModel" "side" "I",
  .fieldLink R_MM 1482 "SourceBackModel" "top" "I",
  .arrayClass FieldType.boolean,
  .instanceMethod y_MM_thrown,
  .selects R_MM y_MM_thrown y_MM_thrown,
  .code y_MM_thrown b_MM_thrown 1 (some (.int)),
  .instanceMethod y_MM_feed,
  .selects R_MM y_MM_feed y_MM_feed,
  .code y_MM_feed b_MM_feed 4 (some (.int)),
  .constantLong R_MM 347 (8 : Int64),
  .methodLink R_MM 349 y_MM_in,
  .static y_MM_in,
  .code y_MM_in b_MM_in 6 (some (.boolean)),
  .constant R_MM 356 (65536 : Int32),
  .methodLink R_MM 357 y_MB_addLong,
  .instanceMethod y_MB_addLong,
  .selects R_MB y_MB_addLong y_MB_addLong,
  .code y_MB_addLong b_MB_addLong 5 none,
  .methodLink R_MB 17 y_MB_add,
  .instanceMethod y_MB_add,
  .selects R_MB y_MB_add y_MB_add,
  .code y_MB_add b_MB_add 4 none,
  .instanceMethod y_MM_take,
  .selects R_MM y_MM_take y_MM_take,
  .codeWith y_MM_take b_MM_take 3 (some (.int)) [(18, 126, 129, 7)],
  .methodLink R_MM 413 y_MM_newBox,
  .instanceMethod y_MM_newBox,
  .code y_MM_newBox b_MM_newBox 2 (some (.object "SourceBackModel$Box")),
  .methodLink R_MM 406 y_MX_clear,
  .instanceMethod y_MX_clear,
  .selects R_MX y_MX_clear y_MX_clear,
  .code y_MX_clear b_MX_clear 1 none,
  .methodLink R_MX 71 y_MX_add,
  .instanceMethod y_MX_add,
  .selects R_MX y_MX_add y_MX_add,
  .code y_MX_add b_MX_add 2 (some (.int)),
  .methodLink R_MX 75 y_MI_add,
  .instanceMethod y_MI_add,
  .selects R_MI y_MI_add y_MI_add,
  .code y_MI_add b_MI_add 4 none,
  .methodLink R_MX 77 y_ML_add,
  .instanceMethod y_ML_add,
  .selects R_ML y_ML_add y_ML_add,
  .code y_ML_add b_ML_add 5 none,
  .instantiable R_MX 15,
  .instanceMethod y_MX_init,
  .code y_MX_init b_MX_init 1 none,
  .methodLink R_MX 3 objectInit,
  .classLink R_MX 9 R_MB,
  .classLink R_MX 18 R_MI,
  .methodLink R_MX 20 y_MI_init,
  .classLink R_MX 39 R_ML,
  .methodLink R_MX 41 y_ML_init,
  .classLink R_MX 52 R_MR,
  .fieldLink R_MX 12 "SourceBackModel$Box" "bytes" "LSourceBackModel$Bytes;",
  .fieldLink R_MX 23 "SourceBackModel$Box" "tag" "LSourceBackModel$Ints;",
  .fieldLink R_MX 27 "SourceBackModel$Box" "word" "LSourceBackModel$Ints;",
  .fieldLink R_MX 30 "SourceBackModel$Box" "owner" "LSourceBackModel$Ints;",
  .fieldLink R_MX 33 "SourceBackModel$Box" "name" "LSourceBackModel$Ints;",
  .fieldLink R_MX 36 "SourceBackModel$Box" "sort" "LSourceBackModel$Ints;",
  .fieldLink R_MX 42 "SourceBackModel$Box" "number" "LSourceBackModel$Longs;",
  .fieldLink R_MX 46 "SourceBackModel$Box" "fields" "LSourceBackModel$Ints;",
  .fieldLink R_MX 49 "SourceBackModel$Box" "entryOf" "LSourceBackModel$Ints;",
  .fieldLink R_MX 54 "SourceBackModel$Box" "members" "[LSourceBackModel$Member;",
  .fieldLink R_MX 64 "SourceBackModel$Box" "memberCount" "I",
  .fieldLink R_MX 67 "SourceBackModel$Box" "hasMade" "Z",
  .methodLink R_MM 391 y_MM_must,
  .instanceMethod y_MM_must,
  .code y_MM_must b_MM_must 4 none,
  .methodLink R_MM 383 y_MH_of,
  .instanceMethod y_MH_of,
  .selects R_MH y_MH_of y_MH_of,
  .code y_MH_of b_MH_of 3 (some (.object "SourceBackModel$Halt")),
  .methodLink R_MM 421 y_MM_readsFile,
  .instanceMethod y_MM_readsFile,
  .code y_MM_readsFile b_MM_readsFile 5 none,
  .methodLink R_MM 399 y_MM_reads,
  .instanceMethod y_MM_reads,
  .code y_MM_reads b_MM_reads 5 (some (.long)),
  .constantLong R_MM 450 (2953310494 : Int64),
  .constantLong R_MM 459 (9 : Int64),
  .constantLong R_MM 461 (2000 : Int64),
  .methodLink R_MM 367 y_MI_add,
  .constantLong R_MM 580 (4000 : Int64),
  .instanceMethod y_MM_act_1,
  .code y_MM_act_1 b_MM_act_1 8 none,
  .instanceMethod y_MM_member_0,
  .code y_MM_member_0 b_MM_member_0 6 (some (.int)),
  .methodLink R_MM 438 y_MM_settles,
  .instanceMethod y_MM_settles,
  .code y_MM_settles b_MM_settles 4 none,
  .constantLong R_MM 1474 (-1 : Int64),
  .methodLink R_MM 441 y_MM_gives,
  .instanceMethod y_MM_gives,
  .code y_MM_gives b_MM_gives 2 none,
  .instanceMethod y_MM_judge,
  .selects R_MM y_MM_judge y_MM_judge,
  .codeWith y_MM_judge b_MM_judge 4 (some (.int)) [(25, 47, 50, 7)],
  .instanceMethod y_MM_edit,
  .selects R_MM y_MM_edit y_MM_edit,
  .codeWith y_MM_edit b_MM_edit 6 (some (.int)) [(44, 142, 145, 7)],
  .instanceMethod y_MM_undo,
  .selects R_MM y_MM_undo y_MM_undo,
  .code y_MM_undo b_MM_undo 2 (some (.boolean)),
  .instanceMethod y_MM_pair,
  .selects R_MM y_MM_pair y_MM_pair,
  .code y_MM_pair b_MM_pair 7 (some (.int)),
  .methodLink R_MM 1468 y_MM_isMember,
  .instanceMethod y_MM_isMember,
  .code y_MM_isMember b_MM_isMember 3 (some (.boolean)),
  .instanceMethod y_MM_alike,
  .selects R_MM y_MM_alike y_MM_alike,
  .code y_MM_alike b_MM_alike 7 (some (.int)),
  .methodLink R_MM 1471 y_MM_pair,
  .instanceMethod y_MM_settle,
  .selects R_MM y_MM_settle y_MM_settle,
  .code y_MM_settle b_MM_settle 1 none,
  .instanceMethod y_MM_call,
  .selects R_MM y_MM_call y_MM_call,
  .code y_MM_call b_MM_call 13 (some (.boolean)),
  .constantLong R_MM 1494 (4 : Int64),
  .instanceMethod y_MM_steps,
  .selects R_MM y_MM_steps y_MM_steps,
  .code y_MM_steps b_MM_steps 4 (some (.int)),
  .instanceMethod y_MM_file,
  .selects R_MM y_MM_file y_MM_file,
  .code y_MM_file b_MM_file 4 (some (.int)),
  .instanceMethod y_MM_byteAt,
  .selects R_MM y_MM_byteAt y_MM_byteAt,
  .code y_MM_byteAt b_MM_byteAt 5 (some (.int)),
  .instanceMethod y_MM_entry,
  .selects R_MM y_MM_entry y_MM_entry,
  .code y_MM_entry b_MM_entry 8 (some (.long)),
  .instanceMethod y_MM_member_1,
  .selects R_MM y_MM_member_1 y_MM_member_1,
  .code y_MM_member_1 b_MM_member_1 5 (some (.int)),
  .instanceMethod y_MM_act_0,
  .selects R_MM y_MM_act_0 y_MM_act_0,
  .code y_MM_act_0 b_MM_act_0 7 (some (.int)),
  .instanceMethod y_MM_kind,
  .selects R_MM y_MM_kind y_MM_kind,
  .code y_MM_kind b_MM_kind 7 (some (.int)),
  .instanceMethod y_MM_block,
  .selects R_MM y_MM_block y_MM_block,
  .code y_MM_block b_MM_block 7 (some (.int)),
  .instanceMethod y_MM_text,
  .selects R_MM y_MM_text y_MM_text,
  .code y_MM_text b_MM_text 5 (some (.int)),
  .instanceMethod y_MM_state,
  .selects R_MM y_MM_state y_MM_state,
  .code y_MM_state b_MM_state 5 (some (.long)),
  .instanceMethod y_MM_field,
  .selects R_MM y_MM_field y_MM_field,
  .code y_MM_field b_MM_field 5 (some (.long)),
  .instanceMethod y_MM_element,
  .selects R_MM y_MM_element y_MM_element,
  .code y_MM_element b_MM_element 6 (some (.long)),
  .instanceMethod y_MM_count,
  .selects R_MM y_MM_count y_MM_count,
  .code y_MM_count b_MM_count 4 (some (.int)),
  .selects R_MM y_MM_must y_MM_must,
  .selects R_MM y_MM_reads y_MM_reads,
  .selects R_MM y_MM_newBox y_MM_newBox,
  .selects R_MM y_MM_gives y_MM_gives,
  .selects R_MM y_MM_readsFile y_MM_readsFile,
  .selects R_MM y_MM_act_1 y_MM_act_1,
  .selects R_MM y_MM_member_0 y_MM_member_0,
  .selects R_MM y_MM_isMember y_MM_isMember,
  .selects R_MM y_MM_settles y_MM_settles]
def wm : List Cond := wm_l ++ (u_ws R_MM F_MM 132 ++ (u_ws R_MH F_MH 8 ++ (u_ws R_MB F_MB 2 ++ (u_ws R_MI F_MI 2 ++ (u_ws R_ML F_ML 2 ++ (u_ws R_MR F_MR 24 ++ (u_ws R_MX F_MX 15)))))))
theorem i_MM : ∀ w ∈ u_ws R_MM F_MM 132, w ∈ wm := fun w h => List.mem_append_right _ (List.mem_append_left _ h)
theorem i_MH : ∀ w ∈ u_ws R_MH F_MH 8, w ∈ wm := fun w h => List.mem_append_right _ (List.mem_append_right _ (List.mem_append_left _ h))
theorem i_MB : ∀ w ∈ u_ws R_MB F_MB 2, w ∈ wm := fun w h => List.mem_append_right _ (List.mem_append_right _ (List.mem_append_right _ (List.mem_append_left _ h)))
theorem i_MI : ∀ w ∈ u_ws R_MI F_MI 2, w ∈ wm := fun w h => List.mem_append_right _ (List.mem_append_right _ (List.mem_append_right _ (List.mem_append_right _ (List.mem_append_left _ h))))
theorem i_ML : ∀ w ∈ u_ws R_ML F_ML 2, w ∈ wm := fun w h => List.mem_append_right _ (List.mem_append_right _ (List.mem_append_right _ (List.mem_append_right _ (List.mem_append_right _ (List.mem_append_left _ h)))))
theorem i_MR : ∀ w ∈ u_ws R_MR F_MR 24, w ∈ wm := fun w h => List.mem_append_right _ (List.mem_append_right _ (List.mem_append_right _ (List.mem_append_right _ (List.mem_append_right _ (List.mem_append_right _ (List.mem_append_left _ h))))))
theorem i_MX : ∀ w ∈ u_ws R_MX F_MX 15, w ∈ wm := fun w h => List.mem_append_right _ (List.mem_append_right _ (List.mem_append_right _ (List.mem_append_right _ (List.mem_append_right _ (List.mem_append_right _ (List.mem_append_right _ (h)))))))
set_option maxRecDepth 100000 in
theorem g_wm : ax_good wm := fun w hw => ⟨hw, good_of_word (List.all_eq_true.mp (by decide +kernel : wm.all goodWord = true) w hw)⟩
theorem xm_0 : Cond.initialized R_MM ∈ wm := List.mem_append_left _ (List.mem_of_getElem? (i := 0) rfl)
theorem xm_1 : Cond.initialized R_MH ∈ wm := List.mem_append_left _ (List.mem_of_getElem? (i := 1) rfl)
theorem xm_2 : Cond.initialized R_MB ∈ wm := List.mem_append_left _ (List.mem_of_getElem? (i := 2) rfl)
theorem xm_3 : Cond.initialized R_MI ∈ wm := List.mem_append_left _ (List.mem_of_getElem? (i := 3) rfl)
theorem xm_4 : Cond.initialized R_MR ∈ wm := List.mem_append_left _ (List.mem_of_getElem? (i := 4) rfl)
theorem xm_5 : Cond.initialized R_ML ∈ wm := List.mem_append_left _ (List.mem_of_getElem? (i := 5) rfl)
theorem xm_6 : Cond.initialized "java/lang/String" ∈ wm := List.mem_append_left _ (List.mem_of_getElem? (i := 6) rfl)
theorem xm_7 : Cond.initialized R_MX ∈ wm := List.mem_append_left _ (List.mem_of_getElem? (i := 7) rfl)
theorem xm_8 : Cond.instanceMethod objectInit ∈ wm := List.mem_append_left _ (List.mem_of_getElem? (i := 8) rfl)
theorem xm_9 : Cond.code objectInit ⟨#[0xb1]⟩ 1 none ∈ wm := List.mem_append_left _ (List.mem_of_getElem? (i := 9) rfl)
theorem xm_10 : Cond.arrayClass FieldType.byte ∈ wm := List.mem_append_left _ (List.mem_of_getElem? (i := 10) rfl)
theorem xm_11 : Cond.arrayClass FieldType.int ∈ wm := List.mem_append_left _ (List.mem_of_getElem? (i := 11) rfl)
theorem xm_12 : Cond.arrayClass FieldType.long ∈ wm := List.mem_append_left _ (List.mem_of_getElem? (i := 12) rfl)
theorem xm_13 : Cond.instantiable "java/lang/String" 4 ∈ wm := List.mem_append_left _ (List.mem_of_getElem? (i := 13) rfl)
theorem xm_14 : Cond.instantiable R_MM 132 ∈ wm := List.mem_append_left _ (List.mem_of_getElem? (i := 14) rfl)
theorem xm_15 : Cond.instanceMethod y_MM_init ∈ wm := List.mem_append_left _ (List.mem_of_getElem? (i := 15) rfl)
theorem xm_16 : Cond.code y_MM_init b_MM_init 1 none ∈ wm := List.mem_append_left _ (List.mem_of_getElem? (i := 16) rfl)
theorem xm_17 : Cond.methodLink R_MM 1 objectInit ∈ wm := List.mem_append_left _ (List.mem_of_getElem? (i := 17) rfl)
theorem xm_18 : Cond.classLink R_MM 7 R_MH ∈ wm := List.mem_append_left _ (List.mem_of_getElem? (i := 18) rfl)
theorem xm_19 : Cond.instantiable R_MH 8 ∈ wm := List.mem_append_left _ (List.mem_of_getElem? (i := 19) rfl)
theorem xm_20 : Cond.instanceMethod y_MH_init ∈ wm := List.mem_append_left _ (List.mem_of_getElem? (i := 20) rfl)
theorem xm_21 : Cond.code y_MH_init b_MH_init 1 none ∈ wm := List.mem_append_left _ (List.mem_of_getElem? (i := 21) rfl)
theorem xm_22 : Cond.methodLink R_MH 1 ⟨"java/lang/RuntimeException", "<init>", "()V"⟩ ∈ wm := List.mem_append_left _ (List.mem_of_getElem? (i := 22) rfl)
theorem xm_23 : Cond.fieldLink R_MH 7 "SourceBackModel$Halt" "number" "I" ∈ wm := List.mem_append_left _ (List.mem_of_getElem? (i := 23) rfl)
theorem xm_24 : Cond.fieldLink R_MH 13 "SourceBackModel$Halt" "place" "I" ∈ wm := List.mem_append_left _ (List.mem_of_getElem? (i := 24) rfl)
theorem xm_25 : Cond.classLink R_MM 16 R_MB ∈ wm := List.mem_append_left _ (List.mem_of_getElem? (i := 25) rfl)
theorem xm_26 : Cond.instantiable R_MB 2 ∈ wm := List.mem_append_left _ (List.mem_of_getElem? (i := 26) rfl)
theorem xm_27 : Cond.instanceMethod y_MB_init ∈ wm := List.mem_append_left _ (List.mem_of_getElem? (i := 27) rfl)
theorem xm_28 : Cond.code y_MB_init b_MB_init 1 none ∈ wm := List.mem_append_left _ (List.mem_of_getElem? (i := 28) rfl)
theorem xm_29 : Cond.methodLink R_MB 1 objectInit ∈ wm := List.mem_append_left _ (List.mem_of_getElem? (i := 29) rfl)
theorem xm_30 : Cond.fieldLink R_MB 7 "SourceBackModel$Bytes" "a" "[B" ∈ wm := List.mem_append_left _ (List.mem_of_getElem? (i := 30) rfl)
theorem xm_31 : Cond.fieldLink R_MB 13 "SourceBackModel$Bytes" "size" "I" ∈ wm := List.mem_append_left _ (List.mem_of_getElem? (i := 31) rfl)
theorem xm_32 : Cond.classLink R_MM 26 R_MI ∈ wm := List.mem_append_left _ (List.mem_of_getElem? (i := 32) rfl)
theorem xm_33 : Cond.instantiable R_MI 2 ∈ wm := List.mem_append_left _ (List.mem_of_getElem? (i := 33) rfl)
theorem xm_34 : Cond.methodLink R_MM 28 y_MI_init ∈ wm := List.mem_append_left _ (List.mem_of_getElem? (i := 34) rfl)
theorem xm_35 : Cond.instanceMethod y_MI_init ∈ wm := List.mem_append_left _ (List.mem_of_getElem? (i := 35) rfl)
theorem xm_36 : Cond.code y_MI_init b_MI_init 2 none ∈ wm := List.mem_append_left _ (List.mem_of_getElem? (i := 36) rfl)
theorem xm_37 : Cond.methodLink R_MI 1 objectInit ∈ wm := List.mem_append_left _ (List.mem_of_getElem? (i := 37) rfl)
theorem xm_38 : Cond.fieldLink R_MI 7 "SourceBackModel$Ints" "a" "[I" ∈ wm := List.mem_append_left _ (List.mem_of_getElem? (i := 38) rfl)
theorem xm_39 : Cond.fieldLink R_MI 13 "SourceBackModel$Ints" "size" "I" ∈ wm := List.mem_append_left _ (List.mem_of_getElem? (i := 39) rfl)
theorem xm_40 : Cond.classLink R_MM 38 R_MX ∈ wm := List.mem_append_left _ (List.mem_of_getElem? (i := 40) rfl)
theorem xm_41 : Cond.classLink R_MM 57 R_MR ∈ wm := List.mem_append_left _ (List.mem_of_getElem? (i := 41) rfl)
theorem xm_42 : Cond.instantiable R_MR 24 ∈ wm := List.mem_append_left _ (List.mem_of_getElem? (i := 42) rfl)
theorem xm_43 : Cond.methodLink R_MM 59 y_MR_init ∈ wm := List.mem_append_left _ (List.mem_of_getElem? (i := 43) rfl)
theorem xm_44 : Cond.instanceMethod y_MR_init ∈ wm := List.mem_append_left _ (List.mem_of_getElem? (i := 44) rfl)
theorem xm_45 : Cond.code y_MR_init b_MR_init 3 none ∈ wm := List.mem_append_left _ (List.mem_of_getElem? (i := 45) rfl)
theorem xm_46 : Cond.methodLink R_MR 3 objectInit ∈ wm := List.mem_append_left _ (List.mem_of_getElem? (i := 46) rfl)
theorem xm_47 : Cond.classLink R_MR 9 R_MI ∈ wm := List.mem_append_left _ (List.mem_of_getElem? (i := 47) rfl)
theorem xm_48 : Cond.methodLink R_MR 11 y_MI_init ∈ wm := List.mem_append_left _ (List.mem_of_getElem? (i := 48) rfl)
theorem xm_49 : Cond.classLink R_MR 29 R_ML ∈ wm := List.mem_append_left _ (List.mem_of_getElem? (i := 49) rfl)
theorem xm_50 : Cond.instantiable R_ML 2 ∈ wm := List.mem_append_left _ (List.mem_of_getElem? (i := 50) rfl)
theorem xm_51 : Cond.methodLink R_MR 31 y_ML_init ∈ wm := List.mem_append_left _ (List.mem_of_getElem? (i := 51) rfl)
theorem xm_52 : Cond.instanceMethod y_ML_init ∈ wm := List.mem_append_left _ (List.mem_of_getElem? (i := 52) rfl)
theorem xm_53 : Cond.code y_ML_init b_ML_init 2 none ∈ wm := List.mem_append_left _ (List.mem_of_getElem? (i := 53) rfl)
theorem xm_54 : Cond.methodLink R_ML 1 objectInit ∈ wm := List.mem_append_left _ (List.mem_of_getElem? (i := 54) rfl)
theorem xm_55 : Cond.fieldLink R_ML 7 "SourceBackModel$Longs" "a" "[J" ∈ wm := List.mem_append_left _ (List.mem_of_getElem? (i := 55) rfl)
theorem xm_56 : Cond.fieldLink R_ML 13 "SourceBackModel$Longs" "size" "I" ∈ wm := List.mem_append_left _ (List.mem_of_getElem? (i := 56) rfl)
theorem xm_57 : Cond.fieldLink R_MR 14 "SourceBackModel$Member" "at" "LSourceBackModel$Ints;" ∈ wm := List.mem_append_left _ (List.mem_of_getElem? (i := 57) rfl)
theorem xm_58 : Cond.fieldLink R_MR 20 "SourceBackModel$Member" "op" "LSourceBackModel$Ints;" ∈ wm := List.mem_append_left _ (List.mem_of_getElem? (i := 58) rfl)
theorem xm_59 : Cond.fieldLink R_MR 23 "SourceBackModel$Member" "a" "LSourceBackModel$Ints;" ∈ wm := List.mem_append_left _ (List.mem_of_getElem? (i := 59) rfl)
theorem xm_60 : Cond.fieldLink R_MR 26 "SourceBackModel$Member" "b" "LSourceBackModel$Ints;" ∈ wm := List.mem_append_left _ (List.mem_of_getElem? (i := 60) rfl)
theorem xm_61 : Cond.fieldLink R_MR 32 "SourceBackModel$Member" "v" "LSourceBackModel$Longs;" ∈ wm := List.mem_append_left _ (List.mem_of_getElem? (i := 61) rfl)
theorem xm_62 : Cond.fieldLink R_MR 36 "SourceBackModel$Member" "owner" "LSourceBackModel$Ints;" ∈ wm := List.mem_append_left _ (List.mem_of_getElem? (i := 62) rfl)
theorem xm_63 : Cond.fieldLink R_MR 39 "SourceBackModel$Member" "of" "LSourceBackModel$Ints;" ∈ wm := List.mem_append_left _ (List.mem_of_getElem? (i := 63) rfl)
theorem xm_64 : Cond.fieldLink R_MR 42 "SourceBackModel$Member" "sort" "LSourceBackModel$Ints;" ∈ wm := List.mem_append_left _ (List.mem_of_getElem? (i := 64) rfl)
theorem xm_65 : Cond.fieldLink R_MR 45 "SourceBackModel$Member" "key" "LSourceBackModel$Longs;" ∈ wm := List.mem_append_left _ (List.mem_of_getElem? (i := 65) rfl)
theorem xm_66 : Cond.fieldLink R_MR 48 "SourceBackModel$Member" "end" "LSourceBackModel$Ints;" ∈ wm := List.mem_append_left _ (List.mem_of_getElem? (i := 66) rfl)
theorem xm_67 : Cond.constant R_MM 66 (240000 : Int32) ∈ wm := List.mem_append_left _ (List.mem_of_getElem? (i := 67) rfl)
theorem xm_68 : Cond.constant R_MM 71 (244000 : Int32) ∈ wm := List.mem_append_left _ (List.mem_of_getElem? (i := 68) rfl)
theorem xm_69 : Cond.classLink R_MM 139 R_ML ∈ wm := List.mem_append_left _ (List.mem_of_getElem? (i := 69) rfl)
theorem xm_70 : Cond.methodLink R_MM 141 y_ML_init ∈ wm := List.mem_append_left _ (List.mem_of_getElem? (i := 70) rfl)
theorem xm_71 : Cond.classLink R_MM 209 "java/lang/String" ∈ wm := List.mem_append_left _ (List.mem_of_getElem? (i := 71) rfl)
theorem xm_72 : Cond.constant R_MM 314 (80000 : Int32) ∈ wm := List.mem_append_left _ (List.mem_of_getElem? (i := 72) rfl)
theorem xm_73 : Cond.fieldLink R_MM 343 "SourceBackModel" "thrown" "I" ∈ wm := List.mem_append_left _ (List.mem_of_getElem? (i := 73) rfl)
theorem xm_74 : Cond.fieldLink R_MM 10 "SourceBackModel" "halt" "LSourceBackModel$Halt;" ∈ wm := List.mem_append_left _ (List.mem_of_getElem? (i := 74) rfl)
theorem xm_75 : Cond.fieldLink R_MM 19 "SourceBackModel" "tape" "LSourceBackModel$Bytes;" ∈ wm := List.mem_append_left _ (List.mem_of_getElem? (i := 75) rfl)
theorem xm_76 : Cond.fieldLink R_MM 23 "SourceBackModel" "letters" "LSourceBackModel$Bytes;" ∈ wm := List.mem_append_left _ (List.mem_of_getElem? (i := 76) rfl)
theorem xm_77 : Cond.fieldLink R_MM 31 "SourceBackModel" "wordFrom" "LSourceBackModel$Ints;" ∈ wm := List.mem_append_left _ (List.mem_of_getElem? (i := 77) rfl)
theorem xm_78 : Cond.fieldLink R_MM 35 "SourceBackModel" "wordSize" "LSourceBackModel$Ints;" ∈ wm := List.mem_append_left _ (List.mem_of_getElem? (i := 78) rfl)
theorem xm_79 : Cond.fieldLink R_MM 390 "SourceBackModel" "size" "I" ∈ wm := List.mem_append_left _ (List.mem_of_getElem? (i := 79) rfl)
theorem xm_80 : Cond.fieldLink R_MM 387 "SourceBackModel" "at" "I" ∈ wm := List.mem_append_left _ (List.mem_of_getElem? (i := 80) rfl)
theorem xm_81 : Cond.fieldLink R_MM 410 "SourceBackModel" "count" "I" ∈ wm := List.mem_append_left _ (List.mem_of_getElem? (i := 81) rfl)
theorem xm_82 : Cond.fieldLink R_MM 40 "SourceBackModel" "files" "[LSourceBackModel$Box;" ∈ wm := List.mem_append_left _ (List.mem_of_getElem? (i := 82) rfl)
theorem xm_83 : Cond.fieldLink R_MM 44 "SourceBackModel" "older" "[LSourceBackModel$Box;" ∈ wm := List.mem_append_left _ (List.mem_of_getElem? (i := 83) rfl)
theorem xm_84 : Cond.fieldLink R_MM 47 "SourceBackModel" "edits" "[I" ∈ wm := List.mem_append_left _ (List.mem_of_getElem? (i := 84) rfl)
theorem xm_85 : Cond.fieldLink R_MM 51 "SourceBackModel" "spares" "[LSourceBackModel$Box;" ∈ wm := List.mem_append_left _ (List.mem_of_getElem? (i := 85) rfl)
theorem xm_86 : Cond.fieldLink R_MM 403 "SourceBackModel" "spareCount" "I" ∈ wm := List.mem_append_left _ (List.mem_of_getElem? (i := 86) rfl)
theorem xm_87 : Cond.fieldLink R_MM 417 "SourceBackModel" "box" "LSourceBackModel$Box;" ∈ wm := List.mem_append_left _ (List.mem_of_getElem? (i := 87) rfl)
theorem xm_88 : Cond.fieldLink R_MM 54 "SourceBackModel" "places" "LSourceBackModel$Ints;" ∈ wm := List.mem_append_left _ (List.mem_of_getElem? (i := 88) rfl)
theorem xm_89 : Cond.fieldLink R_MM 498 "SourceBackModel" "nameAt" "I" ∈ wm := List.mem_append_left _ (List.mem_of_getElem? (i := 89) rfl)
theorem xm_90 : Cond.fieldLink R_MM 62 "SourceBackModel" "reading" "LSourceBackModel$Member;" ∈ wm := List.mem_append_left _ (List.mem_of_getElem? (i := 90) rfl)
theorem xm_91 : Cond.fieldLink R_MM 67 "SourceBackModel" "localKind" "[B" ∈ wm := List.mem_append_left _ (List.mem_of_getElem? (i := 91) rfl)
theorem xm_92 : Cond.fieldLink R_MM 72 "SourceBackModel" "pileKind" "[B" ∈ wm := List.mem_append_left _ (List.mem_of_getElem? (i := 92) rfl)
theorem xm_93 : Cond.fieldLink R_MM 75 "SourceBackModel" "depth" "[I" ∈ wm := List.mem_append_left _ (List.mem_of_getElem? (i := 93) rfl)
theorem xm_94 : Cond.fieldLink R_MM 78 "SourceBackModel" "nowLocal" "[B" ∈ wm := List.mem_append_left _ (List.mem_of_getElem? (i := 94) rfl)
theorem xm_95 : Cond.fieldLink R_MM 81 "SourceBackModel" "nowPile" "[B" ∈ wm := List.mem_append_left _ (List.mem_of_getElem? (i := 95) rfl)
theorem xm_96 : Cond.fieldLink R_MM 712 "SourceBackModel" "blocks" "I" ∈ wm := List.mem_append_left _ (List.mem_of_getElem? (i := 96) rfl)
theorem xm_97 : Cond.fieldLink R_MM 84 "SourceBackModel" "begins" "[Z" ∈ wm := List.mem_append_left _ (List.mem_of_getElem? (i := 97) rfl)
theorem xm_98 : Cond.fieldLink R_MM 88 "SourceBackModel" "order" "[I" ∈ wm := List.mem_append_left _ (List.mem_of_getElem? (i := 98) rfl)
theorem xm_99 : Cond.fieldLink R_MM 91 "SourceBackModel" "first" "[I" ∈ wm := List.mem_append_left _ (List.mem_of_getElem? (i := 99) rfl)
theorem xm_100 : Cond.fieldLink R_MM 94 "SourceBackModel" "last" "[I" ∈ wm := List.mem_append_left _ (List.mem_of_getElem? (i := 100) rfl)
theorem xm_101 : Cond.fieldLink R_MM 97 "SourceBackModel" "parent" "[I" ∈ wm := List.mem_append_left _ (List.mem_of_getElem? (i := 101) rfl)
theorem xm_102 : Cond.fieldLink R_MM 100 "SourceBackModel" "isHead" "[Z" ∈ wm := List.mem_append_left _ (List.mem_of_getElem? (i := 102) rfl)
theorem xm_103 : Cond.fieldLink R_MM 103 "SourceBackModel" "isMet" "[Z" ∈ wm := List.mem_append_left _ (List.mem_of_getElem? (i := 103) rfl)
theorem xm_104 : Cond.fieldLink R_MM 106 "SourceBackModel" "wayFrom" "[I" ∈ wm := List.mem_append_left _ (List.mem_of_getElem? (i := 104) rfl)
theorem xm_105 : Cond.fieldLink R_MM 109 "SourceBackModel" "ways" "LSourceBackModel$Ints;" ∈ wm := List.mem_append_left _ (List.mem_of_getElem? (i := 105) rfl)
theorem xm_106 : Cond.fieldLink R_MM 112 "SourceBackModel" "some" "LSourceBackModel$Ints;" ∈ wm := List.mem_append_left _ (List.mem_of_getElem? (i := 106) rfl)
theorem xm_107 : Cond.fieldLink R_MM 115 "SourceBackModel" "stack" "LSourceBackModel$Ints;" ∈ wm := List.mem_append_left _ (List.mem_of_getElem? (i := 107) rfl)
theorem xm_108 : Cond.fieldLink R_MM 118 "SourceBackModel" "left" "LSourceBackModel$Ints;" ∈ wm := List.mem_append_left _ (List.mem_of_getElem? (i := 108) rfl)
theorem xm_109 : Cond.fieldLink R_MM 121 "SourceBackModel" "stackWay" "LSourceBackModel$Ints;" ∈ wm := List.mem_append_left _ (List.mem_of_getElem? (i := 109) rfl)
theorem xm_110 : Cond.fieldLink R_MM 124 "SourceBackModel" "stackOf" "[I" ∈ wm := List.mem_append_left _ (List.mem_of_getElem? (i := 110) rfl)
theorem xm_111 : Cond.fieldLink R_MM 127 "SourceBackModel" "termSort" "LSourceBackModel$Ints;" ∈ wm := List.mem_append_left _ (List.mem_of_getElem? (i := 111) rfl)
theorem xm_112 : Cond.fieldLink R_MM 130 "SourceBackModel" "termA" "LSourceBackModel$Ints;" ∈ wm := List.mem_append_left _ (List.mem_of_getElem? (i := 112) rfl)
theorem xm_113 : Cond.fieldLink R_MM 133 "SourceBackModel" "termB" "LSourceBackModel$Ints;" ∈ wm := List.mem_append_left _ (List.mem_of_getElem? (i := 113) rfl)
theorem xm_114 : Cond.fieldLink R_MM 136 "SourceBackModel" "termC" "LSourceBackModel$Ints;" ∈ wm := List.mem_append_left _ (List.mem_of_getElem? (i := 114) rfl)
theorem xm_115 : Cond.fieldLink R_MM 142 "SourceBackModel" "termV" "LSourceBackModel$Longs;" ∈ wm := List.mem_append_left _ (List.mem_of_getElem? (i := 115) rfl)
theorem xm_116 : Cond.fieldLink R_MM 146 "SourceBackModel" "parts" "LSourceBackModel$Ints;" ∈ wm := List.mem_append_left _ (List.mem_of_getElem? (i := 116) rfl)
theorem xm_117 : Cond.fieldLink R_MM 149 "SourceBackModel" "sort" "LSourceBackModel$Ints;" ∈ wm := List.mem_append_left _ (List.mem_of_getElem? (i := 117) rfl)
theorem xm_118 : Cond.fieldLink R_MM 152 "SourceBackModel" "label" "LSourceBackModel$Ints;" ∈ wm := List.mem_append_left _ (List.mem_of_getElem? (i := 118) rfl)
theorem xm_119 : Cond.fieldLink R_MM 155 "SourceBackModel" "sa" "LSourceBackModel$Ints;" ∈ wm := List.mem_append_left _ (List.mem_of_getElem? (i := 119) rfl)
theorem xm_120 : Cond.fieldLink R_MM 158 "SourceBackModel" "sb" "LSourceBackModel$Ints;" ∈ wm := List.mem_append_left _ (List.mem_of_getElem? (i := 120) rfl)
theorem xm_121 : Cond.fieldLink R_MM 161 "SourceBackModel" "sc" "LSourceBackModel$Ints;" ∈ wm := List.mem_append_left _ (List.mem_of_getElem? (i := 121) rfl)
theorem xm_122 : Cond.fieldLink R_MM 164 "SourceBackModel" "sv" "LSourceBackModel$Longs;" ∈ wm := List.mem_append_left _ (List.mem_of_getElem? (i := 122) rfl)
theorem xm_123 : Cond.fieldLink R_MM 167 "SourceBackModel" "body" "LSourceBackModel$Ints;" ∈ wm := List.mem_append_left _ (List.mem_of_getElem? (i := 123) rfl)
theorem xm_124 : Cond.fieldLink R_MM 170 "SourceBackModel" "other" "LSourceBackModel$Ints;" ∈ wm := List.mem_append_left _ (List.mem_of_getElem? (i := 124) rfl)
theorem xm_125 : Cond.fieldLink R_MM 173 "SourceBackModel" "next" "LSourceBackModel$Ints;" ∈ wm := List.mem_append_left _ (List.mem_of_getElem? (i := 125) rfl)
theorem xm_126 : Cond.fieldLink R_MM 176 "SourceBackModel" "caseFrom" "LSourceBackModel$Ints;" ∈ wm := List.mem_append_left _ (List.mem_of_getElem? (i := 126) rfl)
theorem xm_127 : Cond.fieldLink R_MM 179 "SourceBackModel" "caseMany" "LSourceBackModel$Ints;" ∈ wm := List.mem_append_left _ (List.mem_of_getElem? (i := 127) rfl)
theorem xm_128 : Cond.fieldLink R_MM 182 "SourceBackModel" "caseBody" "LSourceBackModel$Ints;" ∈ wm := List.mem_append_left _ (List.mem_of_getElem? (i := 128) rfl)
theorem xm_129 : Cond.fieldLink R_MM 185 "SourceBackModel" "caseNext" "LSourceBackModel$Ints;" ∈ wm := List.mem_append_left _ (List.mem_of_getElem? (i := 129) rfl)
theorem xm_130 : Cond.fieldLink R_MM 188 "SourceBackModel" "caseKey" "LSourceBackModel$Longs;" ∈ wm := List.mem_append_left _ (List.mem_of_getElem? (i := 130) rfl)
theorem xm_131 : Cond.fieldLink R_MM 191 "SourceBackModel" "pile" "[I" ∈ wm := List.mem_append_left _ (List.mem_of_getElem? (i := 131) rfl)
theorem xm_132 : Cond.fieldLink R_MM 760 "SourceBackModel" "high" "I" ∈ wm := List.mem_append_left _ (List.mem_of_getElem? (i := 132) rfl)
theorem xm_133 : Cond.fieldLink R_MM 194 "SourceBackModel" "lists" "LSourceBackModel$Ints;" ∈ wm := List.mem_append_left _ (List.mem_of_getElem? (i := 133) rfl)
theorem xm_134 : Cond.fieldLink R_MM 197 "SourceBackModel" "tasks" "LSourceBackModel$Ints;" ∈ wm := List.mem_append_left _ (List.mem_of_getElem? (i := 134) rfl)
theorem xm_135 : Cond.fieldLink R_MM 200 "SourceBackModel" "hasLocal" "[Z" ∈ wm := List.mem_append_left _ (List.mem_of_getElem? (i := 135) rfl)
theorem xm_136 : Cond.fieldLink R_MM 203 "SourceBackModel" "seenTemporary" "LSourceBackModel$Ints;" ∈ wm := List.mem_append_left _ (List.mem_of_getElem? (i := 136) rfl)
theorem xm_137 : Cond.fieldLink R_MM 206 "SourceBackModel" "seenArray" "LSourceBackModel$Ints;" ∈ wm := List.mem_append_left _ (List.mem_of_getElem? (i := 137) rfl)
theorem xm_138 : Cond.fieldLink R_MM 231 "SourceBackModel" "signWords" "[Ljava/lang/String;" ∈ wm := List.mem_append_left _ (List.mem_of_getElem? (i := 138) rfl)
theorem xm_139 : Cond.fieldLink R_MM 247 "SourceBackModel" "comparedWords" "[Ljava/lang/String;" ∈ wm := List.mem_append_left _ (List.mem_of_getElem? (i := 139) rfl)
theorem xm_140 : Cond.fieldLink R_MM 250 "SourceBackModel" "variableWord" "[I" ∈ wm := List.mem_append_left _ (List.mem_of_getElem? (i := 140) rfl)
theorem xm_141 : Cond.fieldLink R_MM 253 "SourceBackModel" "variableKind" "[I" ∈ wm := List.mem_append_left _ (List.mem_of_getElem? (i := 141) rfl)
theorem xm_142 : Cond.fieldLink R_MM 256 "SourceBackModel" "labelWord" "[I" ∈ wm := List.mem_append_left _ (List.mem_of_getElem? (i := 142) rfl)
theorem xm_143 : Cond.fieldLink R_MM 259 "SourceBackModel" "isLoop" "[Z" ∈ wm := List.mem_append_left _ (List.mem_of_getElem? (i := 143) rfl)
theorem xm_144 : Cond.fieldLink R_MM 262 "SourceBackModel" "loopBegin" "[I" ∈ wm := List.mem_append_left _ (List.mem_of_getElem? (i := 144) rfl)
theorem xm_145 : Cond.fieldLink R_MM 265 "SourceBackModel" "breakChain" "[I" ∈ wm := List.mem_append_left _ (List.mem_of_getElem? (i := 145) rfl)
theorem xm_146 : Cond.fieldLink R_MM 268 "SourceBackModel" "keys" "LSourceBackModel$Longs;" ∈ wm := List.mem_append_left _ (List.mem_of_getElem? (i := 146) rfl)
theorem xm_147 : Cond.fieldLink R_MM 271 "SourceBackModel" "keyEnds" "LSourceBackModel$Ints;" ∈ wm := List.mem_append_left _ (List.mem_of_getElem? (i := 147) rfl)
theorem xm_148 : Cond.fieldLink R_MM 1345 "SourceBackModel" "firstPlace" "I" ∈ wm := List.mem_append_left _ (List.mem_of_getElem? (i := 148) rfl)
theorem xm_149 : Cond.fieldLink R_MM 274 "SourceBackModel" "draftMember" "LSourceBackModel$Member;" ∈ wm := List.mem_append_left _ (List.mem_of_getElem? (i := 149) rfl)
theorem xm_150 : Cond.fieldLink R_MM 277 "SourceBackModel" "draft" "LSourceBackModel$Bytes;" ∈ wm := List.mem_append_left _ (List.mem_of_getElem? (i := 150) rfl)
theorem xm_151 : Cond.fieldLink R_MM 280 "SourceBackModel" "assembled" "LSourceBackModel$Bytes;" ∈ wm := List.mem_append_left _ (List.mem_of_getElem? (i := 151) rfl)
theorem xm_152 : Cond.fieldLink R_MM 283 "SourceBackModel" "phase" "[I" ∈ wm := List.mem_append_left _ (List.mem_of_getElem? (i := 152) rfl)
theorem xm_153 : Cond.fieldLink R_MM 286 "SourceBackModel" "came" "[J" ∈ wm := List.mem_append_left _ (List.mem_of_getElem? (i := 153) rfl)
theorem xm_154 : Cond.fieldLink R_MM 290 "SourceBackModel" "failure" "[I" ∈ wm := List.mem_append_left _ (List.mem_of_getElem? (i := 154) rfl)
theorem xm_155 : Cond.fieldLink R_MM 293 "SourceBackModel" "failNumber" "[J" ∈ wm := List.mem_append_left _ (List.mem_of_getElem? (i := 155) rfl)
theorem xm_156 : Cond.fieldLink R_MM 296 "SourceBackModel" "done" "[J" ∈ wm := List.mem_append_left _ (List.mem_of_getElem? (i := 156) rfl)
theorem xm_157 : Cond.fieldLink R_MM 1488 "SourceBackModel" "begun" "I" ∈ wm := List.mem_append_left _ (List.mem_of_getElem? (i := 157) rfl)
theorem xm_158 : Cond.fieldLink R_MM 299 "SourceBackModel" "fieldValue" "[J" ∈ wm := List.mem_append_left _ (List.mem_of_getElem? (i := 158) rfl)
theorem xm_159 : Cond.fieldLink R_MM 302 "SourceBackModel" "arrayCount" "[I" ∈ wm := List.mem_append_left _ (List.mem_of_getElem? (i := 159) rfl)
theorem xm_160 : Cond.fieldLink R_MM 305 "SourceBackModel" "elementCount" "[I" ∈ wm := List.mem_append_left _ (List.mem_of_getElem? (i := 160) rfl)
theorem xm_161 : Cond.fieldLink R_MM 308 "SourceBackModel" "arrayFrom" "[I" ∈ wm := List.mem_append_left _ (List.mem_of_getElem? (i := 161) rfl)
theorem xm_162 : Cond.fieldLink R_MM 311 "SourceBackModel" "arraySize" "[I" ∈ wm := List.mem_append_left _ (List.mem_of_getElem? (i := 162) rfl)
theorem xm_163 : Cond.fieldLink R_MM 315 "SourceBackModel" "elements" "[J" ∈ wm := List.mem_append_left _ (List.mem_of_getElem? (i := 163) rfl)
theorem xm_164 : Cond.fieldLink R_MM 318 "SourceBackModel" "frames" "[I" ∈ wm := List.mem_append_left _ (List.mem_of_getElem? (i := 164) rfl)
theorem xm_165 : Cond.fieldLink R_MM 321 "SourceBackModel" "frameFile" "[I" ∈ wm := List.mem_append_left _ (List.mem_of_getElem? (i := 165) rfl)
theorem xm_166 : Cond.fieldLink R_MM 324 "SourceBackModel" "frameMember" "[I" ∈ wm := List.mem_append_left _ (List.mem_of_getElem? (i := 166) rfl)
theorem xm_167 : Cond.fieldLink R_MM 327 "SourceBackModel" "frameCode" "[LSourceBackModel$Member;" ∈ wm := List.mem_append_left _ (List.mem_of_getElem? (i := 167) rfl)
theorem xm_168 : Cond.fieldLink R_MM 331 "SourceBackModel" "frameAct" "[I" ∈ wm := List.mem_append_left _ (List.mem_of_getElem? (i := 168) rfl)
theorem xm_169 : Cond.fieldLink R_MM 334 "SourceBackModel" "frameHigh" "[I" ∈ wm := List.mem_append_left _ (List.mem_of_getElem? (i := 169) rfl)
theorem xm_170 : Cond.fieldLink R_MM 337 "SourceBackModel" "frameLocal" "[J" ∈ wm := List.mem_append_left _ (List.mem_of_getElem? (i := 170) rfl)
theorem xm_171 : Cond.fieldLink R_MM 340 "SourceBackModel" "framePile" "[J" ∈ wm := List.mem_append_left _ (List.mem_of_getElem? (i := 171) rfl)
theorem xm_172 : Cond.fieldLink R_MM 1476 "SourceBackModel" "side" "I" ∈ wm := List.mem_append_left _ (List.mem_of_getElem? (i := 172) rfl)
theorem xm_173 : Cond.fieldLink R_MM 1482 "SourceBackModel" "top" "I" ∈ wm := List.mem_append_left _ (List.mem_of_getElem? (i := 173) rfl)
theorem xm_174 : Cond.arrayClass FieldType.boolean ∈ wm := List.mem_append_left _ (List.mem_of_getElem? (i := 174) rfl)
theorem xm_175 : Cond.instanceMethod y_MM_thrown ∈ wm := List.mem_append_left _ (List.mem_of_getElem? (i := 175) rfl)
theorem xm_176 : Cond.selects R_MM y_MM_thrown y_MM_thrown ∈ wm := List.mem_append_left _ (List.mem_of_getElem? (i := 176) rfl)
theorem xm_177 : Cond.code y_MM_thrown b_MM_thrown 1 (some (.int)) ∈ wm := List.mem_append_left _ (List.mem_of_getElem? (i := 177) rfl)
theorem xm_178 : Cond.instanceMethod y_MM_feed ∈ wm := List.mem_append_left _ (List.mem_of_getElem? (i := 178) rfl)
theorem xm_179 : Cond.selects R_MM y_MM_feed y_MM_feed ∈ wm := List.mem_append_left _ (List.mem_of_getElem? (i := 179) rfl)
theorem xm_180 : Cond.code y_MM_feed b_MM_feed 4 (some (.int)) ∈ wm := List.mem_append_left _ (List.mem_of_getElem? (i := 180) rfl)
theorem xm_181 : Cond.constantLong R_MM 347 (8 : Int64) ∈ wm := List.mem_append_left _ (List.mem_of_getElem? (i := 181) rfl)
theorem xm_182 : Cond.methodLink R_MM 349 y_MM_in ∈ wm := List.mem_append_left _ (List.mem_of_getElem? (i := 182) rfl)
theorem xm_183 : Cond.static y_MM_in ∈ wm := List.mem_append_left _ (List.mem_of_getElem? (i := 183) rfl)
theorem xm_184 : Cond.code y_MM_in b_MM_in 6 (some (.boolean)) ∈ wm := List.mem_append_left _ (List.mem_of_getElem? (i := 184) rfl)
theorem xm_185 : Cond.constant R_MM 356 (65536 : Int32) ∈ wm := List.mem_append_left _ (List.mem_of_getElem? (i := 185) rfl)
theorem xm_186 : Cond.methodLink R_MM 357 y_MB_addLong ∈ wm := List.mem_append_left _ (List.mem_of_getElem? (i := 186) rfl)
theorem xm_187 : Cond.instanceMethod y_MB_addLong ∈ wm := List.mem_append_left _ (List.mem_of_getElem? (i := 187) rfl)
theorem xm_188 : Cond.selects R_MB y_MB_addLong y_MB_addLong ∈ wm := List.mem_append_left _ (List.mem_of_getElem? (i := 188) rfl)
theorem xm_189 : Cond.code y_MB_addLong b_MB_addLong 5 none ∈ wm := List.mem_append_left _ (List.mem_of_getElem? (i := 189) rfl)
theorem xm_190 : Cond.methodLink R_MB 17 y_MB_add ∈ wm := List.mem_append_left _ (List.mem_of_getElem? (i := 190) rfl)
theorem xm_191 : Cond.instanceMethod y_MB_add ∈ wm := List.mem_append_left _ (List.mem_of_getElem? (i := 191) rfl)
theorem xm_192 : Cond.selects R_MB y_MB_add y_MB_add ∈ wm := List.mem_append_left _ (List.mem_of_getElem? (i := 192) rfl)
theorem xm_193 : Cond.code y_MB_add b_MB_add 4 none ∈ wm := List.mem_append_left _ (List.mem_of_getElem? (i := 193) rfl)
theorem xm_194 : Cond.instanceMethod y_MM_take ∈ wm := List.mem_append_left _ (List.mem_of_getElem? (i := 194) rfl)
theorem xm_195 : Cond.selects R_MM y_MM_take y_MM_take ∈ wm := List.mem_append_left _ (List.mem_of_getElem? (i := 195) rfl)
theorem xm_196 : Cond.codeWith y_MM_take b_MM_take 3 (some (.int)) [(18, 126, 129, 7)] ∈ wm := List.mem_append_left _ (List.mem_of_getElem? (i := 196) rfl)
theorem xm_197 : Cond.methodLink R_MM 413 y_MM_newBox ∈ wm := List.mem_append_left _ (List.mem_of_getElem? (i := 197) rfl)
theorem xm_198 : Cond.instanceMethod y_MM_newBox ∈ wm := List.mem_append_left _ (List.mem_of_getElem? (i := 198) rfl)
theorem xm_199 : Cond.code y_MM_newBox b_MM_newBox 2 (some (.object "SourceBackModel$Box")) ∈ wm := List.mem_append_left _ (List.mem_of_getElem? (i := 199) rfl)
theorem xm_200 : Cond.methodLink R_MM 406 y_MX_clear ∈ wm := List.mem_append_left _ (List.mem_of_getElem? (i := 200) rfl)
theorem xm_201 : Cond.instanceMethod y_MX_clear ∈ wm := List.mem_append_left _ (List.mem_of_getElem? (i := 201) rfl)
theorem xm_202 : Cond.selects R_MX y_MX_clear y_MX_clear ∈ wm := List.mem_append_left _ (List.mem_of_getElem? (i := 202) rfl)
theorem xm_203 : Cond.code y_MX_clear b_MX_clear 1 none ∈ wm := List.mem_append_left _ (List.mem_of_getElem? (i := 203) rfl)
theorem xm_204 : Cond.methodLink R_MX 71 y_MX_add ∈ wm := List.mem_append_left _ (List.mem_of_getElem? (i := 204) rfl)
theorem xm_205 : Cond.instanceMethod y_MX_add ∈ wm := List.mem_append_left _ (List.mem_of_getElem? (i := 205) rfl)
theorem xm_206 : Cond.selects R_MX y_MX_add y_MX_add ∈ wm := List.mem_append_left _ (List.mem_of_getElem? (i := 206) rfl)
theorem xm_207 : Cond.code y_MX_add b_MX_add 2 (some (.int)) ∈ wm := List.mem_append_left _ (List.mem_of_getElem? (i := 207) rfl)
theorem xm_208 : Cond.methodLink R_MX 75 y_MI_add ∈ wm := List.mem_append_left _ (List.mem_of_getElem? (i := 208) rfl)
theorem xm_209 : Cond.instanceMethod y_MI_add ∈ wm := List.mem_append_left _ (List.mem_of_getElem? (i := 209) rfl)
theorem xm_210 : Cond.selects R_MI y_MI_add y_MI_add ∈ wm := List.mem_append_left _ (List.mem_of_getElem? (i := 210) rfl)
theorem xm_211 : Cond.code y_MI_add b_MI_add 4 none ∈ wm := List.mem_append_left _ (List.mem_of_getElem? (i := 211) rfl)
theorem xm_212 : Cond.methodLink R_MX 77 y_ML_add ∈ wm := List.mem_append_left _ (List.mem_of_getElem? (i := 212) rfl)
theorem xm_213 : Cond.instanceMethod y_ML_add ∈ wm := List.mem_append_left _ (List.mem_of_getElem? (i := 213) rfl)
theorem xm_214 : Cond.selects R_ML y_ML_add y_ML_add ∈ wm := List.mem_append_left _ (List.mem_of_getElem? (i := 214) rfl)
theorem xm_215 : Cond.code y_ML_add b_ML_add 5 none ∈ wm := List.mem_append_left _ (List.mem_of_getElem? (i := 215) rfl)
theorem xm_216 : Cond.instantiable R_MX 15 ∈ wm := List.mem_append_left _ (List.mem_of_getElem? (i := 216) rfl)
theorem xm_217 : Cond.instanceMethod y_MX_init ∈ wm := List.mem_append_left _ (List.mem_of_getElem? (i := 217) rfl)
theorem xm_218 : Cond.code y_MX_init b_MX_init 1 none ∈ wm := List.mem_append_left _ (List.mem_of_getElem? (i := 218) rfl)
theorem xm_219 : Cond.methodLink R_MX 3 objectInit ∈ wm := List.mem_append_left _ (List.mem_of_getElem? (i := 219) rfl)
theorem xm_220 : Cond.classLink R_MX 9 R_MB ∈ wm := List.mem_append_left _ (List.mem_of_getElem? (i := 220) rfl)
theorem xm_221 : Cond.classLink R_MX 18 R_MI ∈ wm := List.mem_append_left _ (List.mem_of_getElem? (i := 221) rfl)
theorem xm_222 : Cond.methodLink R_MX 20 y_MI_init ∈ wm := List.mem_append_left _ (List.mem_of_getElem? (i := 222) rfl)
theorem xm_223 : Cond.classLink R_MX 39 R_ML ∈ wm := List.mem_append_left _ (List.mem_of_getElem? (i := 223) rfl)
theorem xm_224 : Cond.methodLink R_MX 41 y_ML_init ∈ wm := List.mem_append_left _ (List.mem_of_getElem? (i := 224) rfl)
theorem xm_225 : Cond.classLink R_MX 52 R_MR ∈ wm := List.mem_append_left _ (List.mem_of_getElem? (i := 225) rfl)
theorem xm_226 : Cond.fieldLink R_MX 12 "SourceBackModel$Box" "bytes" "LSourceBackModel$Bytes;" ∈ wm := List.mem_append_left _ (List.mem_of_getElem? (i := 226) rfl)
theorem xm_227 : Cond.fieldLink R_MX 23 "SourceBackModel$Box" "tag" "LSourceBackModel$Ints;" ∈ wm := List.mem_append_left _ (List.mem_of_getElem? (i := 227) rfl)
theorem xm_228 : Cond.fieldLink R_MX 27 "SourceBackModel$Box" "word" "LSourceBackModel$Ints;" ∈ wm := List.mem_append_left _ (List.mem_of_getElem? (i := 228) rfl)
theorem xm_229 : Cond.fieldLink R_MX 30 "SourceBackModel$Box" "owner" "LSourceBackModel$Ints;" ∈ wm := List.mem_append_left _ (List.mem_of_getElem? (i := 229) rfl)
theorem xm_230 : Cond.fieldLink R_MX 33 "SourceBackModel$Box" "name" "LSourceBackModel$Ints;" ∈ wm := List.mem_append_left _ (List.mem_of_getElem? (i := 230) rfl)
theorem xm_231 : Cond.fieldLink R_MX 36 "SourceBackModel$Box" "sort" "LSourceBackModel$Ints;" ∈ wm := List.mem_append_left _ (List.mem_of_getElem? (i := 231) rfl)
theorem xm_232 : Cond.fieldLink R_MX 42 "SourceBackModel$Box" "number" "LSourceBackModel$Longs;" ∈ wm := List.mem_append_left _ (List.mem_of_getElem? (i := 232) rfl)
theorem xm_233 : Cond.fieldLink R_MX 46 "SourceBackModel$Box" "fields" "LSourceBackModel$Ints;" ∈ wm := List.mem_append_left _ (List.mem_of_getElem? (i := 233) rfl)
theorem xm_234 : Cond.fieldLink R_MX 49 "SourceBackModel$Box" "entryOf" "LSourceBackModel$Ints;" ∈ wm := List.mem_append_left _ (List.mem_of_getElem? (i := 234) rfl)
theorem xm_235 : Cond.fieldLink R_MX 54 "SourceBackModel$Box" "members" "[LSourceBackModel$Member;" ∈ wm := List.mem_append_left _ (List.mem_of_getElem? (i := 235) rfl)
theorem xm_236 : Cond.fieldLink R_MX 64 "SourceBackModel$Box" "memberCount" "I" ∈ wm := List.mem_append_left _ (List.mem_of_getElem? (i := 236) rfl)
theorem xm_237 : Cond.fieldLink R_MX 67 "SourceBackModel$Box" "hasMade" "Z" ∈ wm := List.mem_append_left _ (List.mem_of_getElem? (i := 237) rfl)
theorem xm_238 : Cond.methodLink R_MM 391 y_MM_must ∈ wm := List.mem_append_left _ (List.mem_of_getElem? (i := 238) rfl)
theorem xm_239 : Cond.instanceMethod y_MM_must ∈ wm := List.mem_append_left _ (List.mem_of_getElem? (i := 239) rfl)
theorem xm_240 : Cond.code y_MM_must b_MM_must 4 none ∈ wm := List.mem_append_left _ (List.mem_of_getElem? (i := 240) rfl)
theorem xm_241 : Cond.methodLink R_MM 383 y_MH_of ∈ wm := List.mem_append_left _ (List.mem_of_getElem? (i := 241) rfl)
theorem xm_242 : Cond.instanceMethod y_MH_of ∈ wm := List.mem_append_left _ (List.mem_of_getElem? (i := 242) rfl)
theorem xm_243 : Cond.selects R_MH y_MH_of y_MH_of ∈ wm := List.mem_append_left _ (List.mem_of_getElem? (i := 243) rfl)
theorem xm_244 : Cond.code y_MH_of b_MH_of 3 (some (.object "SourceBackModel$Halt")) ∈ wm := List.mem_append_left _ (List.mem_of_getElem? (i := 244) rfl)
theorem xm_245 : Cond.methodLink R_MM 421 y_MM_readsFile ∈ wm := List.mem_append_left _ (List.mem_of_getElem? (i := 245) rfl)
theorem xm_246 : Cond.instanceMethod y_MM_readsFile ∈ wm := List.mem_append_left _ (List.mem_of_getElem? (i := 246) rfl)
theorem xm_247 : Cond.code y_MM_readsFile b_MM_readsFile 5 none ∈ wm := List.mem_append_left _ (List.mem_of_getElem? (i := 247) rfl)
theorem xm_248 : Cond.methodLink R_MM 399 y_MM_reads ∈ wm := List.mem_append_left _ (List.mem_of_getElem? (i := 248) rfl)
theorem xm_249 : Cond.instanceMethod y_MM_reads ∈ wm := List.mem_append_left _ (List.mem_of_getElem? (i := 249) rfl)
theorem xm_250 : Cond.code y_MM_reads b_MM_reads 5 (some (.long)) ∈ wm := List.mem_append_left _ (List.mem_of_getElem? (i := 250) rfl)
theorem xm_251 : Cond.constantLong R_MM 450 (2953310494 : Int64) ∈ wm := List.mem_append_left _ (List.mem_of_getElem? (i := 251) rfl)
theorem xm_252 : Cond.constantLong R_MM 459 (9 : Int64) ∈ wm := List.mem_append_left _ (List.mem_of_getElem? (i := 252) rfl)
theorem xm_253 : Cond.constantLong R_MM 461 (2000 : Int64) ∈ wm := List.mem_append_left _ (List.mem_of_getElem? (i := 253) rfl)
theorem xm_254 : Cond.methodLink R_MM 367 y_MI_add ∈ wm := List.mem_append_left _ (List.mem_of_getElem? (i := 254) rfl)
theorem xm_255 : Cond.constantLong R_MM 580 (4000 : Int64) ∈ wm := List.mem_append_left _ (List.mem_of_getElem? (i := 255) rfl)
theorem xm_256 : Cond.instanceMethod y_MM_act_1 ∈ wm := List.mem_append_left _ (List.mem_of_getElem? (i := 256) rfl)
theorem xm_257 : Cond.code y_MM_act_1 b_MM_act_1 8 none ∈ wm := List.mem_append_left _ (List.mem_of_getElem? (i := 257) rfl)
theorem xm_258 : Cond.instanceMethod y_MM_member_0 ∈ wm := List.mem_append_left _ (List.mem_of_getElem? (i := 258) rfl)
theorem xm_259 : Cond.code y_MM_member_0 b_MM_member_0 6 (some (.int)) ∈ wm := List.mem_append_left _ (List.mem_of_getElem? (i := 259) rfl)
theorem xm_260 : Cond.methodLink R_MM 438 y_MM_settles ∈ wm := List.mem_append_left _ (List.mem_of_getElem? (i := 260) rfl)
theorem xm_261 : Cond.instanceMethod y_MM_settles ∈ wm := List.mem_append_left _ (List.mem_of_getElem? (i := 261) rfl)
theorem xm_262 : Cond.code y_MM_settles b_MM_settles 4 none ∈ wm := List.mem_append_left _ (List.mem_of_getElem? (i := 262) rfl)
theorem xm_263 : Cond.constantLong R_MM 1474 (-1 : Int64) ∈ wm := List.mem_append_left _ (List.mem_of_getElem? (i := 263) rfl)
theorem xm_264 : Cond.methodLink R_MM 441 y_MM_gives ∈ wm := List.mem_append_left _ (List.mem_of_getElem? (i := 264) rfl)
theorem xm_265 : Cond.instanceMethod y_MM_gives ∈ wm := List.mem_append_left _ (List.mem_of_getElem? (i := 265) rfl)
theorem xm_266 : Cond.code y_MM_gives b_MM_gives 2 none ∈ wm := List.mem_append_left _ (List.mem_of_getElem? (i := 266) rfl)
theorem xm_267 : Cond.instanceMethod y_MM_judge ∈ wm := List.mem_append_left _ (List.mem_of_getElem? (i := 267) rfl)
theorem xm_268 : Cond.selects R_MM y_MM_judge y_MM_judge ∈ wm := List.mem_append_left _ (List.mem_of_getElem? (i := 268) rfl)
theorem xm_269 : Cond.codeWith y_MM_judge b_MM_judge 4 (some (.int)) [(25, 47, 50, 7)] ∈ wm := List.mem_append_left _ (List.mem_of_getElem? (i := 269) rfl)
theorem xm_270 : Cond.instanceMethod y_MM_edit ∈ wm := List.mem_append_left _ (List.mem_of_getElem? (i := 270) rfl)
theorem xm_271 : Cond.selects R_MM y_MM_edit y_MM_edit ∈ wm := List.mem_append_left _ (List.mem_of_getElem? (i := 271) rfl)
theorem xm_272 : Cond.codeWith y_MM_edit b_MM_edit 6 (some (.int)) [(44, 142, 145, 7)] ∈ wm := List.mem_append_left _ (List.mem_of_getElem? (i := 272) rfl)
theorem xm_273 : Cond.instanceMethod y_MM_undo ∈ wm := List.mem_append_left _ (List.mem_of_getElem? (i := 273) rfl)
theorem xm_274 : Cond.selects R_MM y_MM_undo y_MM_undo ∈ wm := List.mem_append_left _ (List.mem_of_getElem? (i := 274) rfl)
theorem xm_275 : Cond.code y_MM_undo b_MM_undo 2 (some (.boolean)) ∈ wm := List.mem_append_left _ (List.mem_of_getElem? (i := 275) rfl)
theorem xm_276 : Cond.instanceMethod y_MM_pair ∈ wm := List.mem_append_left _ (List.mem_of_getElem? (i := 276) rfl)
theorem xm_277 : Cond.selects R_MM y_MM_pair y_MM_pair ∈ wm := List.mem_append_left _ (List.mem_of_getElem? (i := 277) rfl)
theorem xm_278 : Cond.code y_MM_pair b_MM_pair 7 (some (.int)) ∈ wm := List.mem_append_left _ (List.mem_of_getElem? (i := 278) rfl)
theorem xm_279 : Cond.methodLink R_MM 1468 y_MM_isMember ∈ wm := List.mem_append_left _ (List.mem_of_getElem? (i := 279) rfl)
theorem xm_280 : Cond.instanceMethod y_MM_isMember ∈ wm := List.mem_append_left _ (List.mem_of_getElem? (i := 280) rfl)
theorem xm_281 : Cond.code y_MM_isMember b_MM_isMember 3 (some (.boolean)) ∈ wm := List.mem_append_left _ (List.mem_of_getElem? (i := 281) rfl)
theorem xm_282 : Cond.instanceMethod y_MM_alike ∈ wm := List.mem_append_left _ (List.mem_of_getElem? (i := 282) rfl)
theorem xm_283 : Cond.selects R_MM y_MM_alike y_MM_alike ∈ wm := List.mem_append_left _ (List.mem_of_getElem? (i := 283) rfl)
theorem xm_284 : Cond.code y_MM_alike b_MM_alike 7 (some (.int)) ∈ wm := List.mem_append_left _ (List.mem_of_getElem? (i := 284) rfl)
theorem xm_285 : Cond.methodLink R_MM 1471 y_MM_pair ∈ wm := List.mem_append_left _ (List.mem_of_getElem? (i := 285) rfl)
theorem xm_286 : Cond.instanceMethod y_MM_settle ∈ wm := List.mem_append_left _ (List.mem_of_getElem? (i := 286) rfl)
theorem xm_287 : Cond.selects R_MM y_MM_settle y_MM_settle ∈ wm := List.mem_append_left _ (List.mem_of_getElem? (i := 287) rfl)
theorem xm_288 : Cond.code y_MM_settle b_MM_settle 1 none ∈ wm := List.mem_append_left _ (List.mem_of_getElem? (i := 288) rfl)
theorem xm_289 : Cond.instanceMethod y_MM_call ∈ wm := List.mem_append_left _ (List.mem_of_getElem? (i := 289) rfl)
theorem xm_290 : Cond.selects R_MM y_MM_call y_MM_call ∈ wm := List.mem_append_left _ (List.mem_of_getElem? (i := 290) rfl)
theorem xm_291 : Cond.code y_MM_call b_MM_call 13 (some (.boolean)) ∈ wm := List.mem_append_left _ (List.mem_of_getElem? (i := 291) rfl)
theorem xm_292 : Cond.constantLong R_MM 1494 (4 : Int64) ∈ wm := List.mem_append_left _ (List.mem_of_getElem? (i := 292) rfl)
theorem xm_293 : Cond.instanceMethod y_MM_steps ∈ wm := List.mem_append_left _ (List.mem_of_getElem? (i := 293) rfl)
theorem xm_294 : Cond.selects R_MM y_MM_steps y_MM_steps ∈ wm := List.mem_append_left _ (List.mem_of_getElem? (i := 294) rfl)
theorem xm_295 : Cond.code y_MM_steps b_MM_steps 4 (some (.int)) ∈ wm := List.mem_append_left _ (List.mem_of_getElem? (i := 295) rfl)
theorem xm_296 : Cond.instanceMethod y_MM_file ∈ wm := List.mem_append_left _ (List.mem_of_getElem? (i := 296) rfl)
theorem xm_297 : Cond.selects R_MM y_MM_file y_MM_file ∈ wm := List.mem_append_left _ (List.mem_of_getElem? (i := 297) rfl)
theorem xm_298 : Cond.code y_MM_file b_MM_file 4 (some (.int)) ∈ wm := List.mem_append_left _ (List.mem_of_getElem? (i := 298) rfl)
theorem xm_299 : Cond.instanceMethod y_MM_byteAt ∈ wm := List.mem_append_left _ (List.mem_of_getElem? (i := 299) rfl)
theorem xm_300 : Cond.selects R_MM y_MM_byteAt y_MM_byteAt ∈ wm := List.mem_append_left _ (List.mem_of_getElem? (i := 300) rfl)
theorem xm_301 : Cond.code y_MM_byteAt b_MM_byteAt 5 (some (.int)) ∈ wm := List.mem_append_left _ (List.mem_of_getElem? (i := 301) rfl)
theorem xm_302 : Cond.instanceMethod y_MM_entry ∈ wm := List.mem_append_left _ (List.mem_of_getElem? (i := 302) rfl)
theorem xm_303 : Cond.selects R_MM y_MM_entry y_MM_entry ∈ wm := List.mem_append_left _ (List.mem_of_getElem? (i := 303) rfl)
theorem xm_304 : Cond.code y_MM_entry b_MM_entry 8 (some (.long)) ∈ wm := List.mem_append_left _ (List.mem_of_getElem? (i := 304) rfl)
theorem xm_305 : Cond.instanceMethod y_MM_member_1 ∈ wm := List.mem_append_left _ (List.mem_of_getElem? (i := 305) rfl)
theorem xm_306 : Cond.selects R_MM y_MM_member_1 y_MM_member_1 ∈ wm := List.mem_append_left _ (List.mem_of_getElem? (i := 306) rfl)
theorem xm_307 : Cond.code y_MM_member_1 b_MM_member_1 5 (some (.int)) ∈ wm := List.mem_append_left _ (List.mem_of_getElem? (i := 307) rfl)
theorem xm_308 : Cond.instanceMethod y_MM_act_0 ∈ wm := List.mem_append_left _ (List.mem_of_getElem? (i := 308) rfl)
theorem xm_309 : Cond.selects R_MM y_MM_act_0 y_MM_act_0 ∈ wm := List.mem_append_left _ (List.mem_of_getElem? (i := 309) rfl)
theorem xm_310 : Cond.code y_MM_act_0 b_MM_act_0 7 (some (.int)) ∈ wm := List.mem_append_left _ (List.mem_of_getElem? (i := 310) rfl)
theorem xm_311 : Cond.instanceMethod y_MM_kind ∈ wm := List.mem_append_left _ (List.mem_of_getElem? (i := 311) rfl)
theorem xm_312 : Cond.selects R_MM y_MM_kind y_MM_kind ∈ wm := List.mem_append_left _ (List.mem_of_getElem? (i := 312) rfl)
theorem xm_313 : Cond.code y_MM_kind b_MM_kind 7 (some (.int)) ∈ wm := List.mem_append_left _ (List.mem_of_getElem? (i := 313) rfl)
theorem xm_314 : Cond.instanceMethod y_MM_block ∈ wm := List.mem_append_left _ (List.mem_of_getElem? (i := 314) rfl)
theorem xm_315 : Cond.selects R_MM y_MM_block y_MM_block ∈ wm := List.mem_append_left _ (List.mem_of_getElem? (i := 315) rfl)
theorem xm_316 : Cond.code y_MM_block b_MM_block 7 (some (.int)) ∈ wm := List.mem_append_left _ (List.mem_of_getElem? (i := 316) rfl)
theorem xm_317 : Cond.instanceMethod y_MM_text ∈ wm := List.mem_append_left _ (List.mem_of_getElem? (i := 317) rfl)
theorem xm_318 : Cond.selects R_MM y_MM_text y_MM_text ∈ wm := List.mem_append_left _ (List.mem_of_getElem? (i := 318) rfl)
theorem xm_319 : Cond.code y_MM_text b_MM_text 5 (some (.int)) ∈ wm := List.mem_append_left _ (List.mem_of_getElem? (i := 319) rfl)
theorem xm_320 : Cond.instanceMethod y_MM_state ∈ wm := List.mem_append_left _ (List.mem_of_getElem? (i := 320) rfl)
theorem xm_321 : Cond.selects R_MM y_MM_state y_MM_state ∈ wm := List.mem_append_left _ (List.mem_of_getElem? (i := 321) rfl)
theorem xm_322 : Cond.code y_MM_state b_MM_state 5 (some (.long)) ∈ wm := List.mem_append_left _ (List.mem_of_getElem? (i := 322) rfl)
theorem xm_323 : Cond.instanceMethod y_MM_field ∈ wm := List.mem_append_left _ (List.mem_of_getElem? (i := 323) rfl)
theorem xm_324 : Cond.selects R_MM y_MM_field y_MM_field ∈ wm := List.mem_append_left _ (List.mem_of_getElem? (i := 324) rfl)
theorem xm_325 : Cond.code y_MM_field b_MM_field 5 (some (.long)) ∈ wm := List.mem_append_left _ (List.mem_of_getElem? (i := 325) rfl)
theorem xm_326 : Cond.instanceMethod y_MM_element ∈ wm := List.mem_append_left _ (List.mem_of_getElem? (i := 326) rfl)
theorem xm_327 : Cond.selects R_MM y_MM_element y_MM_element ∈ wm := List.mem_append_left _ (List.mem_of_getElem? (i := 327) rfl)
theorem xm_328 : Cond.code y_MM_element b_MM_element 6 (some (.long)) ∈ wm := List.mem_append_left _ (List.mem_of_getElem? (i := 328) rfl)
theorem xm_329 : Cond.instanceMethod y_MM_count ∈ wm := List.mem_append_left _ (List.mem_of_getElem? (i := 329) rfl)
theorem xm_330 : Cond.selects R_MM y_MM_count y_MM_count ∈ wm := List.mem_append_left _ (List.mem_of_getElem? (i := 330) rfl)
theorem xm_331 : Cond.code y_MM_count b_MM_count 4 (some (.int)) ∈ wm := List.mem_append_left _ (List.mem_of_getElem? (i := 331) rfl)
theorem xm_332 : Cond.selects R_MM y_MM_must y_MM_must ∈ wm := List.mem_append_left _ (List.mem_of_getElem? (i := 332) rfl)
theorem xm_333 : Cond.selects R_MM y_MM_reads y_MM_reads ∈ wm := List.mem_append_left _ (List.mem_of_getElem? (i := 333) rfl)
theorem xm_334 : Cond.selects R_MM y_MM_newBox y_MM_newBox ∈ wm := List.mem_append_left _ (List.mem_of_getElem? (i := 334) rfl)
theorem xm_335 : Cond.selects R_MM y_MM_gives y_MM_gives ∈ wm := List.mem_append_left _ (List.mem_of_getElem? (i := 335) rfl)
theorem xm_336 : Cond.selects R_MM y_MM_readsFile y_MM_readsFile ∈ wm := List.mem_append_left _ (List.mem_of_getElem? (i := 336) rfl)
theorem xm_337 : Cond.selects R_MM y_MM_act_1 y_MM_act_1 ∈ wm := List.mem_append_left _ (List.mem_of_getElem? (i := 337) rfl)
theorem xm_338 : Cond.selects R_MM y_MM_member_0 y_MM_member_0 ∈ wm := List.mem_append_left _ (List.mem_of_getElem? (i := 338) rfl)
theorem xm_339 : Cond.selects R_MM y_MM_isMember y_MM_isMember ∈ wm := List.mem_append_left _ (List.mem_of_getElem? (i := 339) rfl)
theorem xm_340 : Cond.selects R_MM y_MM_settles y_MM_settles ∈ wm := List.mem_append_left _ (List.mem_of_getElem? (i := 340) rfl)
/-- links to private members of nest mates -/
def wm_n : List Cond := [.methodLinkNest R_MM 9 y_MH_init "SourceBackModel",
  .fieldLinkNest R_MM 444 "SourceBackModel$Halt" "number" "I" "SourceBackModel",
  .fieldLinkNest R_MM 447 "SourceBackModel$Halt" "place" "I" "SourceBackModel",
  .methodLinkNest R_MM 18 y_MB_init "SourceBackModel",
  .fieldLinkNest R_MM 365 "SourceBackModel$Bytes" "a" "[B" "SourceBackModel",
  .fieldLinkNest R_MX 58 "SourceBackModel$Bytes" "size" "I" "SourceBackModel",
  .fieldLinkNest R_MM 353 "SourceBackModel$Bytes" "size" "I" "SourceBackModel",
  .fieldLinkNest R_MM 362 "SourceBackModel$Ints" "a" "[I" "SourceBackModel",
  .fieldLinkNest R_MX 62 "SourceBackModel$Ints" "size" "I" "SourceBackModel",
  .fieldLinkNest R_MM 361 "SourceBackModel$Ints" "size" "I" "SourceBackModel",
  .fieldLinkNest R_MM 525 "SourceBackModel$Longs" "a" "[J" "SourceBackModel",
  .fieldLinkNest R_MX 63 "SourceBackModel$Longs" "size" "I" "SourceBackModel",
  .fieldLinkNest R_MM 561 "SourceBackModel$Member" "name" "I" "SourceBackModel",
  .fieldLinkNest R_MM 563 "SourceBackModel$Member" "sign" "I" "SourceBackModel",
  .fieldLinkNest R_MM 570 "SourceBackModel$Member" "locals" "I" "SourceBackModel",
  .fieldLinkNest R_MM 489 "SourceBackModel$Member" "pile" "I" "SourceBackModel",
  .fieldLinkNest R_MM 578 "SourceBackModel$Member" "bytes" "I" "SourceBackModel",
  .fieldLinkNest R_MM 643 "SourceBackModel$Member" "at" "LSourceBackModel$Ints;" "SourceBackModel",
  .fieldLinkNest R_MM 637 "SourceBackModel$Member" "op" "LSourceBackModel$Ints;" "SourceBackModel",
  .fieldLinkNest R_MM 1377 "SourceBackModel$Member" "text" "LSourceBackModel$Bytes;" "SourceBackModel",
  .fieldLinkNest R_MM 1355 "SourceBackModel$Member" "remade" "I" "SourceBackModel",
  .fieldLinkNest R_MM 1368 "SourceBackModel$Member" "reached" "I" "SourceBackModel",
  .fieldLinkNest R_MM 1371 "SourceBackModel$Member" "blockCount" "I" "SourceBackModel",
  .fieldLinkNest R_MM 1374 "SourceBackModel$Member" "isKnotted" "Z" "SourceBackModel",
  .methodLinkNest R_MM 409 y_MX_init "SourceBackModel",
  .methodLinkNest R_MX 11 y_MB_init "SourceBackModel",
  .fieldLinkNest R_MM 424 "SourceBackModel$Box" "bytes" "LSourceBackModel$Bytes;" "SourceBackModel",
  .fieldLinkNest R_MM 456 "SourceBackModel$Box" "version" "I" "SourceBackModel",
  .fieldLinkNest R_MM 469 "SourceBackModel$Box" "nameEntry" "I" "SourceBackModel",
  .fieldLinkNest R_MM 541 "SourceBackModel$Box" "tag" "LSourceBackModel$Ints;" "SourceBackModel",
  .fieldLinkNest R_MM 517 "SourceBackModel$Box" "word" "LSourceBackModel$Ints;" "SourceBackModel",
  .fieldLinkNest R_MM 531 "SourceBackModel$Box" "owner" "LSourceBackModel$Ints;" "SourceBackModel",
  .fieldLinkNest R_MM 534 "SourceBackModel$Box" "name" "LSourceBackModel$Ints;" "SourceBackModel",
  .fieldLinkNest R_MM 527 "SourceBackModel$Box" "sort" "LSourceBackModel$Ints;" "SourceBackModel",
  .fieldLinkNest R_MM 523 "SourceBackModel$Box" "number" "LSourceBackModel$Longs;" "SourceBackModel",
  .fieldLinkNest R_MM 553 "SourceBackModel$Box" "fields" "LSourceBackModel$Ints;" "SourceBackModel",
  .fieldLinkNest R_MM 582 "SourceBackModel$Box" "entryOf" "LSourceBackModel$Ints;" "SourceBackModel",
  .fieldLinkNest R_MM 482 "SourceBackModel$Box" "members" "[LSourceBackModel$Member;" "SourceBackModel",
  .fieldLinkNest R_MM 558 "SourceBackModel$Box" "memberCount" "I" "SourceBackModel",
  .fieldLinkNest R_MM 1447 "SourceBackModel$Box" "hasMade" "Z" "SourceBackModel",
  .fieldLinkNest R_MM 1450 "SourceBackModel$Box" "made" "LSourceBackModel$Box;" "SourceBackModel"]
theorem zm_0 : Cond.methodLinkNest R_MM 9 y_MH_init "SourceBackModel" ∈ wm_n := List.mem_of_getElem? (i := 0) rfl
theorem zm_1 : Cond.fieldLinkNest R_MM 444 "SourceBackModel$Halt" "number" "I" "SourceBackModel" ∈ wm_n := List.mem_of_getElem? (i := 1) rfl
theorem zm_2 : Cond.fieldLinkNest R_MM 447 "SourceBackModel$Halt" "place" "I" "SourceBackModel" ∈ wm_n := List.mem_of_getElem? (i := 2) rfl
theorem zm_3 : Cond.methodLinkNest R_MM 18 y_MB_init "SourceBackModel" ∈ wm_n := List.mem_of_getElem? (i := 3) rfl
theorem zm_4 : Cond.fieldLinkNest R_MM 365 "SourceBackModel$Bytes" "a" "[B" "SourceBackModel" ∈ wm_n := List.mem_of_getElem? (i := 4) rfl
theorem zm_5 : Cond.fieldLinkNest R_MX 58 "SourceBackModel$Bytes" "size" "I" "SourceBackModel" ∈ wm_n := List.mem_of_getElem? (i := 5) rfl
theorem zm_6 : Cond.fieldLinkNest R_MM 353 "SourceBackModel$Bytes" "size" "I" "SourceBackModel" ∈ wm_n := List.mem_of_getElem? (i := 6) rfl
theorem zm_7 : Cond.fieldLinkNest R_MM 362 "SourceBackModel$Ints" "a" "[I" "SourceBackModel" ∈ wm_n := List.mem_of_getElem? (i := 7) rfl
theorem zm_8 : Cond.fieldLinkNest R_MX 62 "SourceBackModel$Ints" "size" "I" "SourceBackModel" ∈ wm_n := List.mem_of_getElem? (i := 8) rfl
theorem zm_9 : Cond.fieldLinkNest R_MM 361 "SourceBackModel$Ints" "size" "I" "SourceBackModel" ∈ wm_n := List.mem_of_getElem? (i := 9) rfl
theorem zm_10 : Cond.fieldLinkNest R_MM 525 "SourceBackModel$Longs" "a" "[J" "SourceBackModel" ∈ wm_n := List.mem_of_getElem? (i := 10) rfl
theorem zm_11 : Cond.fieldLinkNest R_MX 63 "SourceBackModel$Longs" "size" "I" "SourceBackModel" ∈ wm_n := List.mem_of_getElem? (i := 11) rfl
theorem zm_12 : Cond.fieldLinkNest R_MM 561 "SourceBackModel$Member" "name" "I" "SourceBackModel" ∈ wm_n := List.mem_of_getElem? (i := 12) rfl
theorem zm_13 : Cond.fieldLinkNest R_MM 563 "SourceBackModel$Member" "sign" "I" "SourceBackModel" ∈ wm_n := List.mem_of_getElem? (i := 13) rfl
theorem zm_14 : Cond.fieldLinkNest R_MM 570 "SourceBackModel$Member" "locals" "I" "SourceBackModel" ∈ wm_n := List.mem_of_getElem? (i := 14) rfl
theorem zm_15 : Cond.fieldLinkNest R_MM 489 "SourceBackModel$Member" "pile" "I" "SourceBackModel" ∈ wm_n := List.mem_of_getElem? (i := 15) rfl
theorem zm_16 : Cond.fieldLinkNest R_MM 578 "SourceBackModel$Member" "bytes" "I" "SourceBackModel" ∈ wm_n := List.mem_of_getElem? (i := 16) rfl
theorem zm_17 : Cond.fieldLinkNest R_MM 643 "SourceBackModel$Member" "at" "LSourceBackModel$Ints;" "SourceBackModel" ∈ wm_n := List.mem_of_getElem? (i := 17) rfl
theorem zm_18 : Cond.fieldLinkNest R_MM 637 "SourceBackModel$Member" "op" "LSourceBackModel$Ints;" "SourceBackModel" ∈ wm_n := List.mem_of_getElem? (i := 18) rfl
theorem zm_19 : Cond.fieldLinkNest R_MM 1377 "SourceBackModel$Member" "text" "LSourceBackModel$Bytes;" "SourceBackModel" ∈ wm_n := List.mem_of_getElem? (i := 19) rfl
theorem zm_20 : Cond.fieldLinkNest R_MM 1355 "SourceBackModel$Member" "remade" "I" "SourceBackModel" ∈ wm_n := List.mem_of_getElem? (i := 20) rfl
theorem zm_21 : Cond.fieldLinkNest R_MM 1368 "SourceBackModel$Member" "reached" "I" "SourceBackModel" ∈ wm_n := List.mem_of_getElem? (i := 21) rfl
theorem zm_22 : Cond.fieldLinkNest R_MM 1371 "SourceBackModel$Member" "blockCount" "I" "SourceBackModel" ∈ wm_n := List.mem_of_getElem? (i := 22) rfl
theorem zm_23 : Cond.fieldLinkNest R_MM 1374 "SourceBackModel$Member" "isKnotted" "Z" "SourceBackModel" ∈ wm_n := List.mem_of_getElem? (i := 23) rfl
theorem zm_24 : Cond.methodLinkNest R_MM 409 y_MX_init "SourceBackModel" ∈ wm_n := List.mem_of_getElem? (i := 24) rfl
theorem zm_25 : Cond.methodLinkNest R_MX 11 y_MB_init "SourceBackModel" ∈ wm_n := List.mem_of_getElem? (i := 25) rfl
theorem zm_26 : Cond.fieldLinkNest R_MM 424 "SourceBackModel$Box" "bytes" "LSourceBackModel$Bytes;" "SourceBackModel" ∈ wm_n := List.mem_of_getElem? (i := 26) rfl
theorem zm_27 : Cond.fieldLinkNest R_MM 456 "SourceBackModel$Box" "version" "I" "SourceBackModel" ∈ wm_n := List.mem_of_getElem? (i := 27) rfl
theorem zm_28 : Cond.fieldLinkNest R_MM 469 "SourceBackModel$Box" "nameEntry" "I" "SourceBackModel" ∈ wm_n := List.mem_of_getElem? (i := 28) rfl
theorem zm_29 : Cond.fieldLinkNest R_MM 541 "SourceBackModel$Box" "tag" "LSourceBackModel$Ints;" "SourceBackModel" ∈ wm_n := List.mem_of_getElem? (i := 29) rfl
theorem zm_30 : Cond.fieldLinkNest R_MM 517 "SourceBackModel$Box" "word" "LSourceBackModel$Ints;" "SourceBackModel" ∈ wm_n := List.mem_of_getElem? (i := 30) rfl
theorem zm_31 : Cond.fieldLinkNest R_MM 531 "SourceBackModel$Box" "owner" "LSourceBackModel$Ints;" "SourceBackModel" ∈ wm_n := List.mem_of_getElem? (i := 31) rfl
theorem zm_32 : Cond.fieldLinkNest R_MM 534 "SourceBackModel$Box" "name" "LSourceBackModel$Ints;" "SourceBackModel" ∈ wm_n := List.mem_of_getElem? (i := 32) rfl
theorem zm_33 : Cond.fieldLinkNest R_MM 527 "SourceBackModel$Box" "sort" "LSourceBackModel$Ints;" "SourceBackModel" ∈ wm_n := List.mem_of_getElem? (i := 33) rfl
theorem zm_34 : Cond.fieldLinkNest R_MM 523 "SourceBackModel$Box" "number" "LSourceBackModel$Longs;" "SourceBackModel" ∈ wm_n := List.mem_of_getElem? (i := 34) rfl
theorem zm_35 : Cond.fieldLinkNest R_MM 553 "SourceBackModel$Box" "fields" "LSourceBackModel$Ints;" "SourceBackModel" ∈ wm_n := List.mem_of_getElem? (i := 35) rfl
theorem zm_36 : Cond.fieldLinkNest R_MM 582 "SourceBackModel$Box" "entryOf" "LSourceBackModel$Ints;" "SourceBackModel" ∈ wm_n := List.mem_of_getElem? (i := 36) rfl
theorem zm_37 : Cond.fieldLinkNest R_MM 482 "SourceBackModel$Box" "members" "[LSourceBackModel$Member;" "SourceBackModel" ∈ wm_n := List.mem_of_getElem? (i := 37) rfl
theorem zm_38 : Cond.fieldLinkNest R_MM 558 "SourceBackModel$Box" "memberCount" "I" "SourceBackModel" ∈ wm_n := List.mem_of_getElem? (i := 38) rfl
theorem zm_39 : Cond.fieldLinkNest R_MM 1447 "SourceBackModel$Box" "hasMade" "Z" "SourceBackModel" ∈ wm_n := List.mem_of_getElem? (i := 39) rfl
theorem zm_40 : Cond.fieldLinkNest R_MM 1450 "SourceBackModel$Box" "made" "LSourceBackModel$Box;" "SourceBackModel" ∈ wm_n := List.mem_of_getElem? (i := 40) rfl
def ax_isN : Cond → Bool
  | .fieldLinkNest .. => true
  | .methodLinkNest .. => true
  | _ => false
def wm_ao : List String := ["SourceBackModel$Box", "java/lang/String", "SourceBackModel$Member"]
def mK (dC : Nat → ClassId) (dI : Nat → Nat → Nat) (ca : Nat → ClassId) (U : State) : Prop := va_K (dC, dI) classes (ax_tys ca) U ∧ (∀ w ∈ wm_n, va_Nw w U) ∧ ∀ C ∈ wm_ao, va_AO C U
theorem ax_warmN {w : Cond} (hw : ax_isN w = true) {s U : State} (hW : s.WarmedH U.vm) (h : va_Nw w s) : va_Nw w U := by
  cases w <;> first | exact va_Nw.warmF hW h | exact va_Nw.warmM hW h | cases hw
theorem ax_onN {w : Cond} (hw : ax_isN w = true) : w.onTables = true := by cases w <;> first | rfl | cases hw
theorem wm_n_ok : ∀ w ∈ wm_n, ax_isN w = true := fun w h => List.all_eq_true.mp (by decide +kernel : wm_n.all ax_isN = true) w h
theorem mK_bl (dC : Nat → ClassId) (dI : Nat → Nat → Nat) (ca : Nat → ClassId) : ax_bl (mK dC dI ca) :=
  fun U g mk a h => ⟨va_K.moved (u := U) (U := U.calling g mk a) (Vm.Alike.refl U.vm) h.1, fun w hw => va_Nw.same (u := U) (U := U.calling g mk a) (ax_onN (wm_n_ok w hw)) rfl (h.2.1 w hw), fun C hC => va_AO.moved (u := U) (U := U.calling g mk a) (Vm.Alike.refl U.vm) (h.2.2 C hC)⟩
theorem mK_up {dC : Nat → ClassId} {dI : Nat → Nat → Nat} {ca : Nat → ClassId} {s : State} {H : Heap} (h : mK dC dI ca s) : ∀ U : State, U.heap = H → s.WarmedH U.vm → mK dC dI ca U :=
  fun U _ hW => ⟨va_K.moved hW.alike h.1, fun w hw => ax_warmN (wm_n_ok w hw) hW (h.2.1 w hw), fun C hC => va_AO.moved hW.alike (h.2.2 C hC)⟩
end
section
theorem d_MI_init_0 : decode b_MI_init 0 = .ok (.aload_n 0, 1) := by decide +kernel
theorem d_MI_init_1 : decode b_MI_init 1 = .ok (.invokespecial 1, 3) := by decide +kernel
theorem d_MI_init_4 : decode b_MI_init 4 = .ok (.aload_n 0, 1) := by decide +kernel
theorem d_MI_init_5 : decode b_MI_init 5 = .ok (.iload_n 1, 1) := by decide +kernel
theorem d_MI_init_6 : decode b_MI_init 6 = .ok (.iconst 4, 1) := by decide +kernel
theorem d_MI_init_7 : decode b_MI_init 7 = .ok (.if_icmp .ge 7, 3) := by decide +kernel
theorem d_MI_init_14 : decode b_MI_init 14 = .ok (.iload_n 1, 1) := by decide +kernel
theorem d_MI_init_15 : decode b_MI_init 15 = .ok (.newarray .int, 2) := by decide +kernel
theorem d_MI_init_17 : decode b_MI_init 17 = .ok (.putfield 7, 3) := by decide +kernel
theorem d_MI_init_20 : decode b_MI_init 20 = .ok (.return_, 1) := by decide +kernel
set_option maxHeartbeats 4000000 in
set_option maxRecDepth 100000 in
theorem c_MI_init (l : Launch) (dC : Nat → ClassId) (dI : Nat → Nat → Nat) (ca : Nat → ClassId) (h0 : Nat) : CT l classes (dC, dI) (mK dC dI ca) wm y_MI_init b_MI_init 2 none 1 12 1 4 [.ref h0, .int 4] [(h0, .inr (3, [.null, .int 0]))] (fun (v : Option Value) (_ : Nat) => v = none) (fun (q_1 : Nat) => [(h0, .inr (3, [.ref q_1, .int 0])), (q_1, .inl (ca 1, 4, .inl (fun _ => 0)))]) := by
  refine ax_of (by decide) (Nat.le_of_ble_eq_true rfl) ?_
  intro p e s m below meth c A ls hAt hK hP hD hS hA hl
  obtain ⟨hx, hb, hr, hml, hown, hts, hlocks, hin⟩ := hAt
  have hin : meth.name = "<init>" := hin
  have hl : lv_has ls 2 [(0, .ref h0), (1, .int 4)] := hl
  refine lv_aload_n hx hb d_MI_init_0 rfl (lv_at hl 0 rfl) ?_
  refine W.objInit hx hb hown (hts _ xm_37) (hts _ xm_8) (hts _ xm_9) rfl (by rw [hml]; exact hl.1) rfl d_MI_init_1 (Nat.le_of_ble_eq_true rfl) (Nat.le_of_ble_eq_true rfl) ?_
  refine W.eq (g2 := F0 m 4 ls []) rfl ?_
  refine lv_aload_n hx hb d_MI_init_4 rfl (lv_at hl 0 rfl) ?_
  refine lv_iload_n hx hb d_MI_init_5 rfl (lv_at hl 1 rfl) ?_
  refine lv_iconst (v := 4) hx hb d_MI_init_6 (by decide) ?_
  refine lv_icmp_ge (tgt := 14) hx hb d_MI_init_7 (by decide) (fun _ => ?_) (fun h => absurd (by decide) h)
  refine lv_iload_n hx hb d_MI_init_14 rfl (lv_at hl 1 rfl) ?_
  refine ax_newa (atype := .int) (ty := .int) (n := 4) (N' := 4) (a0 := (4, .inl (fun _ => 0))) hx hb (hts _ xm_11) rfl hK.1 1 rfl (fun C h => by cases h) hP hD hS hA (fun _ => rfl) (by decide +kernel) (by decide +kernel) (by decide +kernel) (Nat.le_of_ble_eq_true rfl) (Nat.le_of_ble_eq_true rfl) d_MI_init_15 (fun q_1 H hP hD hS => ?_)
  have hP : va_P (dC, dI) classes [(h0, .inr (3, [.null, .int 0])), (q_1, .inl (ca 1, 4, .inl (fun _ => 0)))] H := hP
  have hD : va_D A [(h0, .inr (3, [.null, .int 0])), (q_1, .inl (ca 1, 4, .inl (fun _ => 0)))] := hD
  refine W.widen (k := 1) (n := 4) (Nat.le_of_ble_eq_true rfl) (Nat.le_of_ble_eq_true rfl) ?_
  refine va_put (D := (dC, dI)) (ci := 3) (v := .ref q_1) (ty := .array (.int)) (C := R_MI) (T := F_MI) (N := 2) hx hb hts i_MI t_MI t_MI_ok n_MI hown hK.1 hP hD hS 0 rfl rfl 0 (by decide) (hts _ xm_38) (fun _ h9 => h9) rfl (by decide +kernel) rfl rfl (Nat.le_of_ble_eq_true rfl) d_MI_init_17 (fun H locs hP hD hS => ?_)
  have hP : va_P (dC, dI) classes [(h0, .inr (3, [.ref q_1, .int 0])), (q_1, .inl (ca 1, 4, .inl (fun _ => 0)))] H := hP
  have hD : va_D A [(h0, .inr (3, [.ref q_1, .int 0])), (q_1, .inl (ca 1, 4, .inl (fun _ => 0)))] := hD
  exact ax_vret hx hb hr hlocks hP hD hS q_1 rfl [0, 1] rfl (by decide) rfl (Nat.le_of_ble_eq_true rfl) (Nat.le_of_ble_eq_true rfl) d_MI_init_20
theorem d_ML_init_0 : decode b_ML_init 0 = .ok (.aload_n 0, 1) := by decide +kernel
theorem d_ML_init_1 : decode b_ML_init 1 = .ok (.invokespecial 1, 3) := by decide +kernel
theorem d_ML_init_4 : decode b_ML_init 4 = .ok (.aload_n 0, 1) := by decide +kernel
theorem d_ML_init_5 : decode b_ML_init 5 = .ok (.iload_n 1, 1) := by decide +kernel
theorem d_ML_init_6 : decode b_ML_init 6 = .ok (.iconst 4, 1) := by decide +kernel
theorem d_ML_init_7 : decode b_ML_init 7 = .ok (.if_icmp .ge 7, 3) := by decide +kernel
theorem d_ML_init_14 : decode b_ML_init 14 = .ok (.iload_n 1, 1) := by decide +kernel
theorem d_ML_init_15 : decode b_ML_init 15 = .ok (.newarray .long, 2) := by decide +kernel
theorem d_ML_init_17 : decode b_ML_init 17 = .ok (.putfield 7, 3) := by decide +kernel
theorem d_ML_init_20 : decode b_ML_init 20 = .ok (.return_, 1) := by decide +kernel
set_option maxHeartbeats 4000000 in
set_option maxRecDepth 100000 in
theorem c_ML_init (l : Launch) (dC : Nat → ClassId) (dI : Nat → Nat → Nat) (ca : Nat → ClassId) (h0 : Nat) : CT l classes (dC, dI) (mK dC dI ca) wm y_ML_init b_ML_init 2 none 1 12 1 4 [.ref h0, .int 4] [(h0, .inr (4, [.null, .int 0]))] (fun (v : Option Value) (_ : Nat) => v = none) (fun (q_1 : Nat) => [(h0, .inr (4, [.ref q_1, .int 0])), (q_1, .inl (ca 2, 4, .inr (.inl (fun _ => 0))))]) := by
  refine ax_of (by decide) (Nat.le_of_ble_eq_true rfl) ?_
  intro p e s m below meth c A ls hAt hK hP hD hS hA hl
  obtain ⟨hx, hb, hr, hml, hown, hts, hlocks, hin⟩ := hAt
  have hin : meth.name = "<init>" := hin
  have hl : lv_has ls 2 [(0, .ref h0), (1, .int 4)] := hl
  refine lv_aload_n hx hb d_ML_init_0 rfl (lv_at hl 0 rfl) ?_
  refine W.objInit hx hb hown (hts _ xm_54) (hts _ xm_8) (hts _ xm_9) rfl (by rw [hml]; exact hl.1) rfl d_ML_init_1 (Nat.le_of_ble_eq_true rfl) (Nat.le_of_ble_eq_true rfl) ?_
  refine W.eq (g2 := F0 m 4 ls []) rfl ?_
  refine lv_aload_n hx hb d_ML_init_4 rfl (lv_at hl 0 rfl) ?_
  refine lv_iload_n hx hb d_ML_init_5 rfl (lv_at hl 1 rfl) ?_
  refine lv_iconst (v := 4) hx hb d_ML_init_6 (by decide) ?_
  refine lv_icmp_ge (tgt := 14) hx hb d_ML_init_7 (by decide) (fun _ => ?_) (fun h => absurd (by decide) h)
  refine lv_iload_n hx hb d_ML_init_14 rfl (lv_at hl 1 rfl) ?_
  refine ax_newa (atype := .long) (ty := .long) (n := 4) (N' := 4) (a0 := (4, .inr (.inl (fun _ => 0)))) hx hb (hts _ xm_12) rfl hK.1 2 rfl (fun C h => by cases h) hP hD hS hA (fun _ => rfl) (by decide +kernel) (by decide +kernel) (by decide +kernel) (Nat.le_of_ble_eq_true rfl) (Nat.le_of_ble_eq_true rfl) d_ML_init_15 (fun q_1 H hP hD hS => ?_)
  have hP : va_P (dC, dI) classes [(h0, .inr (4, [.null, .int 0])), (q_1, .inl (ca 2, 4, .inr (.inl (fun _ => 0))))] H := hP
  have hD : va_D A [(h0, .inr (4, [.null, .int 0])), (q_1, .inl (ca 2, 4, .inr (.inl (fun _ => 0))))] := hD
  refine W.widen (k := 1) (n := 4) (Nat.le_of_ble_eq_true rfl) (Nat.le_of_ble_eq_true rfl) ?_
  refine va_put (D := (dC, dI)) (ci := 4) (v := .ref q_1) (ty := .array (.long)) (C := R_ML) (T := F_ML) (N := 2) hx hb hts i_ML t_ML t_ML_ok n_ML hown hK.1 hP hD hS 0 rfl rfl 0 (by decide) (hts _ xm_55) (fun _ h9 => h9) rfl (by decide +kernel) rfl rfl (Nat.le_of_ble_eq_true rfl) d_ML_init_17 (fun H locs hP hD hS => ?_)
  have hP : va_P (dC, dI) classes [(h0, .inr (4, [.ref q_1, .int 0])), (q_1, .inl (ca 2, 4, .inr (.inl (fun _ => 0))))] H := hP
  have hD : va_D A [(h0, .inr (4, [.ref q_1, .int 0])), (q_1, .inl (ca 2, 4, .inr (.inl (fun _ => 0))))] := hD
  exact ax_vret hx hb hr hlocks hP hD hS q_1 rfl [0, 1] rfl (by decide) rfl (Nat.le_of_ble_eq_true rfl) (Nat.le_of_ble_eq_true rfl) d_ML_init_20
theorem d_MB_init_0 : decode b_MB_init 0 = .ok (.aload_n 0, 1) := by decide +kernel
theorem d_MB_init_1 : decode b_MB_init 1 = .ok (.invokespecial 1, 3) := by decide +kernel
theorem d_MB_init_4 : decode b_MB_init 4 = .ok (.aload_n 0, 1) := by decide +kernel
theorem d_MB_init_5 : decode b_MB_init 5 = .ok (.bipush 16, 2) := by decide +kernel
theorem d_MB_init_7 : decode b_MB_init 7 = .ok (.newarray .byte, 2) := by decide +kernel
theorem d_MB_init_9 : decode b_MB_init 9 = .ok (.putfield 7, 3) := by decide +kernel
theorem d_MB_init_12 : decode b_MB_init 12 = .ok (.return_, 1) := by decide +kernel
set_option maxHeartbeats 4000000 in
set_option maxRecDepth 100000 in
theorem c_MB_init (l : Launch) (dC : Nat → ClassId) (dI : Nat → Nat → Nat) (ca : Nat → ClassId) (h0 : Nat) : CT l classes (dC, dI) (mK dC dI ca) wm y_MB_init b_MB_init 1 none 1 12 1 16 [.ref h0] [(h0, .inr (2, [.null, .int 0]))] (fun (v : Option Value) (_ : Nat) => v = none) (fun (q_1 : Nat) => [(h0, .inr (2, [.ref q_1, .int 0])), (q_1, .inl (ca 0, 16, .inl (fun _ => 0)))]) := by
  refine ax_of (by decide) (Nat.le_of_ble_eq_true rfl) ?_
  intro p e s m below meth c A ls hAt hK hP hD hS hA hl
  obtain ⟨hx, hb, hr, hml, hown, hts, hlocks, hin⟩ := hAt
  have hin : meth.name = "<init>" := hin
  have hl : lv_has ls 1 [(0, .ref h0)] := hl
  refine lv_aload_n hx hb d_MB_init_0 rfl (lv_at hl 0 rfl) ?_
  refine W.objInit hx hb hown (hts _ xm_29) (hts _ xm_8) (hts _ xm_9) rfl (by rw [hml]; exact hl.1) rfl d_MB_init_1 (Nat.le_of_ble_eq_true rfl) (Nat.le_of_ble_eq_true rfl) ?_
  refine W.eq (g2 := F0 m 4 ls []) rfl ?_
  refine lv_aload_n hx hb d_MB_init_4 rfl (lv_at hl 0 rfl) ?_
  refine lv_bipush (v := 16) hx hb d_MB_init_5 (by decide +kernel) ?_
  refine ax_newa (atype := .byte) (ty := .byte) (n := 16) (N' := 16) (a0 := (16, .inl (fun _ => 0))) hx hb (hts _ xm_10) rfl hK.1 0 rfl (fun C h => by cases h) hP hD hS hA (fun _ => rfl) (by decide +kernel) (by decide +kernel) (by decide +kernel) (Nat.le_of_ble_eq_true rfl) (Nat.le_of_ble_eq_true rfl) d_MB_init_7 (fun q_1 H hP hD hS => ?_)
  have hP : va_P (dC, dI) classes [(h0, .inr (2, [.null, .int 0])), (q_1, .inl (ca 0, 16, .inl (fun _ => 0)))] H := hP
  have hD : va_D A [(h0, .inr (2, [.null, .int 0])), (q_1, .inl (ca 0, 16, .inl (fun _ => 0)))] := hD
  refine W.widen (k := 1) (n := 16) (Nat.le_of_ble_eq_true rfl) (Nat.le_of_ble_eq_true rfl) ?_
  refine va_put (D := (dC, dI)) (ci := 2) (v := .ref q_1) (ty := .array (.byte)) (C := R_MB) (T := F_MB) (N := 2) hx hb hts i_MB t_MB t_MB_ok n_MB hown hK.1 hP hD hS 0 rfl rfl 0 (by decide) (hts _ xm_30) (fun _ h9 => h9) rfl (by decide +kernel) rfl rfl (Nat.le_of_ble_eq_true rfl) d_MB_init_9 (fun H locs hP hD hS => ?_)
  have hP : va_P (dC, dI) classes [(h0, .inr (2, [.ref q_1, .int 0])), (q_1, .inl (ca 0, 16, .inl (fun _ => 0)))] H := hP
  have hD : va_D A [(h0, .inr (2, [.ref q_1, .int 0])), (q_1, .inl (ca 0, 16, .inl (fun _ => 0)))] := hD
  exact ax_vret hx hb hr hlocks hP hD hS q_1 rfl [0, 1] rfl (by decide) rfl (Nat.le_of_ble_eq_true rfl) (Nat.le_of_ble_eq_true rfl) d_MB_init_12
end
section
theorem d_MR_init_0 : decode b_MR_init 0 = .ok (.aload_n 0, 1) := by decide +kernel
theorem d_MR_init_1 : decode b_MR_init 1 = .ok (.invokespecial 3, 3) := by decide +kernel
theorem d_MR_init_4 : decode b_MR_init 4 = .ok (.aload_n 0, 1) := by decide +kernel
theorem d_MR_init_5 : decode b_MR_init 5 = .ok (.new 9, 3) := by decide +kernel
theorem d_MR_init_8 : decode b_MR_init 8 = .ok (.dup, 1) := by decide +kernel
theorem d_MR_init_9 : decode b_MR_init 9 = .ok (.iload_n 1, 1) := by decide +kernel
theorem d_MR_init_10 : decode b_MR_init 10 = .ok (.invokespecial 11, 3) := by decide +kernel
theorem d_MR_init_13 : decode b_MR_init 13 = .ok (.putfield 14, 3) := by decide +kernel
theorem d_MR_init_16 : decode b_MR_init 16 = .ok (.aload_n 0, 1) := by decide +kernel
theorem d_MR_init_17 : decode b_MR_init 17 = .ok (.new 9, 3) := by decide +kernel
theorem d_MR_init_20 : decode b_MR_init 20 = .ok (.dup, 1) := by decide +kernel
theorem d_MR_init_21 : decode b_MR_init 21 = .ok (.iload_n 1, 1) := by decide +kernel
theorem d_MR_init_22 : decode b_MR_init 22 = .ok (.invokespecial 11, 3) := by decide +kernel
theorem d_MR_init_25 : decode b_MR_init 25 = .ok (.putfield 20, 3) := by decide +kernel
theorem d_MR_init_28 : decode b_MR_init 28 = .ok (.aload_n 0, 1) := by decide +kernel
theorem d_MR_init_29 : decode b_MR_init 29 = .ok (.new 9, 3) := by decide +kernel
theorem d_MR_init_32 : decode b_MR_init 32 = .ok (.dup, 1) := by decide +kernel
theorem d_MR_init_33 : decode b_MR_init 33 = .ok (.iload_n 1, 1) := by decide +kernel
theorem d_MR_init_34 : decode b_MR_init 34 = .ok (.invokespecial 11, 3) := by decide +kernel
theorem d_MR_init_37 : decode b_MR_init 37 = .ok (.putfield 23, 3) := by decide +kernel
theorem d_MR_init_40 : decode b_MR_init 40 = .ok (.aload_n 0, 1) := by decide +kernel
theorem d_MR_init_41 : decode b_MR_init 41 = .ok (.new 9, 3) := by decide +kernel
theorem d_MR_init_44 : decode b_MR_init 44 = .ok (.dup, 1) := by decide +kernel
theorem d_MR_init_45 : decode b_MR_init 45 = .ok (.iload_n 1, 1) := by decide +kernel
theorem d_MR_init_46 : decode b_MR_init 46 = .ok (.invokespecial 11, 3) := by decide +kernel
theorem d_MR_init_49 : decode b_MR_init 49 = .ok (.putfield 26, 3) := by decide +kernel
theorem d_MR_init_52 : decode b_MR_init 52 = .ok (.aload_n 0, 1) := by decide +kernel
theorem d_MR_init_53 : decode b_MR_init 53 = .ok (.new 29, 3) := by decide +kernel
theorem d_MR_init_56 : decode b_MR_init 56 = .ok (.dup, 1) := by decide +kernel
theorem d_MR_init_57 : decode b_MR_init 57 = .ok (.iload_n 1, 1) := by decide +kernel
theorem d_MR_init_58 : decode b_MR_init 58 = .ok (.invokespecial 31, 3) := by decide +kernel
theorem d_MR_init_61 : decode b_MR_init 61 = .ok (.putfield 32, 3) := by decide +kernel
theorem d_MR_init_64 : decode b_MR_init 64 = .ok (.aload_n 0, 1) := by decide +kernel
theorem d_MR_init_65 : decode b_MR_init 65 = .ok (.new 9, 3) := by decide +kernel
theorem d_MR_init_68 : decode b_MR_init 68 = .ok (.dup, 1) := by decide +kernel
theorem d_MR_init_69 : decode b_MR_init 69 = .ok (.iload_n 1, 1) := by decide +kernel
theorem d_MR_init_70 : decode b_MR_init 70 = .ok (.invokespecial 11, 3) := by decide +kernel
theorem d_MR_init_73 : decode b_MR_init 73 = .ok (.putfield 36, 3) := by decide +kernel
theorem d_MR_init_76 : decode b_MR_init 76 = .ok (.aload_n 0, 1) := by decide +kernel
theorem d_MR_init_77 : decode b_MR_init 77 = .ok (.new 9, 3) := by decide +kernel
theorem d_MR_init_80 : decode b_MR_init 80 = .ok (.dup, 1) := by decide +kernel
theorem d_MR_init_81 : decode b_MR_init 81 = .ok (.iload_n 1, 1) := by decide +kernel
theorem d_MR_init_82 : decode b_MR_init 82 = .ok (.invokespecial 11, 3) := by decide +kernel
theorem d_MR_init_85 : decode b_MR_init 85 = .ok (.putfield 39, 3) := by decide +kernel
theorem d_MR_init_88 : decode b_MR_init 88 = .ok (.aload_n 0, 1) := by decide +kernel
theorem d_MR_init_89 : decode b_MR_init 89 = .ok (.new 9, 3) := by decide +kernel
theorem d_MR_init_92 : decode b_MR_init 92 = .ok (.dup, 1) := by decide +kernel
theorem d_MR_init_93 : decode b_MR_init 93 = .ok (.iload_n 1, 1) := by decide +kernel
theorem d_MR_init_94 : decode b_MR_init 94 = .ok (.invokespecial 11, 3) := by decide +kernel
theorem d_MR_init_97 : decode b_MR_init 97 = .ok (.putfield 42, 3) := by decide +kernel
theorem d_MR_init_100 : decode b_MR_init 100 = .ok (.aload_n 0, 1) := by decide +kernel
theorem d_MR_init_101 : decode b_MR_init 101 = .ok (.new 29, 3) := by decide +kernel
theorem d_MR_init_104 : decode b_MR_init 104 = .ok (.dup, 1) := by decide +kernel
theorem d_MR_init_105 : decode b_MR_init 105 = .ok (.iload_n 2, 1) := by decide +kernel
theorem d_MR_init_106 : decode b_MR_init 106 = .ok (.invokespecial 31, 3) := by decide +kernel
theorem d_MR_init_109 : decode b_MR_init 109 = .ok (.putfield 45, 3) := by decide +kernel
theorem d_MR_init_112 : decode b_MR_init 112 = .ok (.aload_n 0, 1) := by decide +kernel
theorem d_MR_init_113 : decode b_MR_init 113 = .ok (.new 9, 3) := by decide +kernel
theorem d_MR_init_116 : decode b_MR_init 116 = .ok (.dup, 1) := by decide +kernel
theorem d_MR_init_117 : decode b_MR_init 117 = .ok (.iload_n 2, 1) := by decide +kernel
theorem d_MR_init_118 : decode b_MR_init 118 = .ok (.invokespecial 11, 3) := by decide +kernel
theorem d_MR_init_121 : decode b_MR_init 121 = .ok (.putfield 48, 3) := by decide +kernel
theorem d_MR_init_124 : decode b_MR_init 124 = .ok (.return_, 1) := by decide +kernel
set_option maxHeartbeats 4000000 in
set_option maxRecDepth 100000 in
theorem c_MR_init (l : Launch) (dC : Nat → ClassId) (dI : Nat → Nat → Nat) (ca : Nat → ClassId) (h0 : Nat) : CT l classes (dC, dI) (mK dC dI ca) wm y_MR_init b_MR_init 3 none 2 33 20 60 [.ref h0, .int 4, .int 4] [(h0, .inr (5, [.int 0, .int 0, .int 0, .int 0, .int 0, .int 0, .int 0, .null, .null, .null, .null, .null, .null, .null, .null, .null, .null, .null, .int 0, .int 0, .int 0, .int 0, .null, .int 0]))] (fun (v : Option Value) (_ : List Value) => v = none) (fun (fs : List Value) => [(h0, .inr (5, fs))]) := by
  refine ax_of (by decide) (Nat.le_of_ble_eq_true rfl) ?_
  intro p e s m below meth c A ls hAt hK hP hD hS hA hl
  obtain ⟨hx, hb, hr, hml, hown, hts, hlocks, hin⟩ := hAt
  have hin : meth.name = "<init>" := hin
  have hl : lv_has ls 3 [(0, .ref h0), (1, .int 4), (2, .int 4)] := hl
  refine lv_aload_n hx hb d_MR_init_0 rfl (lv_at hl 0 rfl) ?_
  refine W.objInit hx hb hown (hts _ xm_46) (hts _ xm_8) (hts _ xm_9) rfl (by rw [hml]; exact hl.1) rfl d_MR_init_1 (Nat.le_of_ble_eq_true rfl) (Nat.le_of_ble_eq_true rfl) ?_
  refine W.eq (g2 := F0 m 4 ls []) rfl ?_
  refine lv_aload_n hx hb d_MR_init_4 rfl (lv_at hl 0 rfl) ?_
  refine va_new (ci := 3) (fs := [.null, .int 0]) (C := R_MI) (T := F_MI) (N := 2) hx hb hts i_MI t_MI t_MI_ok hown (hts _ xm_47) (hts _ xm_33) (hts _ xm_3) hK.1 hP hD hS hA rfl (by decide +kernel) (Nat.le_of_ble_eq_true rfl) (Nat.le_of_ble_eq_true rfl) d_MR_init_5 (fun q_1 H hP hD hS => ?_)
  have hP : va_P (dC, dI) classes [(h0, .inr (5, [.int 0, .int 0, .int 0, .int 0, .int 0, .int 0, .int 0, .null, .null, .null, .null, .null, .null, .null, .null, .null, .null, .null, .int 0, .int 0, .int 0, .int 0, .null, .int 0])), (q_1, .inr (3, [.null, .int 0]))] H := hP
  have hD : va_D A [(h0, .inr (5, [.int 0, .int 0, .int 0, .int 0, .int 0, .int 0, .int 0, .null, .null, .null, .null, .null, .null, .null, .null, .null, .null, .null, .int 0, .int 0, .int 0, .int 0, .null, .int 0])), (q_1, .inr (3, [.null, .int 0]))] := hD
  refine W.widen (k := 1) (n := 2) (Nat.le_of_ble_eq_true rfl) (Nat.le_of_ble_eq_true rfl) ?_
  refine lv_dup hx hb d_MR_init_8 rfl ?_
  refine lv_iload_n hx hb d_MR_init_9 rfl (lv_at hl 1 rfl) ?_
  refine ax_I (As := [.int 4]) (rest := [.ref q_1, .ref h0]) (wr := [(h0, .inr (5, [.int 0, .int 0, .int 0, .int 0, .int 0, .int 0, .int 0, .null, .null, .null, .null, .null, .null, .null, .null, .null, .null, .null, .int 0, .int 0, .int 0, .int 0, .null, .int 0]))]) rfl hx hb hml hown hts g_wm (mK_bl dC dI ca) (c_MI_init l dC dI ca q_1) rfl xm_48 xm_35 xm_3 xm_36 (by decide +kernel) rfl (Nat.le_of_ble_eq_true rfl) (Nat.le_of_ble_eq_true rfl) hl.1 (Nat.le_of_ble_eq_true rfl) (mK_up hK) hP hD hS hA [1] [0] rfl (by decide) rfl rfl (by decide) (by decide) (Nat.le_of_ble_eq_true rfl) (Nat.le_of_ble_eq_true rfl) d_MR_init_10 (fun v q_2 H locs hp hP hD hS => ?_)
  obtain rfl : v = none := hp
  have hP : va_P (dC, dI) classes [(h0, .inr (5, [.int 0, .int 0, .int 0, .int 0, .int 0, .int 0, .int 0, .null, .null, .null, .null, .null, .null, .null, .null, .null, .null, .null, .int 0, .int 0, .int 0, .int 0, .null, .int 0])), (q_1, .inr (3, [.ref q_2, .int 0])), (q_2, .inl (ca 1, 4, .inl (fun _ => 0)))] H := hP
  have hD : va_D A [(h0, .inr (5, [.int 0, .int 0, .int 0, .int 0, .int 0, .int 0, .int 0, .null, .null, .null, .null, .null, .null, .null, .null, .null, .null, .null, .int 0, .int 0, .int 0, .int 0, .null, .int 0])), (q_1, .inr (3, [.ref q_2, .int 0])), (q_2, .inl (ca 1, 4, .inl (fun _ => 0)))] := hD
  refine W.eq (g2 := F0 m 13 ls [.ref q_1, .ref h0]) rfl ?_
  refine W.widen (k := 2) (n := 6) (Nat.le_of_ble_eq_true rfl) (Nat.le_of_ble_eq_true rfl) ?_
  have hP := hP.sub (ws' := [(h0, .inr (5, [.int 0, .int 0, .int 0, .int 0, .int 0, .int 0, .int 0, .null, .null, .null, .null, .null, .null, .null, .null, .null, .null, .null, .int 0, .int 0, .int 0, .int 0, .null, .int 0])), (q_1, .inr (3, [.ref q_2, .int 0]))]) [0, 1] rfl
  have hD := hD.sub (ws' := [(h0, .inr (5, [.int 0, .int 0, .int 0, .int 0, .int 0, .int 0, .int 0, .null, .null, .null, .null, .null, .null, .null, .null, .null, .null, .null, .int 0, .int 0, .int 0, .int 0, .null, .int 0])), (q_1, .inr (3, [.ref q_2, .int 0]))]) [0, 1] (by decide) rfl
  refine va_putF (D := (dC, dI)) (ci := 5) (v := .ref q_1) (ty := .object "SourceBackModel$Ints") (C := R_MR) (T := F_MR) (N := 24) hx hb hts i_MR t_MR t_MR_ok n_MR hown hK.1 hP hD hS 0 rfl rfl 7 (by decide) (hts _ xm_57) (fun _ h9 => h9) rfl hin rfl (by decide +kernel) rfl rfl (Nat.le_of_ble_eq_true rfl) d_MR_init_13 (fun H locs hP hD hS => ?_)
  have hP : va_P (dC, dI) classes [(h0, .inr (5, [.int 0, .int 0, .int 0, .int 0, .int 0, .int 0, .int 0, .ref q_1, .null, .null, .null, .null, .null, .null, .null, .null, .null, .null, .int 0, .int 0, .int 0, .int 0, .null, .int 0])), (q_1, .inr (3, [.ref q_2, .int 0]))] H := hP
  have hD : va_D A [(h0, .inr (5, [.int 0, .int 0, .int 0, .int 0, .int 0, .int 0, .int 0, .ref q_1, .null, .null, .null, .null, .null, .null, .null, .null, .null, .null, .int 0, .int 0, .int 0, .int 0, .null, .int 0])), (q_1, .inr (3, [.ref q_2, .int 0]))] := hD
  have hP := hP.sub (ws' := [(h0, .inr (5, [.int 0, .int 0, .int 0, .int 0, .int 0, .int 0, .int 0, .ref q_1, .null, .null, .null, .null, .null, .null, .null, .null, .null, .null, .int 0, .int 0, .int 0, .int 0, .null, .int 0]))]) [0] rfl
  have hD := hD.sub (ws' := [(h0, .inr (5, [.int 0, .int 0, .int 0, .int 0, .int 0, .int 0, .int 0, .ref q_1, .null, .null, .null, .null, .null, .null, .null, .null, .null, .null, .int 0, .int 0, .int 0, .int 0, .null, .int 0]))]) [0] (by decide) rfl
  refine lv_aload_n hx hb d_MR_init_16 rfl (lv_at hl 0 rfl) ?_
  refine va_new (ci := 3) (fs := [.null, .int 0]) (C := R_MI) (T := F_MI) (N := 2) hx hb hts i_MI t_MI t_MI_ok hown (hts _ xm_47) (hts _ xm_33) (hts _ xm_3) hK.1 hP hD hS hA rfl (by decide +kernel) (Nat.le_of_ble_eq_true rfl) (Nat.le_of_ble_eq_true rfl) d_MR_init_17 (fun q_3 H hP hD hS => ?_)
  have hP : va_P (dC, dI) classes [(h0, .inr (5, [.int 0, .int 0, .int 0, .int 0, .int 0, .int 0, .int 0, .ref q_1, .null, .null, .null, .null, .null, .null, .null, .null, .null, .null, .int 0, .int 0, .int 0, .int 0, .null, .int 0])), (q_3, .inr (3, [.null, .int 0]))] H := hP
  have hD : va_D A [(h0, .inr (5, [.int 0, .int 0, .int 0, .int 0, .int 0, .int 0, .int 0, .ref q_1, .null, .null, .null, .null, .null, .null, .null, .null, .null, .null, .int 0, .int 0, .int 0, .int 0, .null, .int 0])), (q_3, .inr (3, [.null, .int 0]))] := hD
  refine W.widen (k := 3) (n := 8) (Nat.le_of_ble_eq_true rfl) (Nat.le_of_ble_eq_true rfl) ?_
  refine lv_dup hx hb d_MR_init_20 rfl ?_
  refine lv_iload_n hx hb d_MR_init_21 rfl (lv_at hl 1 rfl) ?_
  refine ax_I (As := [.int 4]) (rest := [.ref q_3, .ref h0]) (wr := [(h0, .inr (5, [.int 0, .int 0, .int 0, .int 0, .int 0, .int 0, .int 0, .ref q_1, .null, .null, .null, .null, .null, .null, .null, .null, .null, .null, .int 0, .int 0, .int 0, .int 0, .null, .int 0]))]) rfl hx hb hml hown hts g_wm (mK_bl dC dI ca) (c_MI_init l dC dI ca q_3) rfl xm_48 xm_35 xm_3 xm_36 (by decide +kernel) rfl (Nat.le_of_ble_eq_true rfl) (Nat.le_of_ble_eq_true rfl) hl.1 (Nat.le_of_ble_eq_true rfl) (mK_up hK) hP hD hS hA [1] [0] rfl (by decide) rfl rfl (by decide) (by decide) (Nat.le_of_ble_eq_true rfl) (Nat.le_of_ble_eq_true rfl) d_MR_init_22 (fun v q_4 H locs hp hP hD hS => ?_)
  obtain rfl : v = none := hp
  have hP : va_P (dC, dI) classes [(h0, .inr (5, [.int 0, .int 0, .int 0, .int 0, .int 0, .int 0, .int 0, .ref q_1, .null, .null, .null, .null, .null, .null, .null, .null, .null, .null, .int 0, .int 0, .int 0, .int 0, .null, .int 0])), (q_3, .inr (3, [.ref q_4, .int 0])), (q_4, .inl (ca 1, 4, .inl (fun _ => 0)))] H := hP
  have hD : va_D A [(h0, .inr (5, [.int 0, .int 0, .int 0, .int 0, .int 0, .int 0, .int 0, .ref q_1, .null, .null, .null, .null, .null, .null, .null, .null, .null, .null, .int 0, .int 0, .int 0, .int 0, .null, .int 0])), (q_3, .inr (3, [.ref q_4, .int 0])), (q_4, .inl (ca 1, 4, .inl (fun _ => 0)))] := hD
  refine W.eq (g2 := F0 m 25 ls [.ref q_3, .ref h0]) rfl ?_
  refine W.widen (k := 4) (n := 12) (Nat.le_of_ble_eq_true rfl) (Nat.le_of_ble_eq_true rfl) ?_
  have hP := hP.sub (ws' := [(h0, .inr (5, [.int 0, .int 0, .int 0, .int 0, .int 0, .int 0, .int 0, .ref q_1, .null, .null, .null, .null, .null, .null, .null, .null, .null, .null, .int 0, .int 0, .int 0, .int 0, .null, .int 0])), (q_3, .inr (3, [.ref q_4, .int 0]))]) [0, 1] rfl
  have hD := hD.sub (ws' := [(h0, .inr (5, [.int 0, .int 0, .int 0, .int 0, .int 0, .int 0, .int 0, .ref q_1, .null, .null, .null, .null, .null, .null, .null, .null, .null, .null, .int 0, .int 0, .int 0, .int 0, .null, .int 0])), (q_3, .inr (3, [.ref q_4, .int 0]))]) [0, 1] (by decide) rfl
  refine va_putF (D := (dC, dI)) (ci := 5) (v := .ref q_3) (ty := .object "SourceBackModel$Ints") (C := R_MR) (T := F_MR) (N := 24) hx hb hts i_MR t_MR t_MR_ok n_MR hown hK.1 hP hD hS 0 rfl rfl 8 (by decide) (hts _ xm_58) (fun _ h9 => h9) rfl hin rfl (by decide +kernel) rfl rfl (Nat.le_of_ble_eq_true rfl) d_MR_init_25 (fun H locs hP hD hS => ?_)
  have hP : va_P (dC, dI) classes [(h0, .inr (5, [.int 0, .int 0, .int 0, .int 0, .int 0, .int 0, .int 0, .ref q_1, .ref q_3, .null, .null, .null, .null, .null, .null, .null, .null, .null, .int 0, .int 0, .int 0, .int 0, .null, .int 0])), (q_3, .inr (3, [.ref q_4, .int 0]))] H := hP
  have hD : va_D A [(h0, .inr (5, [.int 0, .int 0, .int 0, .int 0, .int 0, .int 0, .int 0, .ref q_1, .ref q_3, .null, .null, .null, .null, .null, .null, .null, .null, .null, .int 0, .int 0, .int 0, .int 0, .null, .int 0])), (q_3, .inr (3, [.ref q_4, .int 0]))] := hD
  have hP := hP.sub (ws' := [(h0, .inr (5, [.int 0, .int 0, .int 0, .int 0, .int 0, .int 0, .int 0, .ref q_1, .ref q_3, .null, .null, .null, .null, .null, .null, .null, .null, .null, .int 0, .int 0, .int 0, .int 0, .null, .int 0]))]) [0] rfl
  have hD := hD.sub (ws' := [(h0, .inr (5, [.int 0, .int 0, .int 0, .int 0, .int 0, .int 0, .int 0, .ref q_1, .ref q_3, .null, .null, .null, .null, .null, .null, .null, .null, .null, .int 0, .int 0, .int 0, .int 0, .null, .int 0]))]) [0] (by decide) rfl
  refine lv_aload_n hx hb d_MR_init_28 rfl (lv_at hl 0 rfl) ?_
  refine va_new (ci := 3) (fs := [.null, .int 0]) (C := R_MI) (T := F_MI) (N := 2) hx hb hts i_MI t_MI t_MI_ok hown (hts _ xm_47) (hts _ xm_33) (hts _ xm_3) hK.1 hP hD hS hA rfl (by decide +kernel) (Nat.le_of_ble_eq_true rfl) (Nat.le_of_ble_eq_true rfl) d_MR_init_29 (fun q_5 H hP hD hS => ?_)
  have hP : va_P (dC, dI) classes [(h0, .inr (5, [.int 0, .int 0, .int 0, .int 0, .int 0, .int 0, .int 0, .ref q_1, .ref q_3, .null, .null, .null, .null, .null, .null, .null, .null, .null, .int 0, .int 0, .int 0, .int 0, .null, .int 0])), (q_5, .inr (3, [.null, .int 0]))] H := hP
  have hD : va_D A [(h0, .inr (5, [.int 0, .int 0, .int 0, .int 0, .int 0, .int 0, .int 0, .ref q_1, .ref q_3, .null, .null, .null, .null, .null, .null, .null, .null, .null, .int 0, .int 0, .int 0, .int 0, .null, .int 0])), (q_5, .inr (3, [.null, .int 0]))] := hD
  refine W.widen (k := 5) (n := 14) (Nat.le_of_ble_eq_true rfl) (Nat.le_of_ble_eq_true rfl) ?_
  refine lv_dup hx hb d_MR_init_32 rfl ?_
  refine lv_iload_n hx hb d_MR_init_33 rfl (lv_at hl 1 rfl) ?_
  refine ax_I (As := [.int 4]) (rest := [.ref q_5, .ref h0]) (wr := [(h0, .inr (5, [.int 0, .int 0, .int 0, .int 0, .int 0, .int 0, .int 0, .ref q_1, .ref q_3, .null, .null, .null, .null, .null, .null, .null, .null, .null, .int 0, .int 0, .int 0, .int 0, .null, .int 0]))]) rfl hx hb hml hown hts g_wm (mK_bl dC dI ca) (c_MI_init l dC dI ca q_5) rfl xm_48 xm_35 xm_3 xm_36 (by decide +kernel) rfl (Nat.le_of_ble_eq_true rfl) (Nat.le_of_ble_eq_true rfl) hl.1 (Nat.le_of_ble_eq_true rfl) (mK_up hK) hP hD hS hA [1] [0] rfl (by decide) rfl rfl (by decide) (by decide) (Nat.le_of_ble_eq_true rfl) (Nat.le_of_ble_eq_true rfl) d_MR_init_34 (fun v q_6 H locs hp hP hD hS => ?_)
  obtain rfl : v = none := hp
  have hP : va_P (dC, dI) classes [(h0, .inr (5, [.int 0, .int 0, .int 0, .int 0, .int 0, .int 0, .int 0, .ref q_1, .ref q_3, .null, .null, .null, .null, .null, .null, .null, .null, .null, .int 0, .int 0, .int 0, .int 0, .null, .int 0])), (q_5, .inr (3, [.ref q_6, .int 0])), (q_6, .inl (ca 1, 4, .inl (fun _ => 0)))] H := hP
  have hD : va_D A [(h0, .inr (5, [.int 0, .int 0, .int 0, .int 0, .int 0, .int 0, .int 0, .ref q_1, .ref q_3, .null, .null, .null, .null, .null, .null, .null, .null, .null, .int 0, .int 0, .int 0, .int 0, .null, .int 0])), (q_5, .inr (3, [.ref q_6, .int 0])), (q_6, .inl (ca 1, 4, .inl (fun _ => 0)))] := hD
  refine W.eq (g2 := F0 m 37 ls [.ref q_5, .ref h0]) rfl ?_
  refine W.widen (k := 6) (n := 18) (Nat.le_of_ble_eq_true rfl) (Nat.le_of_ble_eq_true rfl) ?_
  have hP := hP.sub (ws' := [(h0, .inr (5, [.int 0, .int 0, .int 0, .int 0, .int 0, .int 0, .int 0, .ref q_1, .ref q_3, .null, .null, .null, .null, .null, .null, .null, .null, .null, .int 0, .int 0, .int 0, .int 0, .null, .int 0])), (q_5, .inr (3, [.ref q_6, .int 0]))]) [0, 1] rfl
  have hD := hD.sub (ws' := [(h0, .inr (5, [.int 0, .int 0, .int 0, .int 0, .int 0, .int 0, .int 0, .ref q_1, .ref q_3, .null, .null, .null, .null, .null, .null, .null, .null, .null, .int 0, .int 0, .int 0, .int 0, .null, .int 0])), (q_5, .inr (3, [.ref q_6, .int 0]))]) [0, 1] (by decide) rfl
  refine va_putF (D := (dC, dI)) (ci := 5) (v := .ref q_5) (ty := .object "SourceBackModel$Ints") (C := R_MR) (T := F_MR) (N := 24) hx hb hts i_MR t_MR t_MR_ok n_MR hown hK.1 hP hD hS 0 rfl rfl 9 (by decide) (hts _ xm_59) (fun _ h9 => h9) rfl hin rfl (by decide +kernel) rfl rfl (Nat.le_of_ble_eq_true rfl) d_MR_init_37 (fun H locs hP hD hS => ?_)
  have hP : va_P (dC, dI) classes [(h0, .inr (5, [.int 0, .int 0, .int 0, .int 0, .int 0, .int 0, .int 0, .ref q_1, .ref q_3, .ref q_5, .null, .null, .null, .null, .null, .null, .null, .null, .int 0, .int 0, .int 0, .int 0, .null, .int 0])), (q_5, .inr (3, [.ref q_6, .int 0]))] H := hP
  have hD : va_D A [(h0, .inr (5, [.int 0, .int 0, .int 0, .int 0, .int 0, .int 0, .int 0, .ref q_1, .ref q_3, .ref q_5, .null, .null, .null, .null, .null, .null, .null, .null, .int 0, .int 0, .int 0, .int 0, .null, .int 0])), (q_5, .inr (3, [.ref q_6, .int 0]))] := hD
  have hP := hP.sub (ws' := [(h0, .inr (5, [.int 0, .int 0, .int 0, .int 0, .int 0, .int 0, .int 0, .ref q_1, .ref q_3, .ref q_5, .null, .null, .null, .null, .null, .null, .null, .null, .int 0, .int 0, .int 0, .int 0, .null, .int 0]))]) [0] rfl
  have hD := hD.sub (ws' := [(h0, .inr (5, [.int 0, .int 0, .int 0, .int 0, .int 0, .int 0, .int 0, .ref q_1, .ref q_3, .ref q_5, .null, .null, .null, .null, .null, .null, .null, .null, .int 0, .int 0, .int 0, .int 0, .null, .int 0]))]) [0] (by decide) rfl
  refine lv_aload_n hx hb d_MR_init_40 rfl (lv_at hl 0 rfl) ?_
  refine va_new (ci := 3) (fs := [.null, .int 0]) (C := R_MI) (T := F_MI) (N := 2) hx hb hts i_MI t_MI t_MI_ok hown (hts _ xm_47) (hts _ xm_33) (hts _ xm_3) hK.1 hP hD hS hA rfl (by decide +kernel) (Nat.le_of_ble_eq_true rfl) (Nat.le_of_ble_eq_true rfl) d_MR_init_41 (fun q_7 H hP hD hS => ?_)
  have hP : va_P (dC, dI) classes [(h0, .inr (5, [.int 0, .int 0, .int 0, .int 0, .int 0, .int 0, .int 0, .ref q_1, .ref q_3, .ref q_5, .null, .null, .null, .null, .null, .null, .null, .null, .int 0, .int 0, .int 0, .int 0, .null, .int 0])), (q_7, .inr (3, [.null, .int 0]))] H := hP
  have hD : va_D A [(h0, .inr (5, [.int 0, .int 0, .int 0, .int 0, .int 0, .int 0, .int 0, .ref q_1, .ref q_3, .ref q_5, .null, .null, .null, .null, .null, .null, .null, .null, .int 0, .int 0, .int 0, .int 0, .null, .int 0])), (q_7, .inr (3, [.null, .int 0]))] := hD
  refine W.widen (k := 7) (n := 20) (Nat.le_of_ble_eq_true rfl) (Nat.le_of_ble_eq_true rfl) ?_
  refine lv_dup hx hb d_MR_init_44 rfl ?_
  refine lv_iload_n hx hb d_MR_init_45 rfl (lv_at hl 1 rfl) ?_
  refine ax_I (As := [.int 4]) (rest := [.ref q_7, .ref h0]) (wr := [(h0, .inr (5, [.int 0, .int 0, .int 0, .int 0, .int 0, .int 0, .int 0, .ref q_1, .ref q_3, .ref q_5, .null, .null, .null, .null, .null, .null, .null, .null, .int 0, .int 0, .int 0, .int 0, .null, .int 0]))]) rfl hx hb hml hown hts g_wm (mK_bl dC dI ca) (c_MI_init l dC dI ca q_7) rfl xm_48 xm_35 xm_3 xm_36 (by decide +kernel) rfl (Nat.le_of_ble_eq_true rfl) (Nat.le_of_ble_eq_true rfl) hl.1 (Nat.le_of_ble_eq_true rfl) (mK_up hK) hP hD hS hA [1] [0] rfl (by decide) rfl rfl (by decide) (by decide) (Nat.le_of_ble_eq_true rfl) (Nat.le_of_ble_eq_true rfl) d_MR_init_46 (fun v q_8 H locs hp hP hD hS => ?_)
  obtain rfl : v = none := hp
  have hP : va_P (dC, dI) classes [(h0, .inr (5, [.int 0, .int 0, .int 0, .int 0, .int 0, .int 0, .int 0, .ref q_1, .ref q_3, .ref q_5, .null, .null, .null, .null, .null, .null, .null, .null, .int 0, .int 0, .int 0, .int 0, .null, .int 0])), (q_7, .inr (3, [.ref q_8, .int 0])), (q_8, .inl (ca 1, 4, .inl (fun _ => 0)))] H := hP
  have hD : va_D A [(h0, .inr (5, [.int 0, .int 0, .int 0, .int 0, .int 0, .int 0, .int 0, .ref q_1, .ref q_3, .ref q_5, .null, .null, .null, .null, .null, .null, .null, .null, .int 0, .int 0, .int 0, .int 0, .null, .int 0])), (q_7, .inr (3, [.ref q_8, .int 0])), (q_8, .inl (ca 1, 4, .inl (fun _ => 0)))] := hD
  refine W.eq (g2 := F0 m 49 ls [.ref q_7, .ref h0]) rfl ?_
  refine W.widen (k := 8) (n := 24) (Nat.le_of_ble_eq_true rfl) (Nat.le_of_ble_eq_true rfl) ?_
  have hP := hP.sub (ws' := [(h0, .inr (5, [.int 0, .int 0, .int 0, .int 0, .int 0, .int 0, .int 0, .ref q_1, .ref q_3, .ref q_5, .null, .null, .null, .null, .null, .null, .null, .null, .int 0, .int 0, .int 0, .int 0, .null, .int 0])), (q_7, .inr (3, [.ref q_8, .int 0]))]) [0, 1] rfl
  have hD := hD.sub (ws' := [(h0, .inr (5, [.int 0, .int 0, .int 0, .int 0, .int 0, .int 0, .int 0, .ref q_1, .ref q_3, .ref q_5, .null, .null, .null, .null, .null, .null, .null, .null, .int 0, .int 0, .int 0, .int 0, .null, .int 0])), (q_7, .inr (3, [.ref q_8, .int 0]))]) [0, 1] (by decide) rfl
  refine va_putF (D := (dC, dI)) (ci := 5) (v := .ref q_7) (ty := .object "SourceBackModel$Ints") (C := R_MR) (T := F_MR) (N := 24) hx hb hts i_MR t_MR t_MR_ok n_MR hown hK.1 hP hD hS 0 rfl rfl 10 (by decide) (hts _ xm_60) (fun _ h9 => h9) rfl hin rfl (by decide +kernel) rfl rfl (Nat.le_of_ble_eq_true rfl) d_MR_init_49 (fun H locs hP hD hS => ?_)
  have hP : va_P (dC, dI) classes [(h0, .inr (5, [.int 0, .int 0, .int 0, .int 0, .int 0, .int 0, .int 0, .ref q_1, .ref q_3, .ref q_5, .ref q_7, .null, .null, .null, .null, .null, .null, .null, .int 0, .int 0, .int 0, .int 0, .null, .int 0])), (q_7, .inr (3, [.ref q_8, .int 0]))] H := hP
  have hD : va_D A [(h0, .inr (5, [.int 0, .int 0, .int 0, .int 0, .int 0, .int 0, .int 0, .ref q_1, .ref q_3, .ref q_5, .ref q_7, .null, .null, .null, .null, .null, .null, .null, .int 0, .int 0, .int 0, .int 0, .null, .int 0])), (q_7, .inr (3, [.ref q_8, .int 0]))] := hD
  have hP := hP.sub (ws' := [(h0, .inr (5, [.int 0, .int 0, .int 0, .int 0, .int 0, .int 0, .int 0, .ref q_1, .ref q_3, .ref q_5, .ref q_7, .null, .null, .null, .null, .null, .null, .null, .int 0, .int 0, .int 0, .int 0, .null, .int 0]))]) [0] rfl
  have hD := hD.sub (ws' := [(h0, .inr (5, [.int 0, .int 0, .int 0, .int 0, .int 0, .int 0, .int 0, .ref q_1, .ref q_3, .ref q_5, .ref q_7, .null, .null, .null, .null, .null, .null, .null, .int 0, .int 0, .int 0, .int 0, .null, .int 0]))]) [0] (by decide) rfl
  refine lv_aload_n hx hb d_MR_init_52 rfl (lv_at hl 0 rfl) ?_
  refine va_new (ci := 4) (fs := [.null, .int 0]) (C := R_ML) (T := F_ML) (N := 2) hx hb hts i_ML t_ML t_ML_ok hown (hts _ xm_49) (hts _ xm_50) (hts _ xm_5) hK.1 hP hD hS hA rfl (by decide +kernel) (Nat.le_of_ble_eq_true rfl) (Nat.le_of_ble_eq_true rfl) d_MR_init_53 (fun q_9 H hP hD hS => ?_)
  have hP : va_P (dC, dI) classes [(h0, .inr (5, [.int 0, .int 0, .int 0, .int 0, .int 0, .int 0, .int 0, .ref q_1, .ref q_3, .ref q_5, .ref q_7, .null, .null, .null, .null, .null, .null, .null, .int 0, .int 0, .int 0, .int 0, .null, .int 0])), (q_9, .inr (4, [.null, .int 0]))] H := hP
  have hD : va_D A [(h0, .inr (5, [.int 0, .int 0, .int 0, .int 0, .int 0, .int 0, .int 0, .ref q_1, .ref q_3, .ref q_5, .ref q_7, .null, .null, .null, .null, .null, .null, .null, .int 0, .int 0, .int 0, .int 0, .null, .int 0])), (q_9, .inr (4, [.null, .int 0]))] := hD
  refine W.widen (k := 9) (n := 26) (Nat.le_of_ble_eq_true rfl) (Nat.le_of_ble_eq_true rfl) ?_
  refine lv_dup hx hb d_MR_init_56 rfl ?_
  refine lv_iload_n hx hb d_MR_init_57 rfl (lv_at hl 1 rfl) ?_
  refine ax_I (As := [.int 4]) (rest := [.ref q_9, .ref h0]) (wr := [(h0, .inr (5, [.int 0, .int 0, .int 0, .int 0, .int 0, .int 0, .int 0, .ref q_1, .ref q_3, .ref q_5, .ref q_7, .null, .null, .null, .null, .null, .null, .null, .int 0, .int 0, .int 0, .int 0, .null, .int 0]))]) rfl hx hb hml hown hts g_wm (mK_bl dC dI ca) (c_ML_init l dC dI ca q_9) rfl xm_51 xm_52 xm_5 xm_53 (by decide +kernel) rfl (Nat.le_of_ble_eq_true rfl) (Nat.le_of_ble_eq_true rfl) hl.1 (Nat.le_of_ble_eq_true rfl) (mK_up hK) hP hD hS hA [1] [0] rfl (by decide) rfl rfl (by decide) (by decide) (Nat.le_of_ble_eq_true rfl) (Nat.le_of_ble_eq_true rfl) d_MR_init_58 (fun v q_10 H locs hp hP hD hS => ?_)
  obtain rfl : v = none := hp
  have hP : va_P (dC, dI) classes [(h0, .inr (5, [.int 0, .int 0, .int 0, .int 0, .int 0, .int 0, .int 0, .ref q_1, .ref q_3, .ref q_5, .ref q_7, .null, .null, .null, .null, .null, .null, .null, .int 0, .int 0, .int 0, .int 0, .null, .int 0])), (q_9, .inr (4, [.ref q_10, .int 0])), (q_10, .inl (ca 2, 4, .inr (.inl (fun _ => 0))))] H := hP
  have hD : va_D A [(h0, .inr (5, [.int 0, .int 0, .int 0, .int 0, .int 0, .int 0, .int 0, .ref q_1, .ref q_3, .ref q_5, .ref q_7, .null, .null, .null, .null, .null, .null, .null, .int 0, .int 0, .int 0, .int 0, .null, .int 0])), (q_9, .inr (4, [.ref q_10, .int 0])), (q_10, .inl (ca 2, 4, .inr (.inl (fun _ => 0))))] := hD
  refine W.eq (g2 := F0 m 61 ls [.ref q_9, .ref h0]) rfl ?_
  refine W.widen (k := 10) (n := 30) (Nat.le_of_ble_eq_true rfl) (Nat.le_of_ble_eq_true rfl) ?_
  have hP := hP.sub (ws' := [(h0, .inr (5, [.int 0, .int 0, .int 0, .int 0, .int 0, .int 0, .int 0, .ref q_1, .ref q_3, .ref q_5, .ref q_7, .null, .null, .null, .null, .null, .null, .null, .int 0, .int 0, .int 0, .int 0, .null, .int 0])), (q_9, .inr (4, [.ref q_10, .int 0]))]) [0, 1] rfl
  have hD := hD.sub (ws' := [(h0, .inr (5, [.int 0, .int 0, .int 0, .int 0, .int 0, .int 0, .int 0, .ref q_1, .ref q_3, .ref q_5, .ref q_7, .null, .null, .null, .null, .null, .null, .null, .int 0, .int 0, .int 0, .int 0, .null, .int 0])), (q_9, .inr (4, [.ref q_10, .int 0]))]) [0, 1] (by decide) rfl
  refine va_putF (D := (dC, dI)) (ci := 5) (v := .ref q_9) (ty := .object "SourceBackModel$Longs") (C := R_MR) (T := F_MR) (N := 24) hx hb hts i_MR t_MR t_MR_ok n_MR hown hK.1 hP hD hS 0 rfl rfl 11 (by decide) (hts _ xm_61) (fun _ h9 => h9) rfl hin rfl (by decide +kernel) rfl rfl (Nat.le_of_ble_eq_true rfl) d_MR_init_61 (fun H locs hP hD hS => ?_)
  have hP : va_P (dC, dI) classes [(h0, .inr (5, [.int 0, .int 0, .int 0, .int 0, .int 0, .int 0, .int 0, .ref q_1, .ref q_3, .ref q_5, .ref q_7, .ref q_9, .null, .null, .null, .null, .null, .null, .int 0, .int 0, .int 0, .int 0, .null, .int 0])), (q_9, .inr (4, [.ref q_10, .int 0]))] H := hP
  have hD : va_D A [(h0, .inr (5, [.int 0, .int 0, .int 0, .int 0, .int 0, .int 0, .int 0, .ref q_1, .ref q_3, .ref q_5, .ref q_7, .ref q_9, .null, .null, .null, .null, .null, .null, .int 0, .int 0, .int 0, .int 0, .null, .int 0])), (q_9, .inr (4, [.ref q_10, .int 0]))] := hD
  have hP := hP.sub (ws' := [(h0, .inr (5, [.int 0, .int 0, .int 0, .int 0, .int 0, .int 0, .int 0, .ref q_1, .ref q_3, .ref q_5, .ref q_7, .ref q_9, .null, .null, .null, .null, .null, .null, .int 0, .int 0, .int 0, .int 0, .null, .int 0]))]) [0] rfl
  have hD := hD.sub (ws' := [(h0, .inr (5, [.int 0, .int 0, .int 0, .int 0, .int 0, .int 0, .int 0, .ref q_1, .ref q_3, .ref q_5, .ref q_7, .ref q_9, .null, .null, .null, .null, .null, .null, .int 0, .int 0, .int 0, .int 0, .null, .int 0]))]) [0] (by decide) rfl
  refine lv_aload_n hx hb d_MR_init_64 rfl (lv_at hl 0 rfl) ?_
  refine va_new (ci := 3) (fs := [.null, .int 0]) (C := R_MI) (T := F_MI) (N := 2) hx hb hts i_MI t_MI t_MI_ok hown (hts _ xm_47) (hts _ xm_33) (hts _ xm_3) hK.1 hP hD hS hA rfl (by decide +kernel) (Nat.le_of_ble_eq_true rfl) (Nat.le_of_ble_eq_true rfl) d_MR_init_65 (fun q_11 H hP hD hS => ?_)
  have hP : va_P (dC, dI) classes [(h0, .inr (5, [.int 0, .int 0, .int 0, .int 0, .int 0, .int 0, .int 0, .ref q_1, .ref q_3, .ref q_5, .ref q_7, .ref q_9, .null, .null, .null, .null, .null, .null, .int 0, .int 0, .int 0, .int 0, .null, .int 0])), (q_11, .inr (3, [.null, .int 0]))] H := hP
  have hD : va_D A [(h0, .inr (5, [.int 0, .int 0, .int 0, .int 0, .int 0, .int 0, .int 0, .ref q_1, .ref q_3, .ref q_5, .ref q_7, .ref q_9, .null, .null, .null, .null, .null, .null, .int 0, .int 0, .int 0, .int 0, .null, .int 0])), (q_11, .inr (3, [.null, .int 0]))] := hD
  refine W.widen (k := 11) (n := 32) (Nat.le_of_ble_eq_true rfl) (Nat.le_of_ble_eq_true rfl) ?_
  refine lv_dup hx hb d_MR_init_68 rfl ?_
  refine lv_iload_n hx hb d_MR_init_69 rfl (lv_at hl 1 rfl) ?_
  refine ax_I (As := [.int 4]) (rest := [.ref q_11, .ref h0]) (wr := [(h0, .inr (5, [.int 0, .int 0, .int 0, .int 0, .int 0, .int 0, .int 0, .ref q_1, .ref q_3, .ref q_5, .ref q_7, .ref q_9, .null, .null, .null, .null, .null, .null, .int 0, .int 0, .int 0, .int 0, .null, .int 0]))]) rfl hx hb hml hown hts g_wm (mK_bl dC dI ca) (c_MI_init l dC dI ca q_11) rfl xm_48 xm_35 xm_3 xm_36 (by decide +kernel) rfl (Nat.le_of_ble_eq_true rfl) (Nat.le_of_ble_eq_true rfl) hl.1 (Nat.le_of_ble_eq_true rfl) (mK_up hK) hP hD hS hA [1] [0] rfl (by decide) rfl rfl (by decide) (by decide) (Nat.le_of_ble_eq_true rfl) (Nat.le_of_ble_eq_true rfl) d_MR_init_70 (fun v q_12 H locs hp hP hD hS => ?_)
  obtain rfl : v = none := hp
  have hP : va_P (dC, dI) classes [(h0, .inr (5, [.int 0, .int 0, .int 0, .int 0, .int 0, .int 0, .int 0, .ref q_1, .ref q_3, .ref q_5, .ref q_7, .ref q_9, .null, .null, .null, .null, .null, .null, .int 0, .int 0, .int 0, .int 0, .null, .int 0])), (q_11, .inr (3, [.ref q_12, .int 0])), (q_12, .inl (ca 1, 4, .inl (fun _ => 0)))] H := hP
  have hD : va_D A [(h0, .inr (5, [.int 0, .int 0, .int 0, .int 0, .int 0, .int 0, .int 0, .ref q_1, .ref q_3, .ref q_5, .ref q_7, .ref q_9, .null, .null, .null, .null, .null, .null, .int 0, .int 0, .int 0, .int 0, .null, .int 0])), (q_11, .inr (3, [.ref q_12, .int 0])), (q_12, .inl (ca 1, 4, .inl (fun _ => 0)))] := hD
  refine W.eq (g2 := F0 m 73 ls [.ref q_11, .ref h0]) rfl ?_
  refine W.widen (k := 12) (n := 36) (Nat.le_of_ble_eq_true rfl) (Nat.le_of_ble_eq_true rfl) ?_
  have hP := hP.sub (ws' := [(h0, .inr (5, [.int 0, .int 0, .int 0, .int 0, .int 0, .int 0, .int 0, .ref q_1, .ref q_3, .ref q_5, .ref q_7, .ref q_9, .null, .null, .null, .null, .null, .null, .int 0, .int 0, .int 0, .int 0, .null, .int 0])), (q_11, .inr (3, [.ref q_12, .int 0]))]) [0, 1] rfl
  have hD := hD.sub (ws' := [(h0, .inr (5, [.int 0, .int 0, .int 0, .int 0, .int 0, .int 0, .int 0, .ref q_1, .ref q_3, .ref q_5, .ref q_7, .ref q_9, .null, .null, .null, .null, .null, .null, .int 0, .int 0, .int 0, .int 0, .null, .int 0])), (q_11, .inr (3, [.ref q_12, .int 0]))]) [0, 1] (by decide) rfl
  refine va_putF (D := (dC, dI)) (ci := 5) (v := .ref q_11) (ty := .object "SourceBackModel$Ints") (C := R_MR) (T := F_MR) (N := 24) hx hb hts i_MR t_MR t_MR_ok n_MR hown hK.1 hP hD hS 0 rfl rfl 12 (by decide) (hts _ xm_62) (fun _ h9 => h9) rfl hin rfl (by decide +kernel) rfl rfl (Nat.le_of_ble_eq_true rfl) d_MR_init_73 (fun H locs hP hD hS => ?_)
  have hP : va_P (dC, dI) classes [(h0, .inr (5, [.int 0, .int 0, .int 0, .int 0, .int 0, .int 0, .int 0, .ref q_1, .ref q_3, .ref q_5, .ref q_7, .ref q_9, .ref q_11, .null, .null, .null, .null, .null, .int 0, .int 0, .int 0, .int 0, .null, .int 0])), (q_11, .inr (3, [.ref q_12, .int 0]))] H := hP
  have hD : va_D A [(h0, .inr (5, [.int 0, .int 0, .int 0, .int 0, .int 0, .int 0, .int 0, .ref q_1, .ref q_3, .ref q_5, .ref q_7, .ref q_9, .ref q_11, .null, .null, .null, .null, .null, .int 0, .int 0, .int 0, .int 0, .null, .int 0])), (q_11, .inr (3, [.ref q_12, .int 0]))] := hD
  have hP := hP.sub (ws' := [(h0, .inr (5, [.int 0, .int 0, .int 0, .int 0, .int 0, .int 0, .int 0, .ref q_1, .ref q_3, .ref q_5, .ref q_7, .ref q_9, .ref q_11, .null, .null, .null, .null, .null, .int 0, .int 0, .int 0, .int 0, .null, .int 0]))]) [0] rfl
  have hD := hD.sub (ws' := [(h0, .inr (5, [.int 0, .int 0, .int 0, .int 0, .int 0, .int 0, .int 0, .ref q_1, .ref q_3, .ref q_5, .ref q_7, .ref q_9, .ref q_11, .null, .null, .null, .null, .null, .int 0, .int 0, .int 0, .int 0, .null, .int 0]))]) [0] (by decide) rfl
  refine lv_aload_n hx hb d_MR_init_76 rfl (lv_at hl 0 rfl) ?_
  refine va_new (ci := 3) (fs := [.null, .int 0]) (C := R_MI) (T := F_MI) (N := 2) hx hb hts i_MI t_MI t_MI_ok hown (hts _ xm_47) (hts _ xm_33) (hts _ xm_3) hK.1 hP hD hS hA rfl (by decide +kernel) (Nat.le_of_ble_eq_true rfl) (Nat.le_of_ble_eq_true rfl) d_MR_init_77 (fun q_13 H hP hD hS => ?_)
  have hP : va_P (dC, dI) classes [(h0, .inr (5, [.int 0, .int 0, .int 0, .int 0, .int 0, .int 0, .int 0, .ref q_1, .ref q_3, .ref q_5, .ref q_7, .ref q_9, .ref q_11, .null, .null, .null, .null, .null, .int 0, .int 0, .int 0, .int 0, .null, .int 0])), (q_13, .inr (3, [.null, .int 0]))] H := hP
  have hD : va_D A [(h0, .inr (5, [.int 0, .int 0, .int 0, .int 0, .int 0, .int 0, .int 0, .ref q_1, .ref q_3, .ref q_5, .ref q_7, .ref q_9, .ref q_11, .null, .null, .null, .null, .null, .int 0, .int 0, .int 0, .int 0, .null, .int 0])), (q_13, .inr (3, [.null, .int 0]))] := hD
  refine W.widen (k := 13) (n := 38) (Nat.le_of_ble_eq_true rfl) (Nat.le_of_ble_eq_true rfl) ?_
  refine lv_dup hx hb d_MR_init_80 rfl ?_
  refine lv_iload_n hx hb d_MR_init_81 rfl (lv_at hl 1 rfl) ?_
  refine ax_I (As := [.int 4]) (rest := [.ref q_13, .ref h0]) (wr := [(h0, .inr (5, [.int 0, .int 0, .int 0, .int 0, .int 0, .int 0, .int 0, .ref q_1, .ref q_3, .ref q_5, .ref q_7, .ref q_9, .ref q_11, .null, .null, .null, .null, .null, .int 0, .int 0, .int 0, .int 0, .null, .int 0]))]) rfl hx hb hml hown hts g_wm (mK_bl dC dI ca) (c_MI_init l dC dI ca q_13) rfl xm_48 xm_35 xm_3 xm_36 (by decide +kernel) rfl (Nat.le_of_ble_eq_true rfl) (Nat.le_of_ble_eq_true rfl) hl.1 (Nat.le_of_ble_eq_true rfl) (mK_up hK) hP hD hS hA [1] [0] rfl (by decide) rfl rfl (by decide) (by decide) (Nat.le_of_ble_eq_true rfl) (Nat.le_of_ble_eq_true rfl) d_MR_init_82 (fun v q_14 H locs hp hP hD hS => ?_)
  obtain rfl : v = none := hp
  have hP : va_P (dC, dI) classes [(h0, .inr (5, [.int 0, .int 0, .int 0, .int 0, .int 0, .int 0, .int 0, .ref q_1, .ref q_3, .ref q_5, .ref q_7, .ref q_9, .ref q_11, .null, .null, .null, .null, .null, .int 0, .int 0, .int 0, .int 0, .null, .int 0])), (q_13, .inr (3, [.ref q_14, .int 0])), (q_14, .inl (ca 1, 4, .inl (fun _ => 0)))] H := hP
  have hD : va_D A [(h0, .inr (5, [.int 0, .int 0, .int 0, .int 0, .int 0, .int 0, .int 0, .ref q_1, .ref q_3, .ref q_5, .ref q_7, .ref q_9, .ref q_11, .null, .null, .null, .null, .null, .int 0, .int 0, .int 0, .int 0, .null, .int 0])), (q_13, .inr (3, [.ref q_14, .int 0])), (q_14, .inl (ca 1, 4, .inl (fun _ => 0)))] := hD
  refine W.eq (g2 := F0 m 85 ls [.ref q_13, .ref h0]) rfl ?_
  refine W.widen (k := 14) (n := 42) (Nat.le_of_ble_eq_true rfl) (Nat.le_of_ble_eq_true rfl) ?_
  have hP := hP.sub (ws' := [(h0, .inr (5, [.int 0, .int 0, .int 0, .int 0, .int 0, .int 0, .int 0, .ref q_1, .ref q_3, .ref q_5, .ref q_7, .ref q_9, .ref q_11, .null, .null, .null, .null, .null, .int 0, .int 0, .int 0, .int 0, .null, .int 0])), (q_13, .inr (3, [.ref q_14, .int 0]))]) [0, 1] rfl
  have hD := hD.sub (ws' := [(h0, .inr (5, [.int 0, .int 0, .int 0, .int 0, .int 0, .int 0, .int 0, .ref q_1, .ref q_3, .ref q_5, .ref q_7, .ref q_9, .ref q_11, .null, .null, .null, .null, .null, .int 0, .int 0, .int 0, .int 0, .null, .int 0])), (q_13, .inr (3, [.ref q_14, .int 0]))]) [0, 1] (by decide) rfl
  refine va_putF (D := (dC, dI)) (ci := 5) (v := .ref q_13) (ty := .object "SourceBackModel$Ints") (C := R_MR) (T := F_MR) (N := 24) hx hb hts i_MR t_MR t_MR_ok n_MR hown hK.1 hP hD hS 0 rfl rfl 13 (by decide) (hts _ xm_63) (fun _ h9 => h9) rfl hin rfl (by decide +kernel) rfl rfl (Nat.le_of_ble_eq_true rfl) d_MR_init_85 (fun H locs hP hD hS => ?_)
  have hP : va_P (dC, dI) classes [(h0, .inr (5, [.int 0, .int 0, .int 0, .int 0, .int 0, .int 0, .int 0, .ref q_1, .ref q_3, .ref q_5, .ref q_7, .ref q_9, .ref q_11, .ref q_13, .null, .null, .null, .null, .int 0, .int 0, .int 0, .int 0, .null, .int 0])), (q_13, .inr (3, [.ref q_14, .int 0]))] H := hP
  have hD : va_D A [(h0, .inr (5, [.int 0, .int 0, .int 0, .int 0, .int 0, .int 0, .int 0, .ref q_1, .ref q_3, .ref q_5, .ref q_7, .ref q_9, .ref q_11, .ref q_13, .null, .null, .null, .null, .int 0, .int 0, .int 0, .int 0, .null, .int 0])), (q_13, .inr (3, [.ref q_14, .int 0]))] := hD
  have hP := hP.sub (ws' := [(h0, .inr (5, [.int 0, .int 0, .int 0, .int 0, .int 0, .int 0, .int 0, .ref q_1, .ref q_3, .ref q_5, .ref q_7, .ref q_9, .ref q_11, .ref q_13, .null, .null, .null, .null, .int 0, .int 0, .int 0, .int 0, .null, .int 0]))]) [0] rfl
  have hD := hD.sub (ws' := [(h0, .inr (5, [.int 0, .int 0, .int 0, .int 0, .int 0, .int 0, .int 0, .ref q_1, .ref q_3, .ref q_5, .ref q_7, .ref q_9, .ref q_11, .ref q_13, .null, .null, .null, .null, .int 0, .int 0, .int 0, .int 0, .null, .int 0]))]) [0] (by decide) rfl
  refine lv_aload_n hx hb d_MR_init_88 rfl (lv_at hl 0 rfl) ?_
  refine va_new (ci := 3) (fs := [.null, .int 0]) (C := R_MI) (T := F_MI) (N := 2) hx hb hts i_MI t_MI t_MI_ok hown (hts _ xm_47) (hts _ xm_33) (hts _ xm_3) hK.1 hP hD hS hA rfl (by decide +kernel) (Nat.le_of_ble_eq_true rfl) (Nat.le_of_ble_eq_true rfl) d_MR_init_89 (fun q_15 H hP hD hS => ?_)
  have hP : va_P (dC, dI) classes [(h0, .inr (5, [.int 0, .int 0, .int 0, .int 0, .int 0, .int 0, .int 0, .ref q_1, .ref q_3, .ref q_5, .ref q_7, .ref q_9, .ref q_11, .ref q_13, .null, .null, .null, .null, .int 0, .int 0, .int 0, .int 0, .null, .int 0])), (q_15, .inr (3, [.null, .int 0]))] H := hP
  have hD : va_D A [(h0, .inr (5, [.int 0, .int 0, .int 0, .int 0, .int 0, .int 0, .int 0, .ref q_1, .ref q_3, .ref q_5, .ref q_7, .ref q_9, .ref q_11, .ref q_13, .null, .null, .null, .null, .int 0, .int 0, .int 0, .int 0, .null, .int 0])), (q_15, .inr (3, [.null, .int 0]))] := hD
  refine W.widen (k := 15) (n := 44) (Nat.le_of_ble_eq_true rfl) (Nat.le_of_ble_eq_true rfl) ?_
  refine lv_dup hx hb d_MR_init_92 rfl ?_
  refine lv_iload_n hx hb d_MR_init_93 rfl (lv_at hl 1 rfl) ?_
  refine ax_I (As := [.int 4]) (rest := [.ref q_15, .ref h0]) (wr := [(h0, .inr (5, [.int 0, .int 0, .int 0, .int 0, .int 0, .int 0, .int 0, .ref q_1, .ref q_3, .ref q_5, .ref q_7, .ref q_9, .ref q_11, .ref q_13, .null, .null, .null, .null, .int 0, .int 0, .int 0, .int 0, .null, .int 0]))]) rfl hx hb hml hown hts g_wm (mK_bl dC dI ca) (c_MI_init l dC dI ca q_15) rfl xm_48 xm_35 xm_3 xm_36 (by decide +kernel) rfl (Nat.le_of_ble_eq_true rfl) (Nat.le_of_ble_eq_true rfl) hl.1 (Nat.le_of_ble_eq_true rfl) (mK_up hK) hP hD hS hA [1] [0] rfl (by decide) rfl rfl (by decide) (by decide) (Nat.le_of_ble_eq_true rfl) (Nat.le_of_ble_eq_true rfl) d_MR_init_94 (fun v q_16 H locs hp hP hD hS => ?_)
  obtain rfl : v = none := hp
  have hP : va_P (dC, dI) classes [(h0, .inr (5, [.int 0, .int 0, .int 0, .int 0, .int 0, .int 0, .int 0, .ref q_1, .ref q_3, .ref q_5, .ref q_7, .ref q_9, .ref q_11, .ref q_13, .null, .null, .null, .null, .int 0, .int 0, .int 0, .int 0, .null, .int 0])), (q_15, .inr (3, [.ref q_16, .int 0])), (q_16, .inl (ca 1, 4, .inl (fun _ => 0)))] H := hP
  have hD : va_D A [(h0, .inr (5, [.int 0, .int 0, .int 0, .int 0, .int 0, .int 0, .int 0, .ref q_1, .ref q_3, .ref q_5, .ref q_7, .ref q_9, .ref q_11, .ref q_13, .null, .null, .null, .null, .int 0, .int 0, .int 0, .int 0, .null, .int 0])), (q_15, .inr (3, [.ref q_16, .int 0])), (q_16, .inl (ca 1, 4, .inl (fun _ => 0)))] := hD
  refine W.eq (g2 := F0 m 97 ls [.ref q_15, .ref h0]) rfl ?_
  refine W.widen (k := 16) (n := 48) (Nat.le_of_ble_eq_true rfl) (Nat.le_of_ble_eq_true rfl) ?_
  have hP := hP.sub (ws' := [(h0, .inr (5, [.int 0, .int 0, .int 0, .int 0, .int 0, .int 0, .int 0, .ref q_1, .ref q_3, .ref q_5, .ref q_7, .ref q_9, .ref q_11, .ref q_13, .null, .null, .null, .null, .int 0, .int 0, .int 0, .int 0, .null, .int 0])), (q_15, .inr (3, [.ref q_16, .int 0]))]) [0, 1] rfl
  have hD := hD.sub (ws' := [(h0, .inr (5, [.int 0, .int 0, .int 0, .int 0, .int 0, .int 0, .int 0, .ref q_1, .ref q_3, .ref q_5, .ref q_7, .ref q_9, .ref q_11, .ref q_13, .null, .null, .null, .null, .int 0, .int 0, .int 0, .int 0, .null, .int 0])), (q_15, .inr (3, [.ref q_16, .int 0]))]) [0, 1] (by decide) rfl
  refine va_putF (D := (dC, dI)) (ci := 5) (v := .ref q_15) (ty := .object "SourceBackModel$Ints") (C := R_MR) (T := F_MR) (N := 24) hx hb hts i_MR t_MR t_MR_ok n_MR hown hK.1 hP hD hS 0 rfl rfl 14 (by decide) (hts _ xm_64) (fun _ h9 => h9) rfl hin rfl (by decide +kernel) rfl rfl (Nat.le_of_ble_eq_true rfl) d_MR_init_97 (fun H locs hP hD hS => ?_)
  have hP : va_P (dC, dI) classes [(h0, .inr (5, [.int 0, .int 0, .int 0, .int 0, .int 0, .int 0, .int 0, .ref q_1, .ref q_3, .ref q_5, .ref q_7, .ref q_9, .ref q_11, .ref q_13, .ref q_15, .null, .null, .null, .int 0, .int 0, .int 0, .int 0, .null, .int 0])), (q_15, .inr (3, [.ref q_16, .int 0]))] H := hP
  have hD : va_D A [(h0, .inr (5, [.int 0, .int 0, .int 0, .int 0, .int 0, .int 0, .int 0, .ref q_1, .ref q_3, .ref q_5, .ref q_7, .ref q_9, .ref q_11, .ref q_13, .ref q_15, .null, .null, .null, .int 0, .int 0, .int 0, .int 0, .null, .int 0])), (q_15, .inr (3, [.ref q_16, .int 0]))] := hD
  have hP := hP.sub (ws' := [(h0, .inr (5, [.int 0, .int 0, .int 0, .int 0, .int 0, .int 0, .int 0, .ref q_1, .ref q_3, .ref q_5, .ref q_7, .ref q_9, .ref q_11, .ref q_13, .ref q_15, .null, .null, .null, .int 0, .int 0, .int 0, .int 0, .null, .int 0]))]) [0] rfl
  have hD := hD.sub (ws' := [(h0, .inr (5, [.int 0, .int 0, .int 0, .int 0, .int 0, .int 0, .int 0, .ref q_1, .ref q_3, .ref q_5, .ref q_7, .ref q_9, .ref q_11, .ref q_13, .ref q_15, .null, .null, .null, .int 0, .int 0, .int 0, .int 0, .null, .int 0]))]) [0] (by decide) rfl
  refine lv_aload_n hx hb d_MR_init_100 rfl (lv_at hl 0 rfl) ?_
  refine va_new (ci := 4) (fs := [.null, .int 0]) (C := R_ML) (T := F_ML) (N := 2) hx hb hts i_ML t_ML t_ML_ok hown (hts _ xm_49) (hts _ xm_50) (hts _ xm_5) hK.1 hP hD hS hA rfl (by decide +kernel) (Nat.le_of_ble_eq_true rfl) (Nat.le_of_ble_eq_true rfl) d_MR_init_101 (fun q_17 H hP hD hS => ?_)
  have hP : va_P (dC, dI) classes [(h0, .inr (5, [.int 0, .int 0, .int 0, .int 0, .int 0, .int 0, .int 0, .ref q_1, .ref q_3, .ref q_5, .ref q_7, .ref q_9, .ref q_11, .ref q_13, .ref q_15, .null, .null, .null, .int 0, .int 0, .int 0, .int 0, .null, .int 0])), (q_17, .inr (4, [.null, .int 0]))] H := hP
  have hD : va_D A [(h0, .inr (5, [.int 0, .int 0, .int 0, .int 0, .int 0, .int 0, .int 0, .ref q_1, .ref q_3, .ref q_5, .ref q_7, .ref q_9, .ref q_11, .ref q_13, .ref q_15, .null, .null, .null, .int 0, .int 0, .int 0, .int 0, .null, .int 0])), (q_17, .inr (4, [.null, .int 0]))] := hD
  refine W.widen (k := 17) (n := 50) (Nat.le_of_ble_eq_true rfl) (Nat.le_of_ble_eq_true rfl) ?_
  refine lv_dup hx hb d_MR_init_104 rfl ?_
  refine lv_iload_n hx hb d_MR_init_105 rfl (lv_at hl 2 rfl) ?_
  refine ax_I (As := [.int 4]) (rest := [.ref q_17, .ref h0]) (wr := [(h0, .inr (5, [.int 0, .int 0, .int 0, .int 0, .int 0, .int 0, .int 0, .ref q_1, .ref q_3, .ref q_5, .ref q_7, .ref q_9, .ref q_11, .ref q_13, .ref q_15, .null, .null, .null, .int 0, .int 0, .int 0, .int 0, .null, .int 0]))]) rfl hx hb hml hown hts g_wm (mK_bl dC dI ca) (c_ML_init l dC dI ca q_17) rfl xm_51 xm_52 xm_5 xm_53 (by decide +kernel) rfl (Nat.le_of_ble_eq_true rfl) (Nat.le_of_ble_eq_true rfl) hl.1 (Nat.le_of_ble_eq_true rfl) (mK_up hK) hP hD hS hA [1] [0] rfl (by decide) rfl rfl (by decide) (by decide) (Nat.le_of_ble_eq_true rfl) (Nat.le_of_ble_eq_true rfl) d_MR_init_106 (fun v q_18 H locs hp hP hD hS => ?_)
  obtain rfl : v = none := hp
  have hP : va_P (dC, dI) classes [(h0, .inr (5, [.int 0, .int 0, .int 0, .int 0, .int 0, .int 0, .int 0, .ref q_1, .ref q_3, .ref q_5, .ref q_7, .ref q_9, .ref q_11, .ref q_13, .ref q_15, .null, .null, .null, .int 0, .int 0, .int 0, .int 0, .null, .int 0])), (q_17, .inr (4, [.ref q_18, .int 0])), (q_18, .inl (ca 2, 4, .inr (.inl (fun _ => 0))))] H := hP
  have hD : va_D A [(h0, .inr (5, [.int 0, .int 0, .int 0, .int 0, .int 0, .int 0, .int 0, .ref q_1, .ref q_3, .ref q_5, .ref q_7, .ref q_9, .ref q_11, .ref q_13, .ref q_15, .null, .null, .null, .int 0, .int 0, .int 0, .int 0, .null, .int 0])), (q_17, .inr (4, [.ref q_18, .int 0])), (q_18, .inl (ca 2, 4, .inr (.inl (fun _ => 0))))] := hD
  refine W.eq (g2 := F0 m 109 ls [.ref q_17, .ref h0]) rfl ?_
  refine W.widen (k := 18) (n := 54) (Nat.le_of_ble_eq_true rfl) (Nat.le_of_ble_eq_true rfl) ?_
  have hP := hP.sub (ws' := [(h0, .inr (5, [.int 0, .int 0, .int 0, .int 0, .int 0, .int 0, .int 0, .ref q_1, .ref q_3, .ref q_5, .ref q_7, .ref q_9, .ref q_11, .ref q_13, .ref q_15, .null, .null, .null, .int 0, .int 0, .int 0, .int 0, .null, .int 0])), (q_17, .inr (4, [.ref q_18, .int 0]))]) [0, 1] rfl
  have hD := hD.sub (ws' := [(h0, .inr (5, [.int 0, .int 0, .int 0, .int 0, .int 0, .int 0, .int 0, .ref q_1, .ref q_3, .ref q_5, .ref q_7, .ref q_9, .ref q_11, .ref q_13, .ref q_15, .null, .null, .null, .int 0, .int 0, .int 0, .int 0, .null, .int 0])), (q_17, .inr (4, [.ref q_18, .int 0]))]) [0, 1] (by decide) rfl
  refine va_putF (D := (dC, dI)) (ci := 5) (v := .ref q_17) (ty := .object "SourceBackModel$Longs") (C := R_MR) (T := F_MR) (N := 24) hx hb hts i_MR t_MR t_MR_ok n_MR hown hK.1 hP hD hS 0 rfl rfl 15 (by decide) (hts _ xm_65) (fun _ h9 => h9) rfl hin rfl (by decide +kernel) rfl rfl (Nat.le_of_ble_eq_true rfl) d_MR_init_109 (fun H locs hP hD hS => ?_)
  have hP : va_P (dC, dI) classes [(h0, .inr (5, [.int 0, .int 0, .int 0, .int 0, .int 0, .int 0, .int 0, .ref q_1, .ref q_3, .ref q_5, .ref q_7, .ref q_9, .ref q_11, .ref q_13, .ref q_15, .ref q_17, .null, .null, .int 0, .int 0, .int 0, .int 0, .null, .int 0])), (q_17, .inr (4, [.ref q_18, .int 0]))] H := hP
  have hD : va_D A [(h0, .inr (5, [.int 0, .int 0, .int 0, .int 0, .int 0, .int 0, .int 0, .ref q_1, .ref q_3, .ref q_5, .ref q_7, .ref q_9, .ref q_11, .ref q_13, .ref q_15, .ref q_17, .null, .null, .int 0, .int 0, .int 0, .int 0, .null, .int 0])), (q_17, .inr (4, [.ref q_18, .int 0]))] := hD
  have hP := hP.sub (ws' := [(h0, .inr (5, [.int 0, .int 0, .int 0, .int 0, .int 0, .int 0, .int 0, .ref q_1, .ref q_3, .ref q_5, .ref q_7, .ref q_9, .ref q_11, .ref q_13, .ref q_15, .ref q_17, .null, .null, .int 0, .int 0, .int 0, .int 0, .null, .int 0]))]) [0] rfl
  have hD := hD.sub (ws' := [(h0, .inr (5, [.int 0, .int 0, .int 0, .int 0, .int 0, .int 0, .int 0, .ref q_1, .ref q_3, .ref q_5, .ref q_7, .ref q_9, .ref q_11, .ref q_13, .ref q_15, .ref q_17, .null, .null, .int 0, .int 0, .int 0, .int 0, .null, .int 0]))]) [0] (by decide) rfl
  refine lv_aload_n hx hb d_MR_init_112 rfl (lv_at hl 0 rfl) ?_
  refine va_new (ci := 3) (fs := [.null, .int 0]) (C := R_MI) (T := F_MI) (N := 2) hx hb hts i_MI t_MI t_MI_ok hown (hts _ xm_47) (hts _ xm_33) (hts _ xm_3) hK.1 hP hD hS hA rfl (by decide +kernel) (Nat.le_of_ble_eq_true rfl) (Nat.le_of_ble_eq_true rfl) d_MR_init_113 (fun q_19 H hP hD hS => ?_)
  have hP : va_P (dC, dI) classes [(h0, .inr (5, [.int 0, .int 0, .int 0, .int 0, .int 0, .int 0, .int 0, .ref q_1, .ref q_3, .ref q_5, .ref q_7, .ref q_9, .ref q_11, .ref q_13, .ref q_15, .ref q_17, .null, .null, .int 0, .int 0, .int 0, .int 0, .null, .int 0])), (q_19, .inr (3, [.null, .int 0]))] H := hP
  have hD : va_D A [(h0, .inr (5, [.int 0, .int 0, .int 0, .int 0, .int 0, .int 0, .int 0, .ref q_1, .ref q_3, .ref q_5, .ref q_7, .ref q_9, .ref q_11, .ref q_13, .ref q_15, .ref q_17, .null, .null, .int 0, .int 0, .int 0, .int 0, .null, .int 0])), (q_19, .inr (3, [.null, .int 0]))] := hD
  refine W.widen (k := 19) (n := 56) (Nat.le_of_ble_eq_true rfl) (Nat.le_of_ble_eq_true rfl) ?_
  refine lv_dup hx hb d_MR_init_116 rfl ?_
  refine lv_iload_n hx hb d_MR_init_117 rfl (lv_at hl 2 rfl) ?_
  refine ax_I (As := [.int 4]) (rest := [.ref q_19, .ref h0]) (wr := [(h0, .inr (5, [.int 0, .int 0, .int 0, .int 0, .int 0, .int 0, .int 0, .ref q_1, .ref q_3, .ref q_5, .ref q_7, .ref q_9, .ref q_11, .ref q_13, .ref q_15, .ref q_17, .null, .null, .int 0, .int 0, .int 0, .int 0, .null, .int 0]))]) rfl hx hb hml hown hts g_wm (mK_bl dC dI ca) (c_MI_init l dC dI ca q_19) rfl xm_48 xm_35 xm_3 xm_36 (by decide +kernel) rfl (Nat.le_of_ble_eq_true rfl) (Nat.le_of_ble_eq_true rfl) hl.1 (Nat.le_of_ble_eq_true rfl) (mK_up hK) hP hD hS hA [1] [0] rfl (by decide) rfl rfl (by decide) (by decide) (Nat.le_of_ble_eq_true rfl) (Nat.le_of_ble_eq_true rfl) d_MR_init_118 (fun v q_20 H locs hp hP hD hS => ?_)
  obtain rfl : v = none := hp
  have hP : va_P (dC, dI) classes [(h0, .inr (5, [.int 0, .int 0, .int 0, .int 0, .int 0, .int 0, .int 0, .ref q_1, .ref q_3, .ref q_5, .ref q_7, .ref q_9, .ref q_11, .ref q_13, .ref q_15, .ref q_17, .null, .null, .int 0, .int 0, .int 0, .int 0, .null, .int 0])), (q_19, .inr (3, [.ref q_20, .int 0])), (q_20, .inl (ca 1, 4, .inl (fun _ => 0)))] H := hP
  have hD : va_D A [(h0, .inr (5, [.int 0, .int 0, .int 0, .int 0, .int 0, .int 0, .int 0, .ref q_1, .ref q_3, .ref q_5, .ref q_7, .ref q_9, .ref q_11, .ref q_13, .ref q_15, .ref q_17, .null, .null, .int 0, .int 0, .int 0, .int 0, .null, .int 0])), (q_19, .inr (3, [.ref q_20, .int 0])), (q_20, .inl (ca 1, 4, .inl (fun _ => 0)))] := hD
  refine W.eq (g2 := F0 m 121 ls [.ref q_19, .ref h0]) rfl ?_
  refine W.widen (k := 20) (n := 60) (Nat.le_of_ble_eq_true rfl) (Nat.le_of_ble_eq_true rfl) ?_
  have hP := hP.sub (ws' := [(h0, .inr (5, [.int 0, .int 0, .int 0, .int 0, .int 0, .int 0, .int 0, .ref q_1, .ref q_3, .ref q_5, .ref q_7, .ref q_9, .ref q_11, .ref q_13, .ref q_15, .ref q_17, .null, .null, .int 0, .int 0, .int 0, .int 0, .null, .int 0])), (q_19, .inr (3, [.ref q_20, .int 0]))]) [0, 1] rfl
  have hD := hD.sub (ws' := [(h0, .inr (5, [.int 0, .int 0, .int 0, .int 0, .int 0, .int 0, .int 0, .ref q_1, .ref q_3, .ref q_5, .ref q_7, .ref q_9, .ref q_11, .ref q_13, .ref q_15, .ref q_17, .null, .null, .int 0, .int 0, .int 0, .int 0, .null, .int 0])), (q_19, .inr (3, [.ref q_20, .int 0]))]) [0, 1] (by decide) rfl
  refine va_putF (D := (dC, dI)) (ci := 5) (v := .ref q_19) (ty := .object "SourceBackModel$Ints") (C := R_MR) (T := F_MR) (N := 24) hx hb hts i_MR t_MR t_MR_ok n_MR hown hK.1 hP hD hS 0 rfl rfl 16 (by decide) (hts _ xm_66) (fun _ h9 => h9) rfl hin rfl (by decide +kernel) rfl rfl (Nat.le_of_ble_eq_true rfl) d_MR_init_121 (fun H locs hP hD hS => ?_)
  have hP : va_P (dC, dI) classes [(h0, .inr (5, [.int 0, .int 0, .int 0, .int 0, .int 0, .int 0, .int 0, .ref q_1, .ref q_3, .ref q_5, .ref q_7, .ref q_9, .ref q_11, .ref q_13, .ref q_15, .ref q_17, .ref q_19, .null, .int 0, .int 0, .int 0, .int 0, .null, .int 0])), (q_19, .inr (3, [.ref q_20, .int 0]))] H := hP
  have hD : va_D A [(h0, .inr (5, [.int 0, .int 0, .int 0, .int 0, .int 0, .int 0, .int 0, .ref q_1, .ref q_3, .ref q_5, .ref q_7, .ref q_9, .ref q_11, .ref q_13, .ref q_15, .ref q_17, .ref q_19, .null, .int 0, .int 0, .int 0, .int 0, .null, .int 0])), (q_19, .inr (3, [.ref q_20, .int 0]))] := hD
  have hP := hP.sub (ws' := [(h0, .inr (5, [.int 0, .int 0, .int 0, .int 0, .int 0, .int 0, .int 0, .ref q_1, .ref q_3, .ref q_5, .ref q_7, .ref q_9, .ref q_11, .ref q_13, .ref q_15, .ref q_17, .ref q_19, .null, .int 0, .int 0, .int 0, .int 0, .null, .int 0]))]) [0] rfl
  have hD := hD.sub (ws' := [(h0, .inr (5, [.int 0, .int 0, .int 0, .int 0, .int 0, .int 0, .int 0, .ref q_1, .ref q_3, .ref q_5, .ref q_7, .ref q_9, .ref q_11, .ref q_13, .ref q_15, .ref q_17, .ref q_19, .null, .int 0, .int 0, .int 0, .int 0, .null, .int 0]))]) [0] (by decide) rfl
  exact ax_vret hx hb hr hlocks hP hD hS [.int 0, .int 0, .int 0, .int 0, .int 0, .int 0, .int 0, .ref q_1, .ref q_3, .ref q_5, .ref q_7, .ref q_9, .ref q_11, .ref q_13, .ref q_15, .ref q_17, .ref q_19, .null, .int 0, .int 0, .int 0, .int 0, .null, .int 0] rfl [0] rfl (by decide) rfl (Nat.le_of_ble_eq_true rfl) (Nat.le_of_ble_eq_true rfl) d_MR_init_124
end
section
theorem d_MM_in_0 : decode b_MM_in 0 = .ok (.lload_n 0, 1) := by decide +kernel
theorem d_MM_in_1 : decode b_MM_in 1 = .ok (.lload_n 2, 1) := by decide +kernel
theorem d_MM_in_2 : decode b_MM_in 2 = .ok (.lcmp, 1) := by decide +kernel
theorem d_MM_in_3 : decode b_MM_in 3 = .ok (.ifCond .lt 14, 3) := by decide +kernel
theorem d_MM_in_6 : decode b_MM_in 6 = .ok (.lload_n 0, 1) := by decide +kernel
theorem d_MM_in_7 : decode b_MM_in 7 = .ok (.lload 4, 2) := by decide +kernel
theorem d_MM_in_9 : decode b_MM_in 9 = .ok (.lcmp, 1) := by decide +kernel
theorem d_MM_in_10 : decode b_MM_in 10 = .ok (.ifCond .gt 7, 3) := by decide +kernel
theorem d_MM_in_13 : decode b_MM_in 13 = .ok (.iconst 1, 1) := by decide +kernel
theorem d_MM_in_14 : decode b_MM_in 14 = .ok (.goto 4, 3) := by decide +kernel
theorem d_MM_in_17 : decode b_MM_in 17 = .ok (.iconst 0, 1) := by decide +kernel
theorem d_MM_in_18 : decode b_MM_in 18 = .ok (.ireturn, 1) := by decide +kernel
theorem lg_lt0 {x y : Int64} : lg_cmp x y < 0 ↔ x < y := by
  unfold lg_cmp
  by_cases h1 : y < x
  · have h2 : ¬ x < y := by rw [Int64.lt_iff_toInt_lt] at *; omega
    simp [h1, h2]
  · by_cases h3 : x = y
    · subst h3; simp
    · have h2 : x < y := by
        rw [Int64.lt_iff_toInt_lt] at *
        have : x.toInt ≠ y.toInt := fun h => h3 (Int64.toInt_inj.mp h)
        omega
      simp [h1, h3, h2]
theorem lg_gt0 {x y : Int64} : 0 < lg_cmp x y ↔ y < x := by
  unfold lg_cmp
  by_cases h1 : y < x
  · simp [h1]
  · by_cases h3 : x = y
    · subst h3; simp
    · simp [h1, h3]
set_option maxHeartbeats 4000000 in
theorem c_MM_in (l : Launch) (dC : Nat → ClassId) (dI : Nat → Nat → Nat) (ca : Nat → ClassId) (x lo hi : Int64) : CT l classes (dC, dI) (mK dC dI ca) wm y_MM_in b_MM_in 6 (some .boolean) 0 0 0 0 [.long x, .long lo, .long hi] [] (fun (v : Option Value) (_ : Unit) => (v = some (.int 1) ∧ lo ≤ x ∧ x ≤ hi) ∨ (v = some (.int 0) ∧ ¬ (lo ≤ x ∧ x ≤ hi))) (fun _ => []) := by
  refine ax_of (by decide) (Nat.le_of_ble_eq_true rfl) ?_
  intro p e s m below meth c A ls hAt hK hP hD hS hA hl
  obtain ⟨hx, hb, hr, hml, hown, hts, hlocks, hin⟩ := hAt
  have hl : lv_has ls 6 [(0, .long x), (2, .long lo), (4, .long hi)] := hl
  refine lv_lload_n hx hb d_MM_in_0 rfl (lv_at hl 0 rfl) ?_
  refine lv_lload_n hx hb d_MM_in_1 rfl (lv_at hl 1 rfl) ?_
  refine W.lcmp hx hb d_MM_in_2 ?_
  refine lv_if_lt (tgt := 17) hx hb d_MM_in_3 (by decide) (fun h1 => ?_) (fun h1 => ?_)
  · refine lv_iconst (v := 0) hx hb d_MM_in_17 (by decide) ?_
    exact ax_zret hx hb hr (by decide) hlocks hP hD hS () (Or.inr ⟨rfl, fun h => Int64.not_le.mpr (lg_lt0.mp h1) h.1⟩) [] rfl (by decide) rfl (Nat.le_refl _) (Nat.le_refl _) d_MM_in_18
  · refine lv_lload_n hx hb d_MM_in_6 rfl (lv_at hl 0 rfl) ?_
    refine lv_lload hx hb d_MM_in_7 (lv_at hl 2 rfl) ?_
    refine W.lcmp hx hb d_MM_in_9 ?_
    refine lv_if_gt (tgt := 17) hx hb d_MM_in_10 (by decide) (fun h2 => ?_) (fun h2 => ?_)
    · refine lv_iconst (v := 0) hx hb d_MM_in_17 (by decide) ?_
      exact ax_zret hx hb hr (by decide) hlocks hP hD hS () (Or.inr ⟨rfl, fun h => Int64.not_le.mpr (lg_gt0.mp h2) h.2⟩) [] rfl (by decide) rfl (Nat.le_refl _) (Nat.le_refl _) d_MM_in_18
    · refine lv_iconst (v := 1) hx hb d_MM_in_13 (by decide) ?_
      refine lv_goto (tgt := 18) hx hb d_MM_in_14 (by decide) ?_
      exact ax_zret hx hb hr (by decide) hlocks hP hD hS () (Or.inl ⟨rfl, Int64.not_lt.mp (fun h => h1 (lg_lt0.mpr h)), Int64.not_lt.mp (fun h => h2 (lg_gt0.mpr h))⟩) [] rfl (by decide) rfl (Nat.le_refl _) (Nat.le_refl _) d_MM_in_18
theorem in_no {x : Int64} : ¬ (0 ≤ x ∧ x ≤ -1) := by
  intro h
  have h1 := Int64.le_iff_toInt_le.mp h.1
  have h2 := Int64.le_iff_toInt_le.mp h.2
  have e1 : (0 : Int64).toInt = 0 := by decide
  have e2 : (-1 : Int64).toInt = -1 := by decide
  omega
/-- the fields of a fresh reference: its refs by q, all numbers 0 but thrown -/
def mF (q : Nat → Nat) (th : Int32) : List Value := [.int th, .ref (q 1), .ref (q 2), .ref (q 3), .ref (q 4), .ref (q 5), .int 0, .int 0, .int 0, .ref (q 9), .ref (q 10), .ref (q 11), .ref (q 12), .int 0, .null, .ref (q 15), .int 0, .ref (q 17), .ref (q 18), .ref (q 19), .ref (q 20), .ref (q 21), .ref (q 22), .int 0, .int 0, .int 0, .int 0, .ref (q 27), .ref (q 28), .ref (q 29), .ref (q 30), .ref (q 31), .ref (q 32), .ref (q 33), .int 0, .ref (q 35), .ref (q 36), .ref (q 37), .ref (q 38), .ref (q 39), .ref (q 40), .ref (q 41), .ref (q 42), .ref (q 43), .ref (q 44), .ref (q 45), .ref (q 46), .ref (q 47), .ref (q 48), .ref (q 49), .ref (q 50), .ref (q 51), .ref (q 52), .ref (q 53), .ref (q 54), .ref (q 55), .ref (q 56), .ref (q 57), .ref (q 58), .ref (q 59), .ref (q 60), .ref (q 61), .int 0, .int 0, .ref (q 64), .int 0, .int 0, .int 0, .int 0, .int 0, .ref (q 70), .null, .ref (q 72), .ref (q 73), .int 0, .int 0, .ref (q 76), .ref (q 77), .ref (q 78), .int 0, .ref (q 80), .null, .int 0, .int 0, .int 0, .int 0, .int 0, .null, .null, .int 0, .ref (q 90), .ref (q 91), .int 0, .ref (q 93), .ref (q 94), .ref (q 95), .ref (q 96), .int 0, .int 0, .int 0, .int 0, .int 0, .int 0, .ref (q 103), .ref (q 104), .int 0, .ref (q 106), .null, .ref (q 108), .ref (q 109), .ref (q 110), .ref (q 111), .ref (q 112), .ref (q 113), .ref (q 114), .int 0, .ref (q 116), .ref (q 117), .ref (q 118), .ref (q 119), .ref (q 120), .ref (q 121), .ref (q 122), .ref (q 123), .ref (q 124), .ref (q 125), .ref (q 126), .ref (q 127), .ref (q 128), .ref (q 129), .int 0, .int 0]
theorem d_MM_isMember_0 : decode b_MM_isMember 0 = .ok (.iload_n 1, 1) := by decide +kernel
theorem d_MM_isMember_1 : decode b_MM_isMember 1 = .ok (.i2l, 1) := by decide +kernel
theorem d_MM_isMember_2 : decode b_MM_isMember 2 = .ok (.lconst 0, 1) := by decide +kernel
theorem d_MM_isMember_3 : decode b_MM_isMember 3 = .ok (.aload_n 0, 1) := by decide +kernel
theorem d_MM_isMember_4 : decode b_MM_isMember 4 = .ok (.getfield 410, 3) := by decide +kernel
theorem d_MM_isMember_7 : decode b_MM_isMember 7 = .ok (.iconst 1, 1) := by decide +kernel
theorem d_MM_isMember_8 : decode b_MM_isMember 8 = .ok (.isub, 1) := by decide +kernel
theorem d_MM_isMember_9 : decode b_MM_isMember 9 = .ok (.i2l, 1) := by decide +kernel
theorem d_MM_isMember_10 : decode b_MM_isMember 10 = .ok (.invokestatic 349, 3) := by decide +kernel
theorem d_MM_isMember_13 : decode b_MM_isMember 13 = .ok (.ifCond .eq 28, 3) := by decide +kernel
theorem d_MM_isMember_41 : decode b_MM_isMember 41 = .ok (.iconst 0, 1) := by decide +kernel
theorem d_MM_isMember_42 : decode b_MM_isMember 42 = .ok (.ireturn, 1) := by decide +kernel
set_option maxHeartbeats 4000000 in
set_option maxRecDepth 100000 in
theorem c_MM_isMember (l : Launch) (dC : Nat → ClassId) (dI : Nat → Nat → Nat) (ca : Nat → ClassId) (h0 : Nat) (q : Nat → Nat) (th : Int32) (f g : Int32) : CT l classes (dC, dI) (mK dC dI ca) wm y_MM_isMember b_MM_isMember 3 (some (.boolean)) 1 25 0 0 [.ref h0, .int f, .int g] [(h0, .inr (0, mF q th))] (fun (v : Option Value) (_ : Unit) => v = some (.int 0)) (fun (_ : Unit) => [(h0, .inr (0, mF q th))]) := by
  refine ax_of (by decide) (Nat.le_of_ble_eq_true rfl) ?_
  intro p e s m below meth c A ls hAt hK hP hD hS hA hl
  obtain ⟨hx, hb, hr, hml, hown, hts, hlocks, hin⟩ := hAt
  have hl : lv_has ls 3 [(0, .ref h0), (1, .int f), (2, .int g)] := hl
  refine lv_iload_n hx hb d_MM_isMember_0 rfl (lv_at hl 1 rfl) ?_
  refine lv_i2l hx hb d_MM_isMember_1 rfl ?_
  refine lv_lconst (v := 0) hx hb d_MM_isMember_2 (by decide) ?_
  refine lv_aload_n hx hb d_MM_isMember_3 rfl (lv_at hl 0 rfl) ?_
  refine va_get (D := (dC, dI)) (ci := 0) (v := .int 0) (C := R_MM) (T := F_MM) (N := 132) hx hb hts i_MM hown hK.1 hP 0 rfl rfl 8 (by decide) (hts _ xm_81) (fun _ h9 => h9) rfl d_MM_isMember_4 ?_
  refine lv_iconst (v := 1) hx hb d_MM_isMember_7 (by decide) ?_
  refine lv_isub hx hb d_MM_isMember_8 ?_
  refine lv_topi (fun z e9 => ?_)
  obtain rfl : z = (-1) := by rw [e9]; decide
  refine lv_i2l (v := (-1)) hx hb d_MM_isMember_9 (by decide) ?_
  refine ax_St (k := 3) (As := [.long (f.toInt64), .long 0, .long (-1)]) (rest := []) (wr := [(h0, .inr (0, mF q th))]) rfl hx hb hml hown hts g_wm (mK_bl dC dI ca) (c_MM_in l dC dI ca (f.toInt64) 0 (-1)) xm_182 xm_183 xm_0 xm_184 (by decide +kernel) rfl (Nat.le_of_ble_eq_true rfl) (Nat.le_of_ble_eq_true rfl) hl.1 (Nat.le_of_ble_eq_true rfl) (mK_up hK) hP hD hS hA [] [0] rfl (by decide) rfl rfl (by decide) (by decide) (Nat.le_of_ble_eq_true rfl) (Nat.le_of_ble_eq_true rfl) d_MM_isMember_10 (fun v _ H locs hp hP hD hS => ?_)
  obtain rfl : v = some (.int 0) := hp.elim (fun h => absurd h.2 in_no) (fun h => h.1)
  have hP : va_P (dC, dI) classes [(h0, .inr (0, mF q th))] H := hP
  have hD : va_D A [(h0, .inr (0, mF q th))] := hD
  refine W.eq (g2 := F0 m 13 ls [.int 0]) rfl ?_
  refine lv_if_eq (tgt := 41) hx hb d_MM_isMember_13 (by decide) (fun _ => ?_) (fun h => absurd (by decide) h)
  refine lv_iconst (v := 0) hx hb d_MM_isMember_41 (by decide) ?_
  exact ax_zret hx hb hr (by decide) hlocks hP hD hS () rfl [0] rfl (by decide) rfl (Nat.le_of_ble_eq_true rfl) (Nat.le_of_ble_eq_true rfl) d_MM_isMember_42
theorem d_MM_file_0 : decode b_MM_file 0 = .ok (.aload_n 0, 1) := by decide +kernel
theorem d_MM_file_1 : decode b_MM_file 1 = .ok (.iconst 0, 1) := by decide +kernel
theorem d_MM_file_2 : decode b_MM_file 2 = .ok (.putfield 343, 3) := by decide +kernel
theorem d_MM_file_5 : decode b_MM_file 5 = .ok (.iload_n 1, 1) := by decide +kernel
theorem d_MM_file_6 : decode b_MM_file 6 = .ok (.i2l, 1) := by decide +kernel
theorem d_MM_file_7 : decode b_MM_file 7 = .ok (.lconst 0, 1) := by decide +kernel
theorem d_MM_file_8 : decode b_MM_file 8 = .ok (.aload_n 0, 1) := by decide +kernel
theorem d_MM_file_9 : decode b_MM_file 9 = .ok (.getfield 410, 3) := by decide +kernel
theorem d_MM_file_12 : decode b_MM_file 12 = .ok (.iconst 1, 1) := by decide +kernel
theorem d_MM_file_13 : decode b_MM_file 13 = .ok (.isub, 1) := by decide +kernel
theorem d_MM_file_14 : decode b_MM_file 14 = .ok (.i2l, 1) := by decide +kernel
theorem d_MM_file_15 : decode b_MM_file 15 = .ok (.invokestatic 349, 3) := by decide +kernel
theorem d_MM_file_18 : decode b_MM_file 18 = .ok (.ifCond .ne 5, 3) := by decide +kernel
theorem d_MM_file_21 : decode b_MM_file 21 = .ok (.iconst (-1), 1) := by decide +kernel
theorem d_MM_file_22 : decode b_MM_file 22 = .ok (.ireturn, 1) := by decide +kernel
set_option maxHeartbeats 4000000 in
set_option maxRecDepth 100000 in
theorem c_MM_file (l : Launch) (dC : Nat → ClassId) (dI : Nat → Nat → Nat) (ca : Nat → ClassId) (h0 : Nat) (q : Nat → Nat) (th : Int32) (f g : Int32) : CT l classes (dC, dI) (mK dC dI ca) wm y_MM_file b_MM_file 4 (some (.int)) 1 25 0 0 [.ref h0, .int f, .int g] [(h0, .inr (0, mF q th))] (fun (v : Option Value) (_ : Unit) => v = some (.int (-1))) (fun (_ : Unit) => [(h0, .inr (0, mF q 0))]) := by
  refine ax_of (by decide) (Nat.le_of_ble_eq_true rfl) ?_
  intro p e s m below meth c A ls hAt hK hP hD hS hA hl
  obtain ⟨hx, hb, hr, hml, hown, hts, hlocks, hin⟩ := hAt
  have hl : lv_has ls 4 [(0, .ref h0), (1, .int f), (2, .int g)] := hl
  refine lv_aload_n hx hb d_MM_file_0 rfl (lv_at hl 0 rfl) ?_
  refine lv_iconst (v := 0) hx hb d_MM_file_1 (by decide) ?_
  refine va_put (D := (dC, dI)) (ci := 0) (v := .int 0) (ty := .int) (C := R_MM) (T := F_MM) (N := 132) hx hb hts i_MM t_MM t_MM_ok n_MM hown hK.1 hP hD hS 0 rfl rfl 0 (by decide) (hts _ xm_73) (fun _ h9 => h9) rfl (by decide +kernel) rfl rfl (Nat.le_of_ble_eq_true rfl) d_MM_file_2 (fun H locs hP hD hS => ?_)
  have hP : va_P (dC, dI) classes [(h0, .inr (0, mF q 0))] H := hP
  have hD : va_D A [(h0, .inr (0, mF q 0))] := hD
  refine lv_iload_n hx hb d_MM_file_5 rfl (lv_at hl 1 rfl) ?_
  refine lv_i2l hx hb d_MM_file_6 rfl ?_
  refine lv_lconst (v := 0) hx hb d_MM_file_7 (by decide) ?_
  refine lv_aload_n hx hb d_MM_file_8 rfl (lv_at hl 0 rfl) ?_
  refine va_get (D := (dC, dI)) (ci := 0) (v := .int 0) (C := R_MM) (T := F_MM) (N := 132) hx hb hts i_MM hown hK.1 hP 0 rfl rfl 8 (by decide) (hts _ xm_81) (fun _ h9 => h9) rfl d_MM_file_9 ?_
  refine lv_iconst (v := 1) hx hb d_MM_file_12 (by decide) ?_
  refine lv_isub hx hb d_MM_file_13 ?_
  refine lv_topi (fun z e9 => ?_)
  obtain rfl : z = (-1) := by rw [e9]; decide
  refine lv_i2l (v := (-1)) hx hb d_MM_file_14 (by decide) ?_
  refine ax_St (k := 3) (As := [.long (f.toInt64), .long 0, .long (-1)]) (rest := []) (wr := [(h0, .inr (0, mF q 0))]) rfl hx hb hml hown hts g_wm (mK_bl dC dI ca) (c_MM_in l dC dI ca (f.toInt64) 0 (-1)) xm_182 xm_183 xm_0 xm_184 (by decide +kernel) rfl (Nat.le_of_ble_eq_true rfl) (Nat.le_of_ble_eq_true rfl) hl.1 (Nat.le_of_ble_eq_true rfl) (mK_up hK) hP hD hS hA [] [0] rfl (by decide) rfl rfl (by decide) (by decide) (Nat.le_of_ble_eq_true rfl) (Nat.le_of_ble_eq_true rfl) d_MM_file_15 (fun v _ H locs hp hP hD hS => ?_)
  obtain rfl : v = some (.int 0) := hp.elim (fun h => absurd h.2 in_no) (fun h => h.1)
  have hP : va_P (dC, dI) classes [(h0, .inr (0, mF q 0))] H := hP
  have hD : va_D A [(h0, .inr (0, mF q 0))] := hD
  refine W.eq (g2 := F0 m 18 ls [.int 0]) rfl ?_
  refine lv_if_ne (tgt := 23) hx hb d_MM_file_18 (by decide) (fun h => absurd h (by decide)) (fun _ => ?_)
  refine lv_iconst (v := (-1)) hx hb d_MM_file_21 (by decide) ?_
  exact ax_iret hx hb hr hlocks hP hD hS () rfl [0] rfl (by decide) rfl (Nat.le_of_ble_eq_true rfl) (Nat.le_of_ble_eq_true rfl) d_MM_file_22
theorem d_MM_byteAt_0 : decode b_MM_byteAt 0 = .ok (.aload_n 0, 1) := by decide +kernel
theorem d_MM_byteAt_1 : decode b_MM_byteAt 1 = .ok (.iconst 0, 1) := by decide +kernel
theorem d_MM_byteAt_2 : decode b_MM_byteAt 2 = .ok (.putfield 343, 3) := by decide +kernel
theorem d_MM_byteAt_5 : decode b_MM_byteAt 5 = .ok (.iload_n 1, 1) := by decide +kernel
theorem d_MM_byteAt_6 : decode b_MM_byteAt 6 = .ok (.i2l, 1) := by decide +kernel
theorem d_MM_byteAt_7 : decode b_MM_byteAt 7 = .ok (.lconst 0, 1) := by decide +kernel
theorem d_MM_byteAt_8 : decode b_MM_byteAt 8 = .ok (.aload_n 0, 1) := by decide +kernel
theorem d_MM_byteAt_9 : decode b_MM_byteAt 9 = .ok (.getfield 410, 3) := by decide +kernel
theorem d_MM_byteAt_12 : decode b_MM_byteAt 12 = .ok (.iconst 1, 1) := by decide +kernel
theorem d_MM_byteAt_13 : decode b_MM_byteAt 13 = .ok (.isub, 1) := by decide +kernel
theorem d_MM_byteAt_14 : decode b_MM_byteAt 14 = .ok (.i2l, 1) := by decide +kernel
theorem d_MM_byteAt_15 : decode b_MM_byteAt 15 = .ok (.invokestatic 349, 3) := by decide +kernel
theorem d_MM_byteAt_18 : decode b_MM_byteAt 18 = .ok (.ifCond .eq 30, 3) := by decide +kernel
theorem d_MM_byteAt_48 : decode b_MM_byteAt 48 = .ok (.iconst (-1), 1) := by decide +kernel
theorem d_MM_byteAt_49 : decode b_MM_byteAt 49 = .ok (.ireturn, 1) := by decide +kernel
set_option maxHeartbeats 4000000 in
set_option maxRecDepth 100000 in
theorem c_MM_byteAt (l : Launch) (dC : Nat → ClassId) (dI : Nat → Nat → Nat) (ca : Nat → ClassId) (h0 : Nat) (q : Nat → Nat) (th : Int32) (f g i : Int32) : CT l classes (dC, dI) (mK dC dI ca) wm y_MM_byteAt b_MM_byteAt 5 (some (.int)) 1 25 0 0 [.ref h0, .int f, .int g, .int i] [(h0, .inr (0, mF q th))] (fun (v : Option Value) (_ : Unit) => v = some (.int (-1))) (fun (_ : Unit) => [(h0, .inr (0, mF q 0))]) := by
  refine ax_of (by decide) (Nat.le_of_ble_eq_true rfl) ?_
  intro p e s m below meth c A ls hAt hK hP hD hS hA hl
  obtain ⟨hx, hb, hr, hml, hown, hts, hlocks, hin⟩ := hAt
  have hl : lv_has ls 5 [(0, .ref h0), (1, .int f), (2, .int g), (3, .int i)] := hl
  refine lv_aload_n hx hb d_MM_byteAt_0 rfl (lv_at hl 0 rfl) ?_
  refine lv_iconst (v := 0) hx hb d_MM_byteAt_1 (by decide) ?_
  refine va_put (D := (dC, dI)) (ci := 0) (v := .int 0) (ty := .int) (C := R_MM) (T := F_MM) (N := 132) hx hb hts i_MM t_MM t_MM_ok n_MM hown hK.1 hP hD hS 0 rfl rfl 0 (by decide) (hts _ xm_73) (fun _ h9 => h9) rfl (by decide +kernel) rfl rfl (Nat.le_of_ble_eq_true rfl) d_MM_byteAt_2 (fun H locs hP hD hS => ?_)
  have hP : va_P (dC, dI) classes [(h0, .inr (0, mF q 0))] H := hP
  have hD : va_D A [(h0, .inr (0, mF q 0))] := hD
  refine lv_iload_n hx hb d_MM_byteAt_5 rfl (lv_at hl 1 rfl) ?_
  refine lv_i2l hx hb d_MM_byteAt_6 rfl ?_
  refine lv_lconst (v := 0) hx hb d_MM_byteAt_7 (by decide) ?_
  refine lv_aload_n hx hb d_MM_byteAt_8 rfl (lv_at hl 0 rfl) ?_
  refine va_get (D := (dC, dI)) (ci := 0) (v := .int 0) (C := R_MM) (T := F_MM) (N := 132) hx hb hts i_MM hown hK.1 hP 0 rfl rfl 8 (by decide) (hts _ xm_81) (fun _ h9 => h9) rfl d_MM_byteAt_9 ?_
  refine lv_iconst (v := 1) hx hb d_MM_byteAt_12 (by decide) ?_
  refine lv_isub hx hb d_MM_byteAt_13 ?_
  refine lv_topi (fun z e9 => ?_)
  obtain rfl : z = (-1) := by rw [e9]; decide
  refine lv_i2l (v := (-1)) hx hb d_MM_byteAt_14 (by decide) ?_
  refine ax_St (k := 3) (As := [.long (f.toInt64), .long 0, .long (-1)]) (rest := []) (wr := [(h0, .inr (0, mF q 0))]) rfl hx hb hml hown hts g_wm (mK_bl dC dI ca) (c_MM_in l dC dI ca (f.toInt64) 0 (-1)) xm_182 xm_183 xm_0 xm_184 (by decide +kernel) rfl (Nat.le_of_ble_eq_true rfl) (Nat.le_of_ble_eq_true rfl) hl.1 (Nat.le_of_ble_eq_true rfl) (mK_up hK) hP hD hS hA [] [0] rfl (by decide) rfl rfl (by decide) (by decide) (Nat.le_of_ble_eq_true rfl) (Nat.le_of_ble_eq_true rfl) d_MM_byteAt_15 (fun v _ H locs hp hP hD hS => ?_)
  obtain rfl : v = some (.int 0) := hp.elim (fun h => absurd h.2 in_no) (fun h => h.1)
  have hP : va_P (dC, dI) classes [(h0, .inr (0, mF q 0))] H := hP
  have hD : va_D A [(h0, .inr (0, mF q 0))] := hD
  refine W.eq (g2 := F0 m 18 ls [.int 0]) rfl ?_
  refine lv_if_eq (tgt := 48) hx hb d_MM_byteAt_18 (by decide) (fun _ => ?_) (fun h => absurd (by decide) h)
  refine lv_iconst (v := (-1)) hx hb d_MM_byteAt_48 (by decide) ?_
  exact ax_iret hx hb hr hlocks hP hD hS () rfl [0] rfl (by decide) rfl (Nat.le_of_ble_eq_true rfl) (Nat.le_of_ble_eq_true rfl) d_MM_byteAt_49
theorem d_MM_member_1_0 : decode b_MM_member_1 0 = .ok (.aload_n 0, 1) := by decide +kernel
theorem d_MM_member_1_1 : decode b_MM_member_1 1 = .ok (.iconst 0, 1) := by decide +kernel
theorem d_MM_member_1_2 : decode b_MM_member_1 2 = .ok (.putfield 343, 3) := by decide +kernel
theorem d_MM_member_1_5 : decode b_MM_member_1 5 = .ok (.aload_n 0, 1) := by decide +kernel
theorem d_MM_member_1_6 : decode b_MM_member_1 6 = .ok (.iload_n 1, 1) := by decide +kernel
theorem d_MM_member_1_7 : decode b_MM_member_1 7 = .ok (.iload_n 2, 1) := by decide +kernel
theorem d_MM_member_1_8 : decode b_MM_member_1 8 = .ok (.invokevirtual 1468, 3) := by decide +kernel
theorem d_MM_member_1_11 : decode b_MM_member_1 11 = .ok (.ifCond .ne 5, 3) := by decide +kernel
theorem d_MM_member_1_14 : decode b_MM_member_1 14 = .ok (.iconst (-1), 1) := by decide +kernel
theorem d_MM_member_1_15 : decode b_MM_member_1 15 = .ok (.ireturn, 1) := by decide +kernel
set_option maxHeartbeats 4000000 in
set_option maxRecDepth 100000 in
theorem c_MM_member_1 (l : Launch) (dC : Nat → ClassId) (dI : Nat → Nat → Nat) (ca : Nat → ClassId) (h0 : Nat) (q : Nat → Nat) (th : Int32) (f g i : Int32) : CT l classes (dC, dI) (mK dC dI ca) wm y_MM_member_1 b_MM_member_1 5 (some (.int)) 2 47 0 0 [.ref h0, .int f, .int g, .int i] [(h0, .inr (0, mF q th))] (fun (v : Option Value) (_ : Unit) => v = some (.int (-1))) (fun (_ : Unit) => [(h0, .inr (0, mF q 0))]) := by
  refine ax_of (by decide) (Nat.le_of_ble_eq_true rfl) ?_
  intro p e s m below meth c A ls hAt hK hP hD hS hA hl
  obtain ⟨hx, hb, hr, hml, hown, hts, hlocks, hin⟩ := hAt
  have hl : lv_has ls 5 [(0, .ref h0), (1, .int f), (2, .int g), (3, .int i)] := hl
  refine lv_aload_n hx hb d_MM_member_1_0 rfl (lv_at hl 0 rfl) ?_
  refine lv_iconst (v := 0) hx hb d_MM_member_1_1 (by decide) ?_
  refine va_put (D := (dC, dI)) (ci := 0) (v := .int 0) (ty := .int) (C := R_MM) (T := F_MM) (N := 132) hx hb hts i_MM t_MM t_MM_ok n_MM hown hK.1 hP hD hS 0 rfl rfl 0 (by decide) (hts _ xm_73) (fun _ h9 => h9) rfl (by decide +kernel) rfl rfl (Nat.le_of_ble_eq_true rfl) d_MM_member_1_2 (fun H locs hP hD hS => ?_)
  have hP : va_P (dC, dI) classes [(h0, .inr (0, mF q 0))] H := hP
  have hD : va_D A [(h0, .inr (0, mF q 0))] := hD
  refine lv_aload_n hx hb d_MM_member_1_5 rfl (lv_at hl 0 rfl) ?_
  refine lv_iload_n hx hb d_MM_member_1_6 rfl (lv_at hl 1 rfl) ?_
  refine lv_iload_n hx hb d_MM_member_1_7 rfl (lv_at hl 2 rfl) ?_
  refine ax_V (ci := 0) (q0 := 0) (k := 2) (As := [.int f, .int g]) (rest := []) (wr := []) rfl hx hb hml hown hts g_wm (mK_bl dC dI ca) (c_MM_isMember l dC dI ca h0 q 0 f g) xm_279 xm_280 xm_0 xm_281 xm_339 (by decide +kernel) rfl (Nat.le_of_ble_eq_true rfl) (Nat.le_of_ble_eq_true rfl) hl.1 (Nat.le_of_ble_eq_true rfl) (mK_up hK) hK.1 hP hD hS hA rfl rfl [0] [] rfl (by decide) rfl rfl (by decide) (by decide) (Nat.le_of_ble_eq_true rfl) (Nat.le_of_ble_eq_true rfl) d_MM_member_1_8 (fun v _ H locs hp hP hD hS => ?_)
  obtain rfl : v = some (.int 0) := hp
  have hP : va_P (dC, dI) classes [(h0, .inr (0, mF q 0))] H := hP
  have hD : va_D A [(h0, .inr (0, mF q 0))] := hD
  refine W.eq (g2 := F0 m 11 ls [.int 0]) rfl ?_
  refine lv_if_ne (tgt := 16) hx hb d_MM_member_1_11 (by decide) (fun h => absurd h (by decide)) (fun _ => ?_)
  refine lv_iconst (v := (-1)) hx hb d_MM_member_1_14 (by decide) ?_
  exact ax_iret hx hb hr hlocks hP hD hS () rfl [0] rfl (by decide) rfl (Nat.le_of_ble_eq_true rfl) (Nat.le_of_ble_eq_true rfl) d_MM_member_1_15
theorem d_MM_act_0_0 : decode b_MM_act_0 0 = .ok (.aload_n 0, 1) := by decide +kernel
theorem d_MM_act_0_1 : decode b_MM_act_0 1 = .ok (.iconst 0, 1) := by decide +kernel
theorem d_MM_act_0_2 : decode b_MM_act_0 2 = .ok (.putfield 343, 3) := by decide +kernel
theorem d_MM_act_0_5 : decode b_MM_act_0 5 = .ok (.aload_n 0, 1) := by decide +kernel
theorem d_MM_act_0_6 : decode b_MM_act_0 6 = .ok (.iload_n 1, 1) := by decide +kernel
theorem d_MM_act_0_7 : decode b_MM_act_0 7 = .ok (.iload_n 2, 1) := by decide +kernel
theorem d_MM_act_0_8 : decode b_MM_act_0 8 = .ok (.invokevirtual 1468, 3) := by decide +kernel
theorem d_MM_act_0_11 : decode b_MM_act_0 11 = .ok (.ifCond .eq 29, 3) := by decide +kernel
theorem d_MM_act_0_40 : decode b_MM_act_0 40 = .ok (.iconst (-1), 1) := by decide +kernel
theorem d_MM_act_0_41 : decode b_MM_act_0 41 = .ok (.ireturn, 1) := by decide +kernel
set_option maxHeartbeats 4000000 in
set_option maxRecDepth 100000 in
theorem c_MM_act_0 (l : Launch) (dC : Nat → ClassId) (dI : Nat → Nat → Nat) (ca : Nat → ClassId) (h0 : Nat) (q : Nat → Nat) (th : Int32) (f g i j : Int32) : CT l classes (dC, dI) (mK dC dI ca) wm y_MM_act_0 b_MM_act_0 7 (some (.int)) 2 47 0 0 [.ref h0, .int f, .int g, .int i, .int j] [(h0, .inr (0, mF q th))] (fun (v : Option Value) (_ : Unit) => v = some (.int (-1))) (fun (_ : Unit) => [(h0, .inr (0, mF q 0))]) := by
  refine ax_of (by decide) (Nat.le_of_ble_eq_true rfl) ?_
  intro p e s m below meth c A ls hAt hK hP hD hS hA hl
  obtain ⟨hx, hb, hr, hml, hown, hts, hlocks, hin⟩ := hAt
  have hl : lv_has ls 7 [(0, .ref h0), (1, .int f), (2, .int g), (3, .int i), (4, .int j)] := hl
  refine lv_aload_n hx hb d_MM_act_0_0 rfl (lv_at hl 0 rfl) ?_
  refine lv_iconst (v := 0) hx hb d_MM_act_0_1 (by decide) ?_
  refine va_put (D := (dC, dI)) (ci := 0) (v := .int 0) (ty := .int) (C := R_MM) (T := F_MM) (N := 132) hx hb hts i_MM t_MM t_MM_ok n_MM hown hK.1 hP hD hS 0 rfl rfl 0 (by decide) (hts _ xm_73) (fun _ h9 => h9) rfl (by decide +kernel) rfl rfl (Nat.le_of_ble_eq_true rfl) d_MM_act_0_2 (fun H locs hP hD hS => ?_)
  have hP : va_P (dC, dI) classes [(h0, .inr (0, mF q 0))] H := hP
  have hD : va_D A [(h0, .inr (0, mF q 0))] := hD
  refine lv_aload_n hx hb d_MM_act_0_5 rfl (lv_at hl 0 rfl) ?_
  refine lv_iload_n hx hb d_MM_act_0_6 rfl (lv_at hl 1 rfl) ?_
  refine lv_iload_n hx hb d_MM_act_0_7 rfl (lv_at hl 2 rfl) ?_
  refine ax_V (ci := 0) (q0 := 0) (k := 2) (As := [.int f, .int g]) (rest := []) (wr := []) rfl hx hb hml hown hts g_wm (mK_bl dC dI ca) (c_MM_isMember l dC dI ca h0 q 0 f g) xm_279 xm_280 xm_0 xm_281 xm_339 (by decide +kernel) rfl (Nat.le_of_ble_eq_true rfl) (Nat.le_of_ble_eq_true rfl) hl.1 (Nat.le_of_ble_eq_true rfl) (mK_up hK) hK.1 hP hD hS hA rfl rfl [0] [] rfl (by decide) rfl rfl (by decide) (by decide) (Nat.le_of_ble_eq_true rfl) (Nat.le_of_ble_eq_true rfl) d_MM_act_0_8 (fun v _ H locs hp hP hD hS => ?_)
  obtain rfl : v = some (.int 0) := hp
  have hP : va_P (dC, dI) classes [(h0, .inr (0, mF q 0))] H := hP
  have hD : va_D A [(h0, .inr (0, mF q 0))] := hD
  refine W.eq (g2 := F0 m 11 ls [.int 0]) rfl ?_
  refine lv_if_eq (tgt := 40) hx hb d_MM_act_0_11 (by decide) (fun _ => ?_) (fun h => absurd (by decide) h)
  refine lv_iconst (v := (-1)) hx hb d_MM_act_0_40 (by decide) ?_
  exact ax_iret hx hb hr hlocks hP hD hS () rfl [0] rfl (by decide) rfl (Nat.le_of_ble_eq_true rfl) (Nat.le_of_ble_eq_true rfl) d_MM_act_0_41
theorem d_MM_kind_0 : decode b_MM_kind 0 = .ok (.aload_n 0, 1) := by decide +kernel
theorem d_MM_kind_1 : decode b_MM_kind 1 = .ok (.iconst 0, 1) := by decide +kernel
theorem d_MM_kind_2 : decode b_MM_kind 2 = .ok (.putfield 343, 3) := by decide +kernel
theorem d_MM_kind_5 : decode b_MM_kind 5 = .ok (.aload_n 0, 1) := by decide +kernel
theorem d_MM_kind_6 : decode b_MM_kind 6 = .ok (.iload_n 1, 1) := by decide +kernel
theorem d_MM_kind_7 : decode b_MM_kind 7 = .ok (.iload_n 2, 1) := by decide +kernel
theorem d_MM_kind_8 : decode b_MM_kind 8 = .ok (.invokevirtual 1468, 3) := by decide +kernel
theorem d_MM_kind_11 : decode b_MM_kind 11 = .ok (.ifCond .eq 29, 3) := by decide +kernel
theorem d_MM_kind_40 : decode b_MM_kind 40 = .ok (.iconst (-1), 1) := by decide +kernel
theorem d_MM_kind_41 : decode b_MM_kind 41 = .ok (.ireturn, 1) := by decide +kernel
set_option maxHeartbeats 4000000 in
set_option maxRecDepth 100000 in
theorem c_MM_kind (l : Launch) (dC : Nat → ClassId) (dI : Nat → Nat → Nat) (ca : Nat → ClassId) (h0 : Nat) (q : Nat → Nat) (th : Int32) (f g i j : Int32) : CT l classes (dC, dI) (mK dC dI ca) wm y_MM_kind b_MM_kind 7 (some (.int)) 2 47 0 0 [.ref h0, .int f, .int g, .int i, .int j] [(h0, .inr (0, mF q th))] (fun (v : Option Value) (_ : Unit) => v = some (.int (-1))) (fun (_ : Unit) => [(h0, .inr (0, mF q 0))]) := by
  refine ax_of (by decide) (Nat.le_of_ble_eq_true rfl) ?_
  intro p e s m below meth c A ls hAt hK hP hD hS hA hl
  obtain ⟨hx, hb, hr, hml, hown, hts, hlocks, hin⟩ := hAt
  have hl : lv_has ls 7 [(0, .ref h0), (1, .int f), (2, .int g), (3, .int i), (4, .int j)] := hl
  refine lv_aload_n hx hb d_MM_kind_0 rfl (lv_at hl 0 rfl) ?_
  refine lv_iconst (v := 0) hx hb d_MM_kind_1 (by decide) ?_
  refine va_put (D := (dC, dI)) (ci := 0) (v := .int 0) (ty := .int) (C := R_MM) (T := F_MM) (N := 132) hx hb hts i_MM t_MM t_MM_ok n_MM hown hK.1 hP hD hS 0 rfl rfl 0 (by decide) (hts _ xm_73) (fun _ h9 => h9) rfl (by decide +kernel) rfl rfl (Nat.le_of_ble_eq_true rfl) d_MM_kind_2 (fun H locs hP hD hS => ?_)
  have hP : va_P (dC, dI) classes [(h0, .inr (0, mF q 0))] H := hP
  have hD : va_D A [(h0, .inr (0, mF q 0))] := hD
  refine lv_aload_n hx hb d_MM_kind_5 rfl (lv_at hl 0 rfl) ?_
  refine lv_iload_n hx hb d_MM_kind_6 rfl (lv_at hl 1 rfl) ?_
  refine lv_iload_n hx hb d_MM_kind_7 rfl (lv_at hl 2 rfl) ?_
  refine ax_V (ci := 0) (q0 := 0) (k := 2) (As := [.int f, .int g]) (rest := []) (wr := []) rfl hx hb hml hown hts g_wm (mK_bl dC dI ca) (c_MM_isMember l dC dI ca h0 q 0 f g) xm_279 xm_280 xm_0 xm_281 xm_339 (by decide +kernel) rfl (Nat.le_of_ble_eq_true rfl) (Nat.le_of_ble_eq_true rfl) hl.1 (Nat.le_of_ble_eq_true rfl) (mK_up hK) hK.1 hP hD hS hA rfl rfl [0] [] rfl (by decide) rfl rfl (by decide) (by decide) (Nat.le_of_ble_eq_true rfl) (Nat.le_of_ble_eq_true rfl) d_MM_kind_8 (fun v _ H locs hp hP hD hS => ?_)
  obtain rfl : v = some (.int 0) := hp
  have hP : va_P (dC, dI) classes [(h0, .inr (0, mF q 0))] H := hP
  have hD : va_D A [(h0, .inr (0, mF q 0))] := hD
  refine W.eq (g2 := F0 m 11 ls [.int 0]) rfl ?_
  refine lv_if_eq (tgt := 40) hx hb d_MM_kind_11 (by decide) (fun _ => ?_) (fun h => absurd (by decide) h)
  refine lv_iconst (v := (-1)) hx hb d_MM_kind_40 (by decide) ?_
  exact ax_iret hx hb hr hlocks hP hD hS () rfl [0] rfl (by decide) rfl (Nat.le_of_ble_eq_true rfl) (Nat.le_of_ble_eq_true rfl) d_MM_kind_41
theorem d_MM_block_0 : decode b_MM_block 0 = .ok (.aload_n 0, 1) := by decide +kernel
theorem d_MM_block_1 : decode b_MM_block 1 = .ok (.iconst 0, 1) := by decide +kernel
theorem d_MM_block_2 : decode b_MM_block 2 = .ok (.putfield 343, 3) := by decide +kernel
theorem d_MM_block_5 : decode b_MM_block 5 = .ok (.aload_n 0, 1) := by decide +kernel
theorem d_MM_block_6 : decode b_MM_block 6 = .ok (.iload_n 1, 1) := by decide +kernel
theorem d_MM_block_7 : decode b_MM_block 7 = .ok (.iload_n 2, 1) := by decide +kernel
theorem d_MM_block_8 : decode b_MM_block 8 = .ok (.invokevirtual 1468, 3) := by decide +kernel
theorem d_MM_block_11 : decode b_MM_block 11 = .ok (.ifCond .ne 5, 3) := by decide +kernel
theorem d_MM_block_14 : decode b_MM_block 14 = .ok (.iconst (-1), 1) := by decide +kernel
theorem d_MM_block_15 : decode b_MM_block 15 = .ok (.ireturn, 1) := by decide +kernel
set_option maxHeartbeats 4000000 in
set_option maxRecDepth 100000 in
theorem c_MM_block (l : Launch) (dC : Nat → ClassId) (dI : Nat → Nat → Nat) (ca : Nat → ClassId) (h0 : Nat) (q : Nat → Nat) (th : Int32) (f g i j : Int32) : CT l classes (dC, dI) (mK dC dI ca) wm y_MM_block b_MM_block 7 (some (.int)) 2 47 0 0 [.ref h0, .int f, .int g, .int i, .int j] [(h0, .inr (0, mF q th))] (fun (v : Option Value) (_ : Unit) => v = some (.int (-1))) (fun (_ : Unit) => [(h0, .inr (0, mF q 0))]) := by
  refine ax_of (by decide) (Nat.le_of_ble_eq_true rfl) ?_
  intro p e s m below meth c A ls hAt hK hP hD hS hA hl
  obtain ⟨hx, hb, hr, hml, hown, hts, hlocks, hin⟩ := hAt
  have hl : lv_has ls 7 [(0, .ref h0), (1, .int f), (2, .int g), (3, .int i), (4, .int j)] := hl
  refine lv_aload_n hx hb d_MM_block_0 rfl (lv_at hl 0 rfl) ?_
  refine lv_iconst (v := 0) hx hb d_MM_block_1 (by decide) ?_
  refine va_put (D := (dC, dI)) (ci := 0) (v := .int 0) (ty := .int) (C := R_MM) (T := F_MM) (N := 132) hx hb hts i_MM t_MM t_MM_ok n_MM hown hK.1 hP hD hS 0 rfl rfl 0 (by decide) (hts _ xm_73) (fun _ h9 => h9) rfl (by decide +kernel) rfl rfl (Nat.le_of_ble_eq_true rfl) d_MM_block_2 (fun H locs hP hD hS => ?_)
  have hP : va_P (dC, dI) classes [(h0, .inr (0, mF q 0))] H := hP
  have hD : va_D A [(h0, .inr (0, mF q 0))] := hD
  refine lv_aload_n hx hb d_MM_block_5 rfl (lv_at hl 0 rfl) ?_
  refine lv_iload_n hx hb d_MM_block_6 rfl (lv_at hl 1 rfl) ?_
  refine lv_iload_n hx hb d_MM_block_7 rfl (lv_at hl 2 rfl) ?_
  refine ax_V (ci := 0) (q0 := 0) (k := 2) (As := [.int f, .int g]) (rest := []) (wr := []) rfl hx hb hml hown hts g_wm (mK_bl dC dI ca) (c_MM_isMember l dC dI ca h0 q 0 f g) xm_279 xm_280 xm_0 xm_281 xm_339 (by decide +kernel) rfl (Nat.le_of_ble_eq_true rfl) (Nat.le_of_ble_eq_true rfl) hl.1 (Nat.le_of_ble_eq_true rfl) (mK_up hK) hK.1 hP hD hS hA rfl rfl [0] [] rfl (by decide) rfl rfl (by decide) (by decide) (Nat.le_of_ble_eq_true rfl) (Nat.le_of_ble_eq_true rfl) d_MM_block_8 (fun v _ H locs hp hP hD hS => ?_)
  obtain rfl : v = some (.int 0) := hp
  have hP : va_P (dC, dI) classes [(h0, .inr (0, mF q 0))] H := hP
  have hD : va_D A [(h0, .inr (0, mF q 0))] := hD
  refine W.eq (g2 := F0 m 11 ls [.int 0]) rfl ?_
  refine lv_if_ne (tgt := 16) hx hb d_MM_block_11 (by decide) (fun h => absurd h (by decide)) (fun _ => ?_)
  refine lv_iconst (v := (-1)) hx hb d_MM_block_14 (by decide) ?_
  exact ax_iret hx hb hr hlocks hP hD hS () rfl [0] rfl (by decide) rfl (Nat.le_of_ble_eq_true rfl) (Nat.le_of_ble_eq_true rfl) d_MM_block_15
theorem d_MM_text_0 : decode b_MM_text 0 = .ok (.aload_n 0, 1) := by decide +kernel
theorem d_MM_text_1 : decode b_MM_text 1 = .ok (.iconst 0, 1) := by decide +kernel
theorem d_MM_text_2 : decode b_MM_text 2 = .ok (.putfield 343, 3) := by decide +kernel
theorem d_MM_text_5 : decode b_MM_text 5 = .ok (.aload_n 0, 1) := by decide +kernel
theorem d_MM_text_6 : decode b_MM_text 6 = .ok (.iload_n 1, 1) := by decide +kernel
theorem d_MM_text_7 : decode b_MM_text 7 = .ok (.iload_n 2, 1) := by decide +kernel
theorem d_MM_text_8 : decode b_MM_text 8 = .ok (.invokevirtual 1468, 3) := by decide +kernel
theorem d_MM_text_11 : decode b_MM_text 11 = .ok (.ifCond .eq 20, 3) := by decide +kernel
theorem d_MM_text_31 : decode b_MM_text 31 = .ok (.iconst (-1), 1) := by decide +kernel
theorem d_MM_text_32 : decode b_MM_text 32 = .ok (.ireturn, 1) := by decide +kernel
set_option maxHeartbeats 4000000 in
set_option maxRecDepth 100000 in
theorem c_MM_text (l : Launch) (dC : Nat → ClassId) (dI : Nat → Nat → Nat) (ca : Nat → ClassId) (h0 : Nat) (q : Nat → Nat) (th : Int32) (f g i : Int32) : CT l classes (dC, dI) (mK dC dI ca) wm y_MM_text b_MM_text 5 (some (.int)) 2 47 0 0 [.ref h0, .int f, .int g, .int i] [(h0, .inr (0, mF q th))] (fun (v : Option Value) (_ : Unit) => v = some (.int (-1))) (fun (_ : Unit) => [(h0, .inr (0, mF q 0))]) := by
  refine ax_of (by decide) (Nat.le_of_ble_eq_true rfl) ?_
  intro p e s m below meth c A ls hAt hK hP hD hS hA hl
  obtain ⟨hx, hb, hr, hml, hown, hts, hlocks, hin⟩ := hAt
  have hl : lv_has ls 5 [(0, .ref h0), (1, .int f), (2, .int g), (3, .int i)] := hl
  refine lv_aload_n hx hb d_MM_text_0 rfl (lv_at hl 0 rfl) ?_
  refine lv_iconst (v := 0) hx hb d_MM_text_1 (by decide) ?_
  refine va_put (D := (dC, dI)) (ci := 0) (v := .int 0) (ty := .int) (C := R_MM) (T := F_MM) (N := 132) hx hb hts i_MM t_MM t_MM_ok n_MM hown hK.1 hP hD hS 0 rfl rfl 0 (by decide) (hts _ xm_73) (fun _ h9 => h9) rfl (by decide +kernel) rfl rfl (Nat.le_of_ble_eq_true rfl) d_MM_text_2 (fun H locs hP hD hS => ?_)
  have hP : va_P (dC, dI) classes [(h0, .inr (0, mF q 0))] H := hP
  have hD : va_D A [(h0, .inr (0, mF q 0))] := hD
  refine lv_aload_n hx hb d_MM_text_5 rfl (lv_at hl 0 rfl) ?_
  refine lv_iload_n hx hb d_MM_text_6 rfl (lv_at hl 1 rfl) ?_
  refine lv_iload_n hx hb d_MM_text_7 rfl (lv_at hl 2 rfl) ?_
  refine ax_V (ci := 0) (q0 := 0) (k := 2) (As := [.int f, .int g]) (rest := []) (wr := []) rfl hx hb hml hown hts g_wm (mK_bl dC dI ca) (c_MM_isMember l dC dI ca h0 q 0 f g) xm_279 xm_280 xm_0 xm_281 xm_339 (by decide +kernel) rfl (Nat.le_of_ble_eq_true rfl) (Nat.le_of_ble_eq_true rfl) hl.1 (Nat.le_of_ble_eq_true rfl) (mK_up hK) hK.1 hP hD hS hA rfl rfl [0] [] rfl (by decide) rfl rfl (by decide) (by decide) (Nat.le_of_ble_eq_true rfl) (Nat.le_of_ble_eq_true rfl) d_MM_text_8 (fun v _ H locs hp hP hD hS => ?_)
  obtain rfl : v = some (.int 0) := hp
  have hP : va_P (dC, dI) classes [(h0, .inr (0, mF q 0))] H := hP
  have hD : va_D A [(h0, .inr (0, mF q 0))] := hD
  refine W.eq (g2 := F0 m 11 ls [.int 0]) rfl ?_
  refine lv_if_eq (tgt := 31) hx hb d_MM_text_11 (by decide) (fun _ => ?_) (fun h => absurd (by decide) h)
  refine lv_iconst (v := (-1)) hx hb d_MM_text_31 (by decide) ?_
  exact ax_iret hx hb hr hlocks hP hD hS () rfl [0] rfl (by decide) rfl (Nat.le_of_ble_eq_true rfl) (Nat.le_of_ble_eq_true rfl) d_MM_text_32
theorem d_MM_pair_0 : decode b_MM_pair 0 = .ok (.aload_n 0, 1) := by decide +kernel
theorem d_MM_pair_1 : decode b_MM_pair 1 = .ok (.iconst 0, 1) := by decide +kernel
theorem d_MM_pair_2 : decode b_MM_pair 2 = .ok (.putfield 343, 3) := by decide +kernel
theorem d_MM_pair_5 : decode b_MM_pair 5 = .ok (.aload_n 0, 1) := by decide +kernel
theorem d_MM_pair_6 : decode b_MM_pair 6 = .ok (.iload_n 1, 1) := by decide +kernel
theorem d_MM_pair_7 : decode b_MM_pair 7 = .ok (.iload_n 2, 1) := by decide +kernel
theorem d_MM_pair_8 : decode b_MM_pair 8 = .ok (.invokevirtual 1468, 3) := by decide +kernel
theorem d_MM_pair_11 : decode b_MM_pair 11 = .ok (.ifCond .eq 19, 3) := by decide +kernel
theorem d_MM_pair_30 : decode b_MM_pair 30 = .ok (.iconst (-1), 1) := by decide +kernel
theorem d_MM_pair_31 : decode b_MM_pair 31 = .ok (.ireturn, 1) := by decide +kernel
set_option maxHeartbeats 4000000 in
set_option maxRecDepth 100000 in
theorem c_MM_pair (l : Launch) (dC : Nat → ClassId) (dI : Nat → Nat → Nat) (ca : Nat → ClassId) (h0 : Nat) (q : Nat → Nat) (th : Int32) (f g i : Int32) : CT l classes (dC, dI) (mK dC dI ca) wm y_MM_pair b_MM_pair 7 (some (.int)) 2 47 0 0 [.ref h0, .int f, .int g, .int i] [(h0, .inr (0, mF q th))] (fun (v : Option Value) (_ : Unit) => v = some (.int (-1))) (fun (_ : Unit) => [(h0, .inr (0, mF q 0))]) := by
  refine ax_of (by decide) (Nat.le_of_ble_eq_true rfl) ?_
  intro p e s m below meth c A ls hAt hK hP hD hS hA hl
  obtain ⟨hx, hb, hr, hml, hown, hts, hlocks, hin⟩ := hAt
  have hl : lv_has ls 7 [(0, .ref h0), (1, .int f), (2, .int g), (3, .int i)] := hl
  refine lv_aload_n hx hb d_MM_pair_0 rfl (lv_at hl 0 rfl) ?_
  refine lv_iconst (v := 0) hx hb d_MM_pair_1 (by decide) ?_
  refine va_put (D := (dC, dI)) (ci := 0) (v := .int 0) (ty := .int) (C := R_MM) (T := F_MM) (N := 132) hx hb hts i_MM t_MM t_MM_ok n_MM hown hK.1 hP hD hS 0 rfl rfl 0 (by decide) (hts _ xm_73) (fun _ h9 => h9) rfl (by decide +kernel) rfl rfl (Nat.le_of_ble_eq_true rfl) d_MM_pair_2 (fun H locs hP hD hS => ?_)
  have hP : va_P (dC, dI) classes [(h0, .inr (0, mF q 0))] H := hP
  have hD : va_D A [(h0, .inr (0, mF q 0))] := hD
  refine lv_aload_n hx hb d_MM_pair_5 rfl (lv_at hl 0 rfl) ?_
  refine lv_iload_n hx hb d_MM_pair_6 rfl (lv_at hl 1 rfl) ?_
  refine lv_iload_n hx hb d_MM_pair_7 rfl (lv_at hl 2 rfl) ?_
  refine ax_V (ci := 0) (q0 := 0) (k := 2) (As := [.int f, .int g]) (rest := []) (wr := []) rfl hx hb hml hown hts g_wm (mK_bl dC dI ca) (c_MM_isMember l dC dI ca h0 q 0 f g) xm_279 xm_280 xm_0 xm_281 xm_339 (by decide +kernel) rfl (Nat.le_of_ble_eq_true rfl) (Nat.le_of_ble_eq_true rfl) hl.1 (Nat.le_of_ble_eq_true rfl) (mK_up hK) hK.1 hP hD hS hA rfl rfl [0] [] rfl (by decide) rfl rfl (by decide) (by decide) (Nat.le_of_ble_eq_true rfl) (Nat.le_of_ble_eq_true rfl) d_MM_pair_8 (fun v _ H locs hp hP hD hS => ?_)
  obtain rfl : v = some (.int 0) := hp
  have hP : va_P (dC, dI) classes [(h0, .inr (0, mF q 0))] H := hP
  have hD : va_D A [(h0, .inr (0, mF q 0))] := hD
  refine W.eq (g2 := F0 m 11 ls [.int 0]) rfl ?_
  refine lv_if_eq (tgt := 30) hx hb d_MM_pair_11 (by decide) (fun _ => ?_) (fun h => absurd (by decide) h)
  refine lv_iconst (v := (-1)) hx hb d_MM_pair_30 (by decide) ?_
  exact ax_iret hx hb hr hlocks hP hD hS () rfl [0] rfl (by decide) rfl (Nat.le_of_ble_eq_true rfl) (Nat.le_of_ble_eq_true rfl) d_MM_pair_31
theorem d_MM_alike_0 : decode b_MM_alike 0 = .ok (.aload_n 0, 1) := by decide +kernel
theorem d_MM_alike_1 : decode b_MM_alike 1 = .ok (.iload_n 1, 1) := by decide +kernel
theorem d_MM_alike_2 : decode b_MM_alike 2 = .ok (.iload_n 2, 1) := by decide +kernel
theorem d_MM_alike_3 : decode b_MM_alike 3 = .ok (.iload_n 3, 1) := by decide +kernel
theorem d_MM_alike_4 : decode b_MM_alike 4 = .ok (.invokevirtual 1471, 3) := by decide +kernel
theorem d_MM_alike_7 : decode b_MM_alike 7 = .ok (.istore 4, 2) := by decide +kernel
theorem d_MM_alike_9 : decode b_MM_alike 9 = .ok (.iload 4, 2) := by decide +kernel
theorem d_MM_alike_11 : decode b_MM_alike 11 = .ok (.ifCond .ge 5, 3) := by decide +kernel
theorem d_MM_alike_14 : decode b_MM_alike 14 = .ok (.iconst (-1), 1) := by decide +kernel
theorem d_MM_alike_15 : decode b_MM_alike 15 = .ok (.ireturn, 1) := by decide +kernel
set_option maxHeartbeats 4000000 in
set_option maxRecDepth 100000 in
theorem c_MM_alike (l : Launch) (dC : Nat → ClassId) (dI : Nat → Nat → Nat) (ca : Nat → ClassId) (h0 : Nat) (q : Nat → Nat) (th : Int32) (f g i : Int32) : CT l classes (dC, dI) (mK dC dI ca) wm y_MM_alike b_MM_alike 7 (some (.int)) 3 73 0 0 [.ref h0, .int f, .int g, .int i] [(h0, .inr (0, mF q th))] (fun (v : Option Value) (_ : Unit) => v = some (.int (-1))) (fun (_ : Unit) => [(h0, .inr (0, mF q 0))]) := by
  refine ax_of (by decide) (Nat.le_of_ble_eq_true rfl) ?_
  intro p e s m below meth c A ls hAt hK hP hD hS hA hl
  obtain ⟨hx, hb, hr, hml, hown, hts, hlocks, hin⟩ := hAt
  have hl : lv_has ls 7 [(0, .ref h0), (1, .int f), (2, .int g), (3, .int i)] := hl
  refine lv_aload_n hx hb d_MM_alike_0 rfl (lv_at hl 0 rfl) ?_
  refine lv_iload_n hx hb d_MM_alike_1 rfl (lv_at hl 1 rfl) ?_
  refine lv_iload_n hx hb d_MM_alike_2 rfl (lv_at hl 2 rfl) ?_
  refine lv_iload_n hx hb d_MM_alike_3 rfl (lv_at hl 3 rfl) ?_
  refine ax_V (ci := 0) (q0 := 0) (k := 3) (As := [.int f, .int g, .int i]) (rest := []) (wr := []) rfl hx hb hml hown hts g_wm (mK_bl dC dI ca) (c_MM_pair l dC dI ca h0 q th f g i) xm_285 xm_276 xm_0 xm_278 xm_277 (by decide +kernel) rfl (Nat.le_of_ble_eq_true rfl) (Nat.le_of_ble_eq_true rfl) hl.1 (Nat.le_of_ble_eq_true rfl) (mK_up hK) hK.1 hP hD hS hA rfl rfl [0] [] rfl (by decide) rfl rfl (by decide) (by decide) (Nat.le_of_ble_eq_true rfl) (Nat.le_of_ble_eq_true rfl) d_MM_alike_4 (fun v _ H locs hp hP hD hS => ?_)
  obtain rfl : v = some (.int (-1)) := hp
  have hP : va_P (dC, dI) classes [(h0, .inr (0, mF q 0))] H := hP
  have hD : va_D A [(h0, .inr (0, mF q 0))] := hD
  refine W.eq (g2 := F0 m 7 ls [.int (-1)]) rfl ?_
  refine lv_istore (lv' := [(4, .int (-1)), (0, .ref h0), (1, .int f), (2, .int g), (3, .int i)]) hx hb d_MM_alike_7 hl (by decide) rfl (fun ls hl => ?_)
  refine lv_iload hx hb d_MM_alike_9 (lv_at hl 0 rfl) ?_
  refine lv_if_ge (tgt := 16) hx hb d_MM_alike_11 (by decide) (fun h => absurd h (by decide)) (fun _ => ?_)
  refine lv_iconst (v := (-1)) hx hb d_MM_alike_14 (by decide) ?_
  exact ax_iret hx hb hr hlocks hP hD hS () rfl [0] rfl (by decide) rfl (Nat.le_of_ble_eq_true rfl) (Nat.le_of_ble_eq_true rfl) d_MM_alike_15
end
section
theorem vp_in2 {s : Int32} (h : 0 ≤ s.toInt64 ∧ s.toInt64 ≤ 1) : vp_in s 2 := by
  rw [vp_in_iff]
  have h1 := Int64.le_iff_toInt_le.mp h.1
  have h2 := Int64.le_iff_toInt_le.mp h.2
  rw [Int32.toInt_toInt64] at h1 h2
  have e1 : (0 : Int64).toInt = 0 := by decide
  have e2 : (1 : Int64).toInt = 1 := by decide
  constructor <;> omega
theorem d_MM_undo_0 : decode b_MM_undo 0 = .ok (.aload_n 0, 1) := by decide +kernel
theorem d_MM_undo_1 : decode b_MM_undo 1 = .ok (.iconst 0, 1) := by decide +kernel
theorem d_MM_undo_2 : decode b_MM_undo 2 = .ok (.putfield 343, 3) := by decide +kernel
theorem d_MM_undo_5 : decode b_MM_undo 5 = .ok (.iload_n 1, 1) := by decide +kernel
theorem d_MM_undo_6 : decode b_MM_undo 6 = .ok (.i2l, 1) := by decide +kernel
theorem d_MM_undo_7 : decode b_MM_undo 7 = .ok (.lconst 0, 1) := by decide +kernel
theorem d_MM_undo_8 : decode b_MM_undo 8 = .ok (.aload_n 0, 1) := by decide +kernel
theorem d_MM_undo_9 : decode b_MM_undo 9 = .ok (.getfield 410, 3) := by decide +kernel
theorem d_MM_undo_12 : decode b_MM_undo 12 = .ok (.iconst 1, 1) := by decide +kernel
theorem d_MM_undo_13 : decode b_MM_undo 13 = .ok (.isub, 1) := by decide +kernel
theorem d_MM_undo_14 : decode b_MM_undo 14 = .ok (.i2l, 1) := by decide +kernel
theorem d_MM_undo_15 : decode b_MM_undo 15 = .ok (.invokestatic 349, 3) := by decide +kernel
theorem d_MM_undo_18 : decode b_MM_undo 18 = .ok (.ifCond .eq 12, 3) := by decide +kernel
theorem d_MM_undo_30 : decode b_MM_undo 30 = .ok (.iconst 0, 1) := by decide +kernel
theorem d_MM_undo_31 : decode b_MM_undo 31 = .ok (.ireturn, 1) := by decide +kernel
set_option maxHeartbeats 4000000 in
set_option maxRecDepth 100000 in
theorem c_MM_undo (l : Launch) (dC : Nat → ClassId) (dI : Nat → Nat → Nat) (ca : Nat → ClassId) (h0 : Nat) (q : Nat → Nat) (th : Int32) (f : Int32) : CT l classes (dC, dI) (mK dC dI ca) wm y_MM_undo b_MM_undo 2 (some (.boolean)) 1 25 0 0 [.ref h0, .int f] [(h0, .inr (0, mF q th))] (fun (v : Option Value) (_ : Unit) => v = some (.int 0)) (fun (_ : Unit) => [(h0, .inr (0, mF q 0))]) := by
  refine ax_of (by decide) (Nat.le_of_ble_eq_true rfl) ?_
  intro p e s m below meth c A ls hAt hK hP hD hS hA hl
  obtain ⟨hx, hb, hr, hml, hown, hts, hlocks, hin⟩ := hAt
  have hl : lv_has ls 2 [(0, .ref h0), (1, .int f)] := hl
  refine lv_aload_n hx hb d_MM_undo_0 rfl (lv_at hl 0 rfl) ?_
  refine lv_iconst (v := 0) hx hb d_MM_undo_1 (by decide) ?_
  refine va_put (D := (dC, dI)) (ci := 0) (v := .int 0) (ty := .int) (C := R_MM) (T := F_MM) (N := 132) hx hb hts i_MM t_MM t_MM_ok n_MM hown hK.1 hP hD hS 0 rfl rfl 0 (by decide) (hts _ xm_73) (fun _ h9 => h9) rfl (by decide +kernel) rfl rfl (Nat.le_of_ble_eq_true rfl) d_MM_undo_2 (fun H locs hP hD hS => ?_)
  have hP : va_P (dC, dI) classes [(h0, .inr (0, mF q 0))] H := hP
  have hD : va_D A [(h0, .inr (0, mF q 0))] := hD
  refine lv_iload_n hx hb d_MM_undo_5 rfl (lv_at hl 1 rfl) ?_
  refine lv_i2l hx hb d_MM_undo_6 rfl ?_
  refine lv_lconst (v := 0) hx hb d_MM_undo_7 (by decide) ?_
  refine lv_aload_n hx hb d_MM_undo_8 rfl (lv_at hl 0 rfl) ?_
  refine va_get (D := (dC, dI)) (ci := 0) (v := .int 0) (C := R_MM) (T := F_MM) (N := 132) hx hb hts i_MM hown hK.1 hP 0 rfl rfl 8 (by decide) (hts _ xm_81) (fun _ h9 => h9) rfl d_MM_undo_9 ?_
  refine lv_iconst (v := 1) hx hb d_MM_undo_12 (by decide) ?_
  refine lv_isub hx hb d_MM_undo_13 ?_
  refine lv_topi (fun z e9 => ?_)
  obtain rfl : z = (-1) := by rw [e9]; decide
  refine lv_i2l (v := (-1)) hx hb d_MM_undo_14 (by decide) ?_
  refine ax_St (k := 3) (As := [.long (f.toInt64), .long 0, .long (-1)]) (rest := []) (wr := [(h0, .inr (0, mF q 0))]) rfl hx hb hml hown hts g_wm (mK_bl dC dI ca) (c_MM_in l dC dI ca f.toInt64 0 (-1)) xm_182 xm_183 xm_0 xm_184 (by decide +kernel) rfl (Nat.le_of_ble_eq_true rfl) (Nat.le_of_ble_eq_true rfl) hl.1 (Nat.le_of_ble_eq_true rfl) (mK_up hK) hP hD hS hA [] [0] rfl (by decide) rfl rfl (by decide) (by decide) (Nat.le_of_ble_eq_true rfl) (Nat.le_of_ble_eq_true rfl) d_MM_undo_15 (fun v _ H locs hp hP hD hS => ?_)
  obtain rfl : v = some (.int 0) := hp.elim (fun h => absurd h.2 in_no) (fun h => h.1)
  have hP : va_P (dC, dI) classes [(h0, .inr (0, mF q 0))] H := hP
  have hD : va_D A [(h0, .inr (0, mF q 0))] := hD
  refine W.eq (g2 := F0 m 18 ls [.int 0]) rfl ?_
  refine lv_if_eq (tgt := 30) hx hb d_MM_undo_18 (by decide) (fun _ => ?_) (fun h => absurd (by decide) h)
  refine lv_iconst (v := 0) hx hb d_MM_undo_30 (by decide) ?_
  exact ax_zret hx hb hr (by decide) hlocks hP hD hS () rfl [0] rfl (by decide) rfl (Nat.le_of_ble_eq_true rfl) (Nat.le_of_ble_eq_true rfl) d_MM_undo_31
theorem d_MM_call_0 : decode b_MM_call 0 = .ok (.aload_n 0, 1) := by decide +kernel
theorem d_MM_call_1 : decode b_MM_call 1 = .ok (.iconst 0, 1) := by decide +kernel
theorem d_MM_call_2 : decode b_MM_call 2 = .ok (.putfield 343, 3) := by decide +kernel
theorem d_MM_call_5 : decode b_MM_call 5 = .ok (.iload_n 1, 1) := by decide +kernel
theorem d_MM_call_6 : decode b_MM_call 6 = .ok (.i2l, 1) := by decide +kernel
theorem d_MM_call_7 : decode b_MM_call 7 = .ok (.lconst 0, 1) := by decide +kernel
theorem d_MM_call_8 : decode b_MM_call 8 = .ok (.lconst 1, 1) := by decide +kernel
theorem d_MM_call_9 : decode b_MM_call 9 = .ok (.invokestatic 349, 3) := by decide +kernel
theorem d_MM_call_12 : decode b_MM_call 12 = .ok (.ifCond .eq 22, 3) := by decide +kernel
theorem d_MM_call_15 : decode b_MM_call 15 = .ok (.aload_n 0, 1) := by decide +kernel
theorem d_MM_call_16 : decode b_MM_call 16 = .ok (.iload_n 2, 1) := by decide +kernel
theorem d_MM_call_17 : decode b_MM_call 17 = .ok (.iload_n 3, 1) := by decide +kernel
theorem d_MM_call_18 : decode b_MM_call 18 = .ok (.invokevirtual 1468, 3) := by decide +kernel
theorem d_MM_call_21 : decode b_MM_call 21 = .ok (.ifCond .eq 13, 3) := by decide +kernel
theorem d_MM_call_34 : decode b_MM_call 34 = .ok (.iconst 0, 1) := by decide +kernel
theorem d_MM_call_35 : decode b_MM_call 35 = .ok (.ireturn, 1) := by decide +kernel
set_option maxHeartbeats 4000000 in
set_option maxRecDepth 100000 in
theorem c_MM_call (l : Launch) (dC : Nat → ClassId) (dI : Nat → Nat → Nat) (ca : Nat → ClassId) (h0 : Nat) (q : Nat → Nat) (th : Int32) (s0 : Int32) (f : Int32) (g : Int32) (a : Int64) (b : Int64) : CT l classes (dC, dI) (mK dC dI ca) wm y_MM_call b_MM_call 13 (some (.boolean)) 2 47 0 0 [.ref h0, .int s0, .int f, .int g, .long a, .long b] [(h0, .inr (0, mF q th))] (fun (v : Option Value) (_ : Unit) => v = some (.int 0)) (fun (_ : Unit) => [(h0, .inr (0, mF q 0))]) := by
  refine ax_of (by decide) (Nat.le_of_ble_eq_true rfl) ?_
  intro p e s m below meth c A ls hAt hK hP hD hS hA hl
  obtain ⟨hx, hb, hr, hml, hown, hts, hlocks, hin⟩ := hAt
  have hl : lv_has ls 13 [(0, .ref h0), (1, .int s0), (2, .int f), (3, .int g), (4, .long a), (6, .long b)] := hl
  refine lv_aload_n hx hb d_MM_call_0 rfl (lv_at hl 0 rfl) ?_
  refine lv_iconst (v := 0) hx hb d_MM_call_1 (by decide) ?_
  refine va_put (D := (dC, dI)) (ci := 0) (v := .int 0) (ty := .int) (C := R_MM) (T := F_MM) (N := 132) hx hb hts i_MM t_MM t_MM_ok n_MM hown hK.1 hP hD hS 0 rfl rfl 0 (by decide) (hts _ xm_73) (fun _ h9 => h9) rfl (by decide +kernel) rfl rfl (Nat.le_of_ble_eq_true rfl) d_MM_call_2 (fun H locs hP hD hS => ?_)
  have hP : va_P (dC, dI) classes [(h0, .inr (0, mF q 0))] H := hP
  have hD : va_D A [(h0, .inr (0, mF q 0))] := hD
  refine lv_iload_n hx hb d_MM_call_5 rfl (lv_at hl 1 rfl) ?_
  refine lv_i2l hx hb d_MM_call_6 rfl ?_
  refine lv_lconst (v := 0) hx hb d_MM_call_7 (by decide) ?_
  refine lv_lconst (v := 1) hx hb d_MM_call_8 (by decide) ?_
  refine ax_St (k := 3) (As := [.long (s0.toInt64), .long 0, .long 1]) (rest := []) (wr := [(h0, .inr (0, mF q 0))]) rfl hx hb hml hown hts g_wm (mK_bl dC dI ca) (c_MM_in l dC dI ca s0.toInt64 0 1) xm_182 xm_183 xm_0 xm_184 (by decide +kernel) rfl (Nat.le_of_ble_eq_true rfl) (Nat.le_of_ble_eq_true rfl) hl.1 (Nat.le_of_ble_eq_true rfl) (mK_up hK) hP hD hS hA [] [0] rfl (by decide) rfl rfl (by decide) (by decide) (Nat.le_of_ble_eq_true rfl) (Nat.le_of_ble_eq_true rfl) d_MM_call_9 (fun v _ H locs hp hP hD hS => ?_)
  rcases hp with ⟨rfl, hc_1⟩ | ⟨rfl, hc_1⟩
  · have h9 := True.intro
    have hP : va_P (dC, dI) classes [(h0, .inr (0, mF q 0))] H := hP
    have hD : va_D A [(h0, .inr (0, mF q 0))] := hD
    refine W.eq (g2 := F0 m 12 ls [.int 1]) rfl ?_
    refine lv_if_eq (tgt := 34) hx hb d_MM_call_12 (by decide) (fun h => absurd h (by decide)) (fun _ => ?_)
    refine lv_aload_n hx hb d_MM_call_15 rfl (lv_at hl 0 rfl) ?_
    refine lv_iload_n hx hb d_MM_call_16 rfl (lv_at hl 2 rfl) ?_
    refine lv_iload_n hx hb d_MM_call_17 rfl (lv_at hl 3 rfl) ?_
    refine ax_V (ci := 0) (q0 := 0) (k := 2) (As := [.int f, .int g]) (rest := []) (wr := []) rfl hx hb hml hown hts g_wm (mK_bl dC dI ca) (c_MM_isMember l dC dI ca h0 q 0 f g) xm_279 xm_280 xm_0 xm_281 xm_339 (by decide +kernel) rfl (Nat.le_of_ble_eq_true rfl) (Nat.le_of_ble_eq_true rfl) hl.1 (Nat.le_of_ble_eq_true rfl) (mK_up hK) hK.1 hP hD hS hA rfl rfl [0] [] rfl (by decide) rfl rfl (by decide) (by decide) (Nat.le_of_ble_eq_true rfl) (Nat.le_of_ble_eq_true rfl) d_MM_call_18 (fun v _ H locs hp hP hD hS => ?_)
    obtain rfl : v = some (.int 0) := hp
    have hP : va_P (dC, dI) classes [(h0, .inr (0, mF q 0))] H := hP
    have hD : va_D A [(h0, .inr (0, mF q 0))] := hD
    refine W.eq (g2 := F0 m 21 ls [.int 0]) rfl ?_
    refine lv_if_eq (tgt := 34) hx hb d_MM_call_21 (by decide) (fun _ => ?_) (fun h => absurd (by decide) h)
    refine lv_iconst (v := 0) hx hb d_MM_call_34 (by decide) ?_
    exact ax_zret hx hb hr (by decide) hlocks hP hD hS () rfl [0] rfl (by decide) rfl (Nat.le_of_ble_eq_true rfl) (Nat.le_of_ble_eq_true rfl) d_MM_call_35
  · have h9 := True.intro
    have hP : va_P (dC, dI) classes [(h0, .inr (0, mF q 0))] H := hP
    have hD : va_D A [(h0, .inr (0, mF q 0))] := hD
    refine W.eq (g2 := F0 m 12 ls [.int 0]) rfl ?_
    refine lv_if_eq (tgt := 34) hx hb d_MM_call_12 (by decide) (fun _ => ?_) (fun h => absurd (by decide) h)
    refine lv_iconst (v := 0) hx hb d_MM_call_34 (by decide) ?_
    exact ax_zret hx hb hr (by decide) hlocks hP hD hS () rfl [0] rfl (by decide) rfl (Nat.le_of_ble_eq_true rfl) (Nat.le_of_ble_eq_true rfl) d_MM_call_35
theorem d_MM_thrown_0 : decode b_MM_thrown 0 = .ok (.aload_n 0, 1) := by decide +kernel
theorem d_MM_thrown_1 : decode b_MM_thrown 1 = .ok (.getfield 343, 3) := by decide +kernel
theorem d_MM_thrown_4 : decode b_MM_thrown 4 = .ok (.ireturn, 1) := by decide +kernel
set_option maxHeartbeats 4000000 in
set_option maxRecDepth 100000 in
theorem c_MM_thrown (l : Launch) (dC : Nat → ClassId) (dI : Nat → Nat → Nat) (ca : Nat → ClassId) (h0 : Nat) (q : Nat → Nat) (th : Int32) : CT l classes (dC, dI) (mK dC dI ca) wm y_MM_thrown b_MM_thrown 1 (some (.int)) 0 0 0 0 [.ref h0] [(h0, .inr (0, mF q th))] (fun (v : Option Value) (_ : Unit) => v = some (.int th)) (fun (_ : Unit) => [(h0, .inr (0, mF q th))]) := by
  refine ax_of (by decide) (Nat.le_of_ble_eq_true rfl) ?_
  intro p e s m below meth c A ls hAt hK hP hD hS hA hl
  obtain ⟨hx, hb, hr, hml, hown, hts, hlocks, hin⟩ := hAt
  have hl : lv_has ls 1 [(0, .ref h0)] := hl
  refine lv_aload_n hx hb d_MM_thrown_0 rfl (lv_at hl 0 rfl) ?_
  refine va_get (D := (dC, dI)) (ci := 0) (v := .int th) (C := R_MM) (T := F_MM) (N := 132) hx hb hts i_MM hown hK.1 hP 0 rfl rfl 0 (by decide) (hts _ xm_73) (fun _ h9 => h9) rfl d_MM_thrown_1 ?_
  exact ax_iret hx hb hr hlocks hP hD hS () rfl [0] rfl (by decide) rfl (Nat.le_of_ble_eq_true rfl) (Nat.le_of_ble_eq_true rfl) d_MM_thrown_4
theorem d_MM_entry_0 : decode b_MM_entry 0 = .ok (.aload_n 0, 1) := by decide +kernel
theorem d_MM_entry_1 : decode b_MM_entry 1 = .ok (.iload_n 1, 1) := by decide +kernel
theorem d_MM_entry_2 : decode b_MM_entry 2 = .ok (.i2l, 1) := by decide +kernel
theorem d_MM_entry_3 : decode b_MM_entry 3 = .ok (.lconst 0, 1) := by decide +kernel
theorem d_MM_entry_4 : decode b_MM_entry 4 = .ok (.aload_n 0, 1) := by decide +kernel
theorem d_MM_entry_5 : decode b_MM_entry 5 = .ok (.getfield 410, 3) := by decide +kernel
theorem d_MM_entry_8 : decode b_MM_entry 8 = .ok (.iconst 1, 1) := by decide +kernel
theorem d_MM_entry_9 : decode b_MM_entry 9 = .ok (.isub, 1) := by decide +kernel
theorem d_MM_entry_10 : decode b_MM_entry 10 = .ok (.i2l, 1) := by decide +kernel
theorem d_MM_entry_11 : decode b_MM_entry 11 = .ok (.invokestatic 349, 3) := by decide +kernel
theorem d_MM_entry_14 : decode b_MM_entry 14 = .ok (.ifCond .eq 50, 3) := by decide +kernel
theorem d_MM_entry_64 : decode b_MM_entry 64 = .ok (.iconst 1, 1) := by decide +kernel
theorem d_MM_entry_65 : decode b_MM_entry 65 = .ok (.putfield 343, 3) := by decide +kernel
theorem d_MM_entry_68 : decode b_MM_entry 68 = .ok (.aload_n 0, 1) := by decide +kernel
theorem d_MM_entry_69 : decode b_MM_entry 69 = .ok (.getfield 343, 3) := by decide +kernel
theorem d_MM_entry_72 : decode b_MM_entry 72 = .ok (.ifCond .le 5, 3) := by decide +kernel
theorem d_MM_entry_75 : decode b_MM_entry 75 = .ok (.lconst 0, 1) := by decide +kernel
theorem d_MM_entry_76 : decode b_MM_entry 76 = .ok (.lreturn, 1) := by decide +kernel
set_option maxHeartbeats 4000000 in
set_option maxRecDepth 100000 in
theorem c_MM_entry (l : Launch) (dC : Nat → ClassId) (dI : Nat → Nat → Nat) (ca : Nat → ClassId) (h0 : Nat) (q : Nat → Nat) (th : Int32) (f : Int32) (g : Int32) (i : Int32) : CT l classes (dC, dI) (mK dC dI ca) wm y_MM_entry b_MM_entry 8 (some (.long)) 1 25 0 0 [.ref h0, .int f, .int g, .int i] [(h0, .inr (0, mF q th))] (fun (v : Option Value) (_ : Unit) => v = some (.long 0)) (fun (_ : Unit) => [(h0, .inr (0, mF q 1))]) := by
  refine ax_of (by decide) (Nat.le_of_ble_eq_true rfl) ?_
  intro p e s m below meth c A ls hAt hK hP hD hS hA hl
  obtain ⟨hx, hb, hr, hml, hown, hts, hlocks, hin⟩ := hAt
  have hl : lv_has ls 8 [(0, .ref h0), (1, .int f), (2, .int g), (3, .int i)] := hl
  refine lv_aload_n hx hb d_MM_entry_0 rfl (lv_at hl 0 rfl) ?_
  refine lv_iload_n hx hb d_MM_entry_1 rfl (lv_at hl 1 rfl) ?_
  refine lv_i2l hx hb d_MM_entry_2 rfl ?_
  refine lv_lconst (v := 0) hx hb d_MM_entry_3 (by decide) ?_
  refine lv_aload_n hx hb d_MM_entry_4 rfl (lv_at hl 0 rfl) ?_
  refine va_get (D := (dC, dI)) (ci := 0) (v := .int 0) (C := R_MM) (T := F_MM) (N := 132) hx hb hts i_MM hown hK.1 hP 0 rfl rfl 8 (by decide) (hts _ xm_81) (fun _ h9 => h9) rfl d_MM_entry_5 ?_
  refine lv_iconst (v := 1) hx hb d_MM_entry_8 (by decide) ?_
  refine lv_isub hx hb d_MM_entry_9 ?_
  refine lv_topi (fun z e9 => ?_)
  obtain rfl : z = (-1) := by rw [e9]; decide
  refine lv_i2l (v := (-1)) hx hb d_MM_entry_10 (by decide) ?_
  refine ax_St (k := 3) (As := [.long (f.toInt64), .long 0, .long (-1)]) (rest := [.ref h0]) (wr := [(h0, .inr (0, mF q th))]) rfl hx hb hml hown hts g_wm (mK_bl dC dI ca) (c_MM_in l dC dI ca f.toInt64 0 (-1)) xm_182 xm_183 xm_0 xm_184 (by decide +kernel) rfl (Nat.le_of_ble_eq_true rfl) (Nat.le_of_ble_eq_true rfl) hl.1 (Nat.le_of_ble_eq_true rfl) (mK_up hK) hP hD hS hA [] [0] rfl (by decide) rfl rfl (by decide) (by decide) (Nat.le_of_ble_eq_true rfl) (Nat.le_of_ble_eq_true rfl) d_MM_entry_11 (fun v _ H locs hp hP hD hS => ?_)
  obtain rfl : v = some (.int 0) := hp.elim (fun h => absurd h.2 in_no) (fun h => h.1)
  have hP : va_P (dC, dI) classes [(h0, .inr (0, mF q th))] H := hP
  have hD : va_D A [(h0, .inr (0, mF q th))] := hD
  refine W.eq (g2 := F0 m 14 ls [.int 0, .ref h0]) rfl ?_
  refine lv_if_eq (tgt := 64) hx hb d_MM_entry_14 (by decide) (fun _ => ?_) (fun h => absurd (by decide) h)
  refine lv_iconst (v := 1) hx hb d_MM_entry_64 (by decide) ?_
  refine va_put (D := (dC, dI)) (ci := 0) (v := .int 1) (ty := .int) (C := R_MM) (T := F_MM) (N := 132) hx hb hts i_MM t_MM t_MM_ok n_MM hown hK.1 hP hD hS 0 rfl rfl 0 (by decide) (hts _ xm_73) (fun _ h9 => h9) rfl (by decide +kernel) rfl rfl (Nat.le_of_ble_eq_true rfl) d_MM_entry_65 (fun H locs hP hD hS => ?_)
  have hP : va_P (dC, dI) classes [(h0, .inr (0, mF q 1))] H := hP
  have hD : va_D A [(h0, .inr (0, mF q 1))] := hD
  refine lv_aload_n hx hb d_MM_entry_68 rfl (lv_at hl 0 rfl) ?_
  refine va_get (D := (dC, dI)) (ci := 0) (v := .int 1) (C := R_MM) (T := F_MM) (N := 132) hx hb hts i_MM hown hK.1 hP 0 rfl rfl 0 (by decide) (hts _ xm_73) (fun _ h9 => h9) rfl d_MM_entry_69 ?_
  refine lv_if_le (tgt := 77) hx hb d_MM_entry_72 (by decide) (fun h => absurd h (by decide)) (fun _ => ?_)
  refine lv_lconst (v := 0) hx hb d_MM_entry_75 (by decide) ?_
  exact ax_lret hx hb hr hlocks hP hD hS () rfl [0] rfl (by decide) rfl (Nat.le_of_ble_eq_true rfl) (Nat.le_of_ble_eq_true rfl) d_MM_entry_76
theorem d_MM_field_0 : decode b_MM_field 0 = .ok (.iload_n 1, 1) := by decide +kernel
theorem d_MM_field_1 : decode b_MM_field 1 = .ok (.i2l, 1) := by decide +kernel
theorem d_MM_field_2 : decode b_MM_field 2 = .ok (.lconst 0, 1) := by decide +kernel
theorem d_MM_field_3 : decode b_MM_field 3 = .ok (.lconst 1, 1) := by decide +kernel
theorem d_MM_field_4 : decode b_MM_field 4 = .ok (.invokestatic 349, 3) := by decide +kernel
theorem d_MM_field_7 : decode b_MM_field 7 = .ok (.ifCond .eq 67, 3) := by decide +kernel
theorem d_MM_field_10 : decode b_MM_field 10 = .ok (.iload_n 2, 1) := by decide +kernel
theorem d_MM_field_11 : decode b_MM_field 11 = .ok (.i2l, 1) := by decide +kernel
theorem d_MM_field_12 : decode b_MM_field 12 = .ok (.lconst 0, 1) := by decide +kernel
theorem d_MM_field_13 : decode b_MM_field 13 = .ok (.aload_n 0, 1) := by decide +kernel
theorem d_MM_field_14 : decode b_MM_field 14 = .ok (.getfield 410, 3) := by decide +kernel
theorem d_MM_field_17 : decode b_MM_field 17 = .ok (.iconst 1, 1) := by decide +kernel
theorem d_MM_field_18 : decode b_MM_field 18 = .ok (.isub, 1) := by decide +kernel
theorem d_MM_field_19 : decode b_MM_field 19 = .ok (.i2l, 1) := by decide +kernel
theorem d_MM_field_20 : decode b_MM_field 20 = .ok (.invokestatic 349, 3) := by decide +kernel
theorem d_MM_field_23 : decode b_MM_field 23 = .ok (.ifCond .eq 51, 3) := by decide +kernel
theorem d_MM_field_74 : decode b_MM_field 74 = .ok (.iconst 0, 1) := by decide +kernel
theorem d_MM_field_75 : decode b_MM_field 75 = .ok (.istore 4, 2) := by decide +kernel
theorem d_MM_field_77 : decode b_MM_field 77 = .ok (.aload_n 0, 1) := by decide +kernel
theorem d_MM_field_78 : decode b_MM_field 78 = .ok (.iload 4, 2) := by decide +kernel
theorem d_MM_field_80 : decode b_MM_field 80 = .ok (.ifCond .eq 7, 3) := by decide +kernel
theorem d_MM_field_87 : decode b_MM_field 87 = .ok (.iconst 1, 1) := by decide +kernel
theorem d_MM_field_88 : decode b_MM_field 88 = .ok (.putfield 343, 3) := by decide +kernel
theorem d_MM_field_91 : decode b_MM_field 91 = .ok (.iload 4, 2) := by decide +kernel
theorem d_MM_field_93 : decode b_MM_field 93 = .ok (.ifCond .eq 23, 3) := by decide +kernel
theorem d_MM_field_116 : decode b_MM_field 116 = .ok (.lconst 0, 1) := by decide +kernel
theorem d_MM_field_117 : decode b_MM_field 117 = .ok (.lreturn, 1) := by decide +kernel
set_option maxHeartbeats 4000000 in
set_option maxRecDepth 100000 in
theorem c_MM_field (l : Launch) (dC : Nat → ClassId) (dI : Nat → Nat → Nat) (ca : Nat → ClassId) (h0 : Nat) (q : Nat → Nat) (th : Int32) (s0 : Int32) (f : Int32) (i : Int32) : CT l classes (dC, dI) (mK dC dI ca) wm y_MM_field b_MM_field 5 (some (.long)) 1 25 0 0 [.ref h0, .int s0, .int f, .int i] [(h0, .inr (0, mF q th))] (fun (v : Option Value) (_ : Unit) => v = some (.long 0)) (fun (_ : Unit) => [(h0, .inr (0, mF q 1))]) := by
  refine ax_of (by decide) (Nat.le_of_ble_eq_true rfl) ?_
  intro p e s m below meth c A ls hAt hK hP hD hS hA hl
  obtain ⟨hx, hb, hr, hml, hown, hts, hlocks, hin⟩ := hAt
  have hl : lv_has ls 5 [(0, .ref h0), (1, .int s0), (2, .int f), (3, .int i)] := hl
  refine lv_iload_n hx hb d_MM_field_0 rfl (lv_at hl 1 rfl) ?_
  refine lv_i2l hx hb d_MM_field_1 rfl ?_
  refine lv_lconst (v := 0) hx hb d_MM_field_2 (by decide) ?_
  refine lv_lconst (v := 1) hx hb d_MM_field_3 (by decide) ?_
  refine ax_St (k := 3) (As := [.long (s0.toInt64), .long 0, .long 1]) (rest := []) (wr := [(h0, .inr (0, mF q th))]) rfl hx hb hml hown hts g_wm (mK_bl dC dI ca) (c_MM_in l dC dI ca s0.toInt64 0 1) xm_182 xm_183 xm_0 xm_184 (by decide +kernel) rfl (Nat.le_of_ble_eq_true rfl) (Nat.le_of_ble_eq_true rfl) hl.1 (Nat.le_of_ble_eq_true rfl) (mK_up hK) hP hD hS hA [] [0] rfl (by decide) rfl rfl (by decide) (by decide) (Nat.le_of_ble_eq_true rfl) (Nat.le_of_ble_eq_true rfl) d_MM_field_4 (fun v _ H locs hp hP hD hS => ?_)
  rcases hp with ⟨rfl, hc_1⟩ | ⟨rfl, hc_1⟩
  · have h9 := True.intro
    have hP : va_P (dC, dI) classes [(h0, .inr (0, mF q th))] H := hP
    have hD : va_D A [(h0, .inr (0, mF q th))] := hD
    refine W.eq (g2 := F0 m 7 ls [.int 1]) rfl ?_
    refine lv_if_eq (tgt := 74) hx hb d_MM_field_7 (by decide) (fun h => absurd h (by decide)) (fun _ => ?_)
    refine lv_iload_n hx hb d_MM_field_10 rfl (lv_at hl 2 rfl) ?_
    refine lv_i2l hx hb d_MM_field_11 rfl ?_
    refine lv_lconst (v := 0) hx hb d_MM_field_12 (by decide) ?_
    refine lv_aload_n hx hb d_MM_field_13 rfl (lv_at hl 0 rfl) ?_
    refine va_get (D := (dC, dI)) (ci := 0) (v := .int 0) (C := R_MM) (T := F_MM) (N := 132) hx hb hts i_MM hown hK.1 hP 0 rfl rfl 8 (by decide) (hts _ xm_81) (fun _ h9 => h9) rfl d_MM_field_14 ?_
    refine lv_iconst (v := 1) hx hb d_MM_field_17 (by decide) ?_
    refine lv_isub hx hb d_MM_field_18 ?_
    refine lv_topi (fun z e9 => ?_)
    obtain rfl : z = (-1) := by rw [e9]; decide
    refine lv_i2l (v := (-1)) hx hb d_MM_field_19 (by decide) ?_
    refine ax_St (k := 3) (As := [.long (f.toInt64), .long 0, .long (-1)]) (rest := []) (wr := [(h0, .inr (0, mF q th))]) rfl hx hb hml hown hts g_wm (mK_bl dC dI ca) (c_MM_in l dC dI ca f.toInt64 0 (-1)) xm_182 xm_183 xm_0 xm_184 (by decide +kernel) rfl (Nat.le_of_ble_eq_true rfl) (Nat.le_of_ble_eq_true rfl) hl.1 (Nat.le_of_ble_eq_true rfl) (mK_up hK) hP hD hS hA [] [0] rfl (by decide) rfl rfl (by decide) (by decide) (Nat.le_of_ble_eq_true rfl) (Nat.le_of_ble_eq_true rfl) d_MM_field_20 (fun v _ H locs hp hP hD hS => ?_)
    obtain rfl : v = some (.int 0) := hp.elim (fun h => absurd h.2 in_no) (fun h => h.1)
    have hP : va_P (dC, dI) classes [(h0, .inr (0, mF q th))] H := hP
    have hD : va_D A [(h0, .inr (0, mF q th))] := hD
    refine W.eq (g2 := F0 m 23 ls [.int 0]) rfl ?_
    refine lv_if_eq (tgt := 74) hx hb d_MM_field_23 (by decide) (fun _ => ?_) (fun h => absurd (by decide) h)
    refine lv_iconst (v := 0) hx hb d_MM_field_74 (by decide) ?_
    refine lv_istore (lv' := [(4, .int 0), (0, .ref h0), (1, .int s0), (2, .int f), (3, .int i)]) hx hb d_MM_field_75 hl (by decide) rfl (fun ls hl => ?_)
    refine lv_aload_n hx hb d_MM_field_77 rfl (lv_at hl 1 rfl) ?_
    refine lv_iload hx hb d_MM_field_78 (lv_at hl 0 rfl) ?_
    refine lv_if_eq (tgt := 87) hx hb d_MM_field_80 (by decide) (fun _ => ?_) (fun h => absurd (by decide) h)
    refine lv_iconst (v := 1) hx hb d_MM_field_87 (by decide) ?_
    refine va_put (D := (dC, dI)) (ci := 0) (v := .int 1) (ty := .int) (C := R_MM) (T := F_MM) (N := 132) hx hb hts i_MM t_MM t_MM_ok n_MM hown hK.1 hP hD hS 0 rfl rfl 0 (by decide) (hts _ xm_73) (fun _ h9 => h9) rfl (by decide +kernel) rfl rfl (Nat.le_of_ble_eq_true rfl) d_MM_field_88 (fun H locs hP hD hS => ?_)
    have hP : va_P (dC, dI) classes [(h0, .inr (0, mF q 1))] H := hP
    have hD : va_D A [(h0, .inr (0, mF q 1))] := hD
    refine lv_iload hx hb d_MM_field_91 (lv_at hl 0 rfl) ?_
    refine lv_if_eq (tgt := 116) hx hb d_MM_field_93 (by decide) (fun _ => ?_) (fun h => absurd (by decide) h)
    refine lv_lconst (v := 0) hx hb d_MM_field_116 (by decide) ?_
    exact ax_lret hx hb hr hlocks hP hD hS () rfl [0] rfl (by decide) rfl (Nat.le_of_ble_eq_true rfl) (Nat.le_of_ble_eq_true rfl) d_MM_field_117
  · have h9 := True.intro
    have hP : va_P (dC, dI) classes [(h0, .inr (0, mF q th))] H := hP
    have hD : va_D A [(h0, .inr (0, mF q th))] := hD
    refine W.eq (g2 := F0 m 7 ls [.int 0]) rfl ?_
    refine lv_if_eq (tgt := 74) hx hb d_MM_field_7 (by decide) (fun _ => ?_) (fun h => absurd (by decide) h)
    refine lv_iconst (v := 0) hx hb d_MM_field_74 (by decide) ?_
    refine lv_istore (lv' := [(4, .int 0), (0, .ref h0), (1, .int s0), (2, .int f), (3, .int i)]) hx hb d_MM_field_75 hl (by decide) rfl (fun ls hl => ?_)
    refine lv_aload_n hx hb d_MM_field_77 rfl (lv_at hl 1 rfl) ?_
    refine lv_iload hx hb d_MM_field_78 (lv_at hl 0 rfl) ?_
    refine lv_if_eq (tgt := 87) hx hb d_MM_field_80 (by decide) (fun _ => ?_) (fun h => absurd (by decide) h)
    refine lv_iconst (v := 1) hx hb d_MM_field_87 (by decide) ?_
    refine va_put (D := (dC, dI)) (ci := 0) (v := .int 1) (ty := .int) (C := R_MM) (T := F_MM) (N := 132) hx hb hts i_MM t_MM t_MM_ok n_MM hown hK.1 hP hD hS 0 rfl rfl 0 (by decide) (hts _ xm_73) (fun _ h9 => h9) rfl (by decide +kernel) rfl rfl (Nat.le_of_ble_eq_true rfl) d_MM_field_88 (fun H locs hP hD hS => ?_)
    have hP : va_P (dC, dI) classes [(h0, .inr (0, mF q 1))] H := hP
    have hD : va_D A [(h0, .inr (0, mF q 1))] := hD
    refine lv_iload hx hb d_MM_field_91 (lv_at hl 0 rfl) ?_
    refine lv_if_eq (tgt := 116) hx hb d_MM_field_93 (by decide) (fun _ => ?_) (fun h => absurd (by decide) h)
    refine lv_lconst (v := 0) hx hb d_MM_field_116 (by decide) ?_
    exact ax_lret hx hb hr hlocks hP hD hS () rfl [0] rfl (by decide) rfl (Nat.le_of_ble_eq_true rfl) (Nat.le_of_ble_eq_true rfl) d_MM_field_117
theorem d_MM_element_0 : decode b_MM_element 0 = .ok (.iload_n 1, 1) := by decide +kernel
theorem d_MM_element_1 : decode b_MM_element 1 = .ok (.i2l, 1) := by decide +kernel
theorem d_MM_element_2 : decode b_MM_element 2 = .ok (.lconst 0, 1) := by decide +kernel
theorem d_MM_element_3 : decode b_MM_element 3 = .ok (.lconst 1, 1) := by decide +kernel
theorem d_MM_element_4 : decode b_MM_element 4 = .ok (.invokestatic 349, 3) := by decide +kernel
theorem d_MM_element_7 : decode b_MM_element 7 = .ok (.ifCond .eq 39, 3) := by decide +kernel
theorem d_MM_element_10 : decode b_MM_element 10 = .ok (.iload_n 2, 1) := by decide +kernel
theorem d_MM_element_11 : decode b_MM_element 11 = .ok (.i2l, 1) := by decide +kernel
theorem d_MM_element_12 : decode b_MM_element 12 = .ok (.lconst 0, 1) := by decide +kernel
theorem d_MM_element_13 : decode b_MM_element 13 = .ok (.iload_n 1, 1) := by decide +kernel
theorem d_MM_element_14 : decode b_MM_element 14 = .ok (.i2l, 1) := by decide +kernel
theorem d_MM_element_15 : decode b_MM_element 15 = .ok (.lconst 0, 1) := by decide +kernel
theorem d_MM_element_16 : decode b_MM_element 16 = .ok (.lconst 1, 1) := by decide +kernel
theorem d_MM_element_17 : decode b_MM_element 17 = .ok (.invokestatic 349, 3) := by decide +kernel
theorem d_MM_element_20 : decode b_MM_element 20 = .ok (.ifCond .eq 12, 3) := by decide +kernel
theorem d_MM_element_23 : decode b_MM_element 23 = .ok (.aload_n 0, 1) := by decide +kernel
theorem d_MM_element_24 : decode b_MM_element 24 = .ok (.getfield 302, 3) := by decide +kernel
theorem d_MM_element_27 : decode b_MM_element 27 = .ok (.iload_n 1, 1) := by decide +kernel
theorem d_MM_element_28 : decode b_MM_element 28 = .ok (.iaload, 1) := by decide +kernel
theorem d_MM_element_29 : decode b_MM_element 29 = .ok (.goto 4, 3) := by decide +kernel
theorem d_MM_element_33 : decode b_MM_element 33 = .ok (.iconst 1, 1) := by decide +kernel
theorem d_MM_element_34 : decode b_MM_element 34 = .ok (.isub, 1) := by decide +kernel
theorem d_MM_element_35 : decode b_MM_element 35 = .ok (.i2l, 1) := by decide +kernel
theorem d_MM_element_36 : decode b_MM_element 36 = .ok (.invokestatic 349, 3) := by decide +kernel
theorem d_MM_element_39 : decode b_MM_element 39 = .ok (.ifCond .eq 7, 3) := by decide +kernel
theorem d_MM_element_46 : decode b_MM_element 46 = .ok (.iconst 0, 1) := by decide +kernel
theorem d_MM_element_47 : decode b_MM_element 47 = .ok (.istore 4, 2) := by decide +kernel
theorem d_MM_element_49 : decode b_MM_element 49 = .ok (.iload 4, 2) := by decide +kernel
theorem d_MM_element_51 : decode b_MM_element 51 = .ok (.ifCond .eq 13, 3) := by decide +kernel
theorem d_MM_element_64 : decode b_MM_element 64 = .ok (.iconst 0, 1) := by decide +kernel
theorem d_MM_element_65 : decode b_MM_element 65 = .ok (.istore 5, 2) := by decide +kernel
theorem d_MM_element_67 : decode b_MM_element 67 = .ok (.iload 4, 2) := by decide +kernel
theorem d_MM_element_69 : decode b_MM_element 69 = .ok (.ifCond .eq 28, 3) := by decide +kernel
theorem d_MM_element_97 : decode b_MM_element 97 = .ok (.iconst 0, 1) := by decide +kernel
theorem d_MM_element_98 : decode b_MM_element 98 = .ok (.istore 4, 2) := by decide +kernel
theorem d_MM_element_100 : decode b_MM_element 100 = .ok (.aload_n 0, 1) := by decide +kernel
theorem d_MM_element_101 : decode b_MM_element 101 = .ok (.iload 4, 2) := by decide +kernel
theorem d_MM_element_103 : decode b_MM_element 103 = .ok (.ifCond .eq 7, 3) := by decide +kernel
theorem d_MM_element_110 : decode b_MM_element 110 = .ok (.iconst 1, 1) := by decide +kernel
theorem d_MM_element_111 : decode b_MM_element 111 = .ok (.putfield 343, 3) := by decide +kernel
theorem d_MM_element_114 : decode b_MM_element 114 = .ok (.iload 4, 2) := by decide +kernel
theorem d_MM_element_116 : decode b_MM_element 116 = .ok (.ifCond .ne 7, 3) := by decide +kernel
theorem d_MM_element_119 : decode b_MM_element 119 = .ok (.lconst 0, 1) := by decide +kernel
theorem d_MM_element_120 : decode b_MM_element 120 = .ok (.goto 33, 3) := by decide +kernel
theorem d_MM_element_153 : decode b_MM_element 153 = .ok (.lreturn, 1) := by decide +kernel
set_option maxHeartbeats 4000000 in
set_option maxRecDepth 100000 in
theorem c_MM_element (l : Launch) (dC : Nat → ClassId) (dI : Nat → Nat → Nat) (ca : Nat → ClassId) (h0 : Nat) (q : Nat → Nat) (th : Int32) (s0 : Int32) (f : Int32) (i : Int32) : CT l classes (dC, dI) (mK dC dI ca) wm y_MM_element b_MM_element 6 (some (.long)) 1 25 0 0 [.ref h0, .int s0, .int f, .int i] [(h0, .inr (0, mF q th)), ((q 117), .inl (ca 1, 2, .inl (fun _ => 0))), ((q 120), .inl (ca 1, 8000, .inl (fun _ => 0)))] (fun (v : Option Value) (_ : Unit) => v = some (.long 0)) (fun (_ : Unit) => [(h0, .inr (0, mF q 1))]) := by
  refine ax_of (by decide) (Nat.le_of_ble_eq_true rfl) ?_
  intro p e s m below meth c A ls hAt hK hP hD hS hA hl
  obtain ⟨hx, hb, hr, hml, hown, hts, hlocks, hin⟩ := hAt
  have hl : lv_has ls 6 [(0, .ref h0), (1, .int s0), (2, .int f), (3, .int i)] := hl
  refine lv_iload_n hx hb d_MM_element_0 rfl (lv_at hl 1 rfl) ?_
  refine lv_i2l hx hb d_MM_element_1 rfl ?_
  refine lv_lconst (v := 0) hx hb d_MM_element_2 (by decide) ?_
  refine lv_lconst (v := 1) hx hb d_MM_element_3 (by decide) ?_
  refine ax_St (k := 3) (As := [.long (s0.toInt64), .long 0, .long 1]) (rest := []) (wr := [(h0, .inr (0, mF q th)), ((q 117), .inl (ca 1, 2, .inl (fun _ => 0))), ((q 120), .inl (ca 1, 8000, .inl (fun _ => 0)))]) rfl hx hb hml hown hts g_wm (mK_bl dC dI ca) (c_MM_in l dC dI ca s0.toInt64 0 1) xm_182 xm_183 xm_0 xm_184 (by decide +kernel) rfl (Nat.le_of_ble_eq_true rfl) (Nat.le_of_ble_eq_true rfl) hl.1 (Nat.le_of_ble_eq_true rfl) (mK_up hK) hP hD hS hA [] [0, 1, 2] rfl (by decide) rfl rfl (by decide) (by decide) (Nat.le_of_ble_eq_true rfl) (Nat.le_of_ble_eq_true rfl) d_MM_element_4 (fun v _ H locs hp hP hD hS => ?_)
  rcases hp with ⟨rfl, hc_1⟩ | ⟨rfl, hc_1⟩
  · have h9 := True.intro
    have hP : va_P (dC, dI) classes [(h0, .inr (0, mF q th)), ((q 117), .inl (ca 1, 2, .inl (fun _ => 0))), ((q 120), .inl (ca 1, 8000, .inl (fun _ => 0)))] H := hP
    have hD : va_D A [(h0, .inr (0, mF q th)), ((q 117), .inl (ca 1, 2, .inl (fun _ => 0))), ((q 120), .inl (ca 1, 8000, .inl (fun _ => 0)))] := hD
    refine W.eq (g2 := F0 m 7 ls [.int 1]) rfl ?_
    refine lv_if_eq (tgt := 46) hx hb d_MM_element_7 (by decide) (fun h => absurd h (by decide)) (fun _ => ?_)
    refine lv_iload_n hx hb d_MM_element_10 rfl (lv_at hl 2 rfl) ?_
    refine lv_i2l hx hb d_MM_element_11 rfl ?_
    refine lv_lconst (v := 0) hx hb d_MM_element_12 (by decide) ?_
    refine lv_iload_n hx hb d_MM_element_13 rfl (lv_at hl 1 rfl) ?_
    refine lv_i2l hx hb d_MM_element_14 rfl ?_
    refine lv_lconst (v := 0) hx hb d_MM_element_15 (by decide) ?_
    refine lv_lconst (v := 1) hx hb d_MM_element_16 (by decide) ?_
    refine ax_St (k := 3) (As := [.long (s0.toInt64), .long 0, .long 1]) (rest := [.long 0, .long (f.toInt64)]) (wr := [(h0, .inr (0, mF q th)), ((q 117), .inl (ca 1, 2, .inl (fun _ => 0))), ((q 120), .inl (ca 1, 8000, .inl (fun _ => 0)))]) rfl hx hb hml hown hts g_wm (mK_bl dC dI ca) (c_MM_in l dC dI ca s0.toInt64 0 1) xm_182 xm_183 xm_0 xm_184 (by decide +kernel) rfl (Nat.le_of_ble_eq_true rfl) (Nat.le_of_ble_eq_true rfl) hl.1 (Nat.le_of_ble_eq_true rfl) (mK_up hK) hP hD hS hA [] [0, 1, 2] rfl (by decide) rfl rfl (by decide) (by decide) (Nat.le_of_ble_eq_true rfl) (Nat.le_of_ble_eq_true rfl) d_MM_element_17 (fun v _ H locs hp hP hD hS => ?_)
    obtain rfl : v = some (.int 1) := hp.elim (fun h => h.1) (fun h => absurd hc_1 h.2)
    have hP : va_P (dC, dI) classes [(h0, .inr (0, mF q th)), ((q 117), .inl (ca 1, 2, .inl (fun _ => 0))), ((q 120), .inl (ca 1, 8000, .inl (fun _ => 0)))] H := hP
    have hD : va_D A [(h0, .inr (0, mF q th)), ((q 117), .inl (ca 1, 2, .inl (fun _ => 0))), ((q 120), .inl (ca 1, 8000, .inl (fun _ => 0)))] := hD
    refine W.eq (g2 := F0 m 20 ls [.int 1, .long 0, .long (f.toInt64)]) rfl ?_
    refine lv_if_eq (tgt := 32) hx hb d_MM_element_20 (by decide) (fun h => absurd h (by decide)) (fun _ => ?_)
    refine lv_aload_n hx hb d_MM_element_23 rfl (lv_at hl 0 rfl) ?_
    refine va_get (D := (dC, dI)) (ci := 0) (v := .ref (q 117)) (C := R_MM) (T := F_MM) (N := 132) hx hb hts i_MM hown hK.1 hP 0 rfl rfl 117 (by decide) (hts _ xm_159) (fun _ h9 => h9) rfl d_MM_element_24 ?_
    refine lv_iload_n hx hb d_MM_element_27 rfl (lv_at hl 1 rfl) ?_
    refine va_iald hx hb hK.1 hP 1 1 rfl rfl (vp_in2 hc_1) d_MM_element_28 ?_
    refine W.eq (g2 := F0 m 29 ls [.int 0, .long 0, .long (f.toInt64)]) rfl ?_
    refine lv_goto (tgt := 33) hx hb d_MM_element_29 (by decide) ?_
    refine lv_iconst (v := 1) hx hb d_MM_element_33 (by decide) ?_
    refine lv_isub hx hb d_MM_element_34 ?_
    refine lv_topi (fun z e9 => ?_)
    obtain rfl : z = (-1) := by rw [e9]; decide
    refine lv_i2l (v := (-1)) hx hb d_MM_element_35 (by decide) ?_
    refine ax_St (k := 3) (As := [.long (f.toInt64), .long 0, .long (-1)]) (rest := []) (wr := [(h0, .inr (0, mF q th)), ((q 117), .inl (ca 1, 2, .inl (fun _ => 0))), ((q 120), .inl (ca 1, 8000, .inl (fun _ => 0)))]) rfl hx hb hml hown hts g_wm (mK_bl dC dI ca) (c_MM_in l dC dI ca f.toInt64 0 (-1)) xm_182 xm_183 xm_0 xm_184 (by decide +kernel) rfl (Nat.le_of_ble_eq_true rfl) (Nat.le_of_ble_eq_true rfl) hl.1 (Nat.le_of_ble_eq_true rfl) (mK_up hK) hP hD hS hA [] [0, 1, 2] rfl (by decide) rfl rfl (by decide) (by decide) (Nat.le_of_ble_eq_true rfl) (Nat.le_of_ble_eq_true rfl) d_MM_element_36 (fun v _ H locs hp hP hD hS => ?_)
    obtain rfl : v = some (.int 0) := hp.elim (fun h => absurd h.2 in_no) (fun h => h.1)
    have hP : va_P (dC, dI) classes [(h0, .inr (0, mF q th)), ((q 117), .inl (ca 1, 2, .inl (fun _ => 0))), ((q 120), .inl (ca 1, 8000, .inl (fun _ => 0)))] H := hP
    have hD : va_D A [(h0, .inr (0, mF q th)), ((q 117), .inl (ca 1, 2, .inl (fun _ => 0))), ((q 120), .inl (ca 1, 8000, .inl (fun _ => 0)))] := hD
    refine W.eq (g2 := F0 m 39 ls [.int 0]) rfl ?_
    refine lv_if_eq (tgt := 46) hx hb d_MM_element_39 (by decide) (fun _ => ?_) (fun h => absurd (by decide) h)
    refine lv_iconst (v := 0) hx hb d_MM_element_46 (by decide) ?_
    refine lv_istore (lv' := [(4, .int 0), (0, .ref h0), (1, .int s0), (2, .int f), (3, .int i)]) hx hb d_MM_element_47 hl (by decide) rfl (fun ls hl => ?_)
    refine lv_iload hx hb d_MM_element_49 (lv_at hl 0 rfl) ?_
    refine lv_if_eq (tgt := 64) hx hb d_MM_element_51 (by decide) (fun _ => ?_) (fun h => absurd (by decide) h)
    refine lv_iconst (v := 0) hx hb d_MM_element_64 (by decide) ?_
    refine lv_istore (lv' := [(5, .int 0), (4, .int 0), (0, .ref h0), (1, .int s0), (2, .int f), (3, .int i)]) hx hb d_MM_element_65 hl (by decide) rfl (fun ls hl => ?_)
    refine lv_iload hx hb d_MM_element_67 (lv_at hl 1 rfl) ?_
    refine lv_if_eq (tgt := 97) hx hb d_MM_element_69 (by decide) (fun _ => ?_) (fun h => absurd (by decide) h)
    refine lv_iconst (v := 0) hx hb d_MM_element_97 (by decide) ?_
    refine lv_istore (lv' := [(4, .int 0), (5, .int 0), (0, .ref h0), (1, .int s0), (2, .int f), (3, .int i)]) hx hb d_MM_element_98 hl (by decide) rfl (fun ls hl => ?_)
    refine lv_aload_n hx hb d_MM_element_100 rfl (lv_at hl 2 rfl) ?_
    refine lv_iload hx hb d_MM_element_101 (lv_at hl 0 rfl) ?_
    refine lv_if_eq (tgt := 110) hx hb d_MM_element_103 (by decide) (fun _ => ?_) (fun h => absurd (by decide) h)
    refine lv_iconst (v := 1) hx hb d_MM_element_110 (by decide) ?_
    refine va_put (D := (dC, dI)) (ci := 0) (v := .int 1) (ty := .int) (C := R_MM) (T := F_MM) (N := 132) hx hb hts i_MM t_MM t_MM_ok n_MM hown hK.1 hP hD hS 0 rfl rfl 0 (by decide) (hts _ xm_73) (fun _ h9 => h9) rfl (by decide +kernel) rfl rfl (Nat.le_of_ble_eq_true rfl) d_MM_element_111 (fun H locs hP hD hS => ?_)
    have hP : va_P (dC, dI) classes [(h0, .inr (0, mF q 1)), ((q 117), .inl (ca 1, 2, .inl (fun _ => 0))), ((q 120), .inl (ca 1, 8000, .inl (fun _ => 0)))] H := hP
    have hD : va_D A [(h0, .inr (0, mF q 1)), ((q 117), .inl (ca 1, 2, .inl (fun _ => 0))), ((q 120), .inl (ca 1, 8000, .inl (fun _ => 0)))] := hD
    refine lv_iload hx hb d_MM_element_114 (lv_at hl 0 rfl) ?_
    refine lv_if_ne (tgt := 123) hx hb d_MM_element_116 (by decide) (fun h => absurd h (by decide)) (fun _ => ?_)
    refine lv_lconst (v := 0) hx hb d_MM_element_119 (by decide) ?_
    refine lv_goto (tgt := 153) hx hb d_MM_element_120 (by decide) ?_
    exact ax_lret hx hb hr hlocks hP hD hS () rfl [0] rfl (by decide) rfl (Nat.le_of_ble_eq_true rfl) (Nat.le_of_ble_eq_true rfl) d_MM_element_153
  · have h9 := True.intro
    have hP : va_P (dC, dI) classes [(h0, .inr (0, mF q th)), ((q 117), .inl (ca 1, 2, .inl (fun _ => 0))), ((q 120), .inl (ca 1, 8000, .inl (fun _ => 0)))] H := hP
    have hD : va_D A [(h0, .inr (0, mF q th)), ((q 117), .inl (ca 1, 2, .inl (fun _ => 0))), ((q 120), .inl (ca 1, 8000, .inl (fun _ => 0)))] := hD
    refine W.eq (g2 := F0 m 7 ls [.int 0]) rfl ?_
    refine lv_if_eq (tgt := 46) hx hb d_MM_element_7 (by decide) (fun _ => ?_) (fun h => absurd (by decide) h)
    refine lv_iconst (v := 0) hx hb d_MM_element_46 (by decide) ?_
    refine lv_istore (lv' := [(4, .int 0), (0, .ref h0), (1, .int s0), (2, .int f), (3, .int i)]) hx hb d_MM_element_47 hl (by decide) rfl (fun ls hl => ?_)
    refine lv_iload hx hb d_MM_element_49 (lv_at hl 0 rfl) ?_
    refine lv_if_eq (tgt := 64) hx hb d_MM_element_51 (by decide) (fun _ => ?_) (fun h => absurd (by decide) h)
    refine lv_iconst (v := 0) hx hb d_MM_element_64 (by decide) ?_
    refine lv_istore (lv' := [(5, .int 0), (4, .int 0), (0, .ref h0), (1, .int s0), (2, .int f), (3, .int i)]) hx hb d_MM_element_65 hl (by decide) rfl (fun ls hl => ?_)
    refine lv_iload hx hb d_MM_element_67 (lv_at hl 1 rfl) ?_
    refine lv_if_eq (tgt := 97) hx hb d_MM_element_69 (by decide) (fun _ => ?_) (fun h => absurd (by decide) h)
    refine lv_iconst (v := 0) hx hb d_MM_element_97 (by decide) ?_
    refine lv_istore (lv' := [(4, .int 0), (5, .int 0), (0, .ref h0), (1, .int s0), (2, .int f), (3, .int i)]) hx hb d_MM_element_98 hl (by decide) rfl (fun ls hl => ?_)
    refine lv_aload_n hx hb d_MM_element_100 rfl (lv_at hl 2 rfl) ?_
    refine lv_iload hx hb d_MM_element_101 (lv_at hl 0 rfl) ?_
    refine lv_if_eq (tgt := 110) hx hb d_MM_element_103 (by decide) (fun _ => ?_) (fun h => absurd (by decide) h)
    refine lv_iconst (v := 1) hx hb d_MM_element_110 (by decide) ?_
    refine va_put (D := (dC, dI)) (ci := 0) (v := .int 1) (ty := .int) (C := R_MM) (T := F_MM) (N := 132) hx hb hts i_MM t_MM t_MM_ok n_MM hown hK.1 hP hD hS 0 rfl rfl 0 (by decide) (hts _ xm_73) (fun _ h9 => h9) rfl (by decide +kernel) rfl rfl (Nat.le_of_ble_eq_true rfl) d_MM_element_111 (fun H locs hP hD hS => ?_)
    have hP : va_P (dC, dI) classes [(h0, .inr (0, mF q 1)), ((q 117), .inl (ca 1, 2, .inl (fun _ => 0))), ((q 120), .inl (ca 1, 8000, .inl (fun _ => 0)))] H := hP
    have hD : va_D A [(h0, .inr (0, mF q 1)), ((q 117), .inl (ca 1, 2, .inl (fun _ => 0))), ((q 120), .inl (ca 1, 8000, .inl (fun _ => 0)))] := hD
    refine lv_iload hx hb d_MM_element_114 (lv_at hl 0 rfl) ?_
    refine lv_if_ne (tgt := 123) hx hb d_MM_element_116 (by decide) (fun h => absurd h (by decide)) (fun _ => ?_)
    refine lv_lconst (v := 0) hx hb d_MM_element_119 (by decide) ?_
    refine lv_goto (tgt := 153) hx hb d_MM_element_120 (by decide) ?_
    exact ax_lret hx hb hr hlocks hP hD hS () rfl [0] rfl (by decide) rfl (Nat.le_of_ble_eq_true rfl) (Nat.le_of_ble_eq_true rfl) d_MM_element_153
theorem d_MM_steps_0 : decode b_MM_steps 0 = .ok (.iload_n 1, 1) := by decide +kernel
theorem d_MM_steps_1 : decode b_MM_steps 1 = .ok (.i2l, 1) := by decide +kernel
theorem d_MM_steps_2 : decode b_MM_steps 2 = .ok (.lconst 0, 1) := by decide +kernel
theorem d_MM_steps_3 : decode b_MM_steps 3 = .ok (.lconst 1, 1) := by decide +kernel
theorem d_MM_steps_4 : decode b_MM_steps 4 = .ok (.invokestatic 349, 3) := by decide +kernel
theorem d_MM_steps_7 : decode b_MM_steps 7 = .ok (.ifCond .eq 15, 3) := by decide +kernel
theorem d_MM_steps_10 : decode b_MM_steps 10 = .ok (.iload_n 2, 1) := by decide +kernel
theorem d_MM_steps_11 : decode b_MM_steps 11 = .ok (.i2l, 1) := by decide +kernel
theorem d_MM_steps_12 : decode b_MM_steps 12 = .ok (.lconst 1, 1) := by decide +kernel
theorem d_MM_steps_13 : decode b_MM_steps 13 = .ok (.ldc2_w 580, 3) := by decide +kernel
theorem d_MM_steps_16 : decode b_MM_steps 16 = .ok (.invokestatic 349, 3) := by decide +kernel
theorem d_MM_steps_19 : decode b_MM_steps 19 = .ok (.ifCond .ne 10, 3) := by decide +kernel
theorem d_MM_steps_22 : decode b_MM_steps 22 = .ok (.aload_n 0, 1) := by decide +kernel
theorem d_MM_steps_23 : decode b_MM_steps 23 = .ok (.iconst 1, 1) := by decide +kernel
theorem d_MM_steps_24 : decode b_MM_steps 24 = .ok (.putfield 343, 3) := by decide +kernel
theorem d_MM_steps_27 : decode b_MM_steps 27 = .ok (.iconst 0, 1) := by decide +kernel
theorem d_MM_steps_28 : decode b_MM_steps 28 = .ok (.ireturn, 1) := by decide +kernel
theorem d_MM_steps_29 : decode b_MM_steps 29 = .ok (.aload_n 0, 1) := by decide +kernel
theorem d_MM_steps_30 : decode b_MM_steps 30 = .ok (.aload_n 0, 1) := by decide +kernel
theorem d_MM_steps_31 : decode b_MM_steps 31 = .ok (.getfield 283, 3) := by decide +kernel
theorem d_MM_steps_34 : decode b_MM_steps 34 = .ok (.iload_n 1, 1) := by decide +kernel
theorem d_MM_steps_35 : decode b_MM_steps 35 = .ok (.iaload, 1) := by decide +kernel
theorem d_MM_steps_36 : decode b_MM_steps 36 = .ok (.iconst 1, 1) := by decide +kernel
theorem d_MM_steps_37 : decode b_MM_steps 37 = .ok (.if_icmp .ne 7, 3) := by decide +kernel
theorem d_MM_steps_44 : decode b_MM_steps 44 = .ok (.iconst 2, 1) := by decide +kernel
theorem d_MM_steps_45 : decode b_MM_steps 45 = .ok (.putfield 343, 3) := by decide +kernel
theorem d_MM_steps_48 : decode b_MM_steps 48 = .ok (.aload_n 0, 1) := by decide +kernel
theorem d_MM_steps_49 : decode b_MM_steps 49 = .ok (.getfield 343, 3) := by decide +kernel
theorem d_MM_steps_52 : decode b_MM_steps 52 = .ok (.ifCond .le 5, 3) := by decide +kernel
theorem d_MM_steps_55 : decode b_MM_steps 55 = .ok (.iconst 0, 1) := by decide +kernel
theorem d_MM_steps_56 : decode b_MM_steps 56 = .ok (.ireturn, 1) := by decide +kernel
set_option maxHeartbeats 4000000 in
set_option maxRecDepth 100000 in
theorem c_MM_steps (l : Launch) (dC : Nat → ClassId) (dI : Nat → Nat → Nat) (ca : Nat → ClassId) (h0 : Nat) (q : Nat → Nat) (th : Int32) (s0 : Int32) (n : Int32) : CT l classes (dC, dI) (mK dC dI ca) wm y_MM_steps b_MM_steps 4 (some (.int)) 1 25 0 0 [.ref h0, .int s0, .int n] [(h0, .inr (0, mF q th)), ((q 110), .inl (ca 1, 2, .inl (fun _ => 0)))] (fun (v : Option Value) (u : Int32) => v = some (.int 0) ∧ ((u = 2 ∧ (0 ≤ s0.toInt64 ∧ s0.toInt64 ≤ 1) ∧ (1 ≤ n.toInt64 ∧ n.toInt64 ≤ 4000)) ∨ (u = 1 ∧ ¬ ((0 ≤ s0.toInt64 ∧ s0.toInt64 ≤ 1) ∧ (1 ≤ n.toInt64 ∧ n.toInt64 ≤ 4000))))) (fun (u : Int32) => [(h0, .inr (0, mF q u))]) := by
  refine ax_of (by decide) (Nat.le_of_ble_eq_true rfl) ?_
  intro p e s m below meth c A ls hAt hK hP hD hS hA hl
  obtain ⟨hx, hb, hr, hml, hown, hts, hlocks, hin⟩ := hAt
  have hl : lv_has ls 4 [(0, .ref h0), (1, .int s0), (2, .int n)] := hl
  refine lv_iload_n hx hb d_MM_steps_0 rfl (lv_at hl 1 rfl) ?_
  refine lv_i2l hx hb d_MM_steps_1 rfl ?_
  refine lv_lconst (v := 0) hx hb d_MM_steps_2 (by decide) ?_
  refine lv_lconst (v := 1) hx hb d_MM_steps_3 (by decide) ?_
  refine ax_St (k := 3) (As := [.long (s0.toInt64), .long 0, .long 1]) (rest := []) (wr := [(h0, .inr (0, mF q th)), ((q 110), .inl (ca 1, 2, .inl (fun _ => 0)))]) rfl hx hb hml hown hts g_wm (mK_bl dC dI ca) (c_MM_in l dC dI ca s0.toInt64 0 1) xm_182 xm_183 xm_0 xm_184 (by decide +kernel) rfl (Nat.le_of_ble_eq_true rfl) (Nat.le_of_ble_eq_true rfl) hl.1 (Nat.le_of_ble_eq_true rfl) (mK_up hK) hP hD hS hA [] [0, 1] rfl (by decide) rfl rfl (by decide) (by decide) (Nat.le_of_ble_eq_true rfl) (Nat.le_of_ble_eq_true rfl) d_MM_steps_4 (fun v _ H locs hp hP hD hS => ?_)
  rcases hp with ⟨rfl, hc_1⟩ | ⟨rfl, hc_1⟩
  · have h9 := True.intro
    have hP : va_P (dC, dI) classes [(h0, .inr (0, mF q th)), ((q 110), .inl (ca 1, 2, .inl (fun _ => 0)))] H := hP
    have hD : va_D A [(h0, .inr (0, mF q th)), ((q 110), .inl (ca 1, 2, .inl (fun _ => 0)))] := hD
    refine W.eq (g2 := F0 m 7 ls [.int 1]) rfl ?_
    refine lv_if_eq (tgt := 22) hx hb d_MM_steps_7 (by decide) (fun h => absurd h (by decide)) (fun _ => ?_)
    refine lv_iload_n hx hb d_MM_steps_10 rfl (lv_at hl 2 rfl) ?_
    refine lv_i2l hx hb d_MM_steps_11 rfl ?_
    refine lv_lconst (v := 1) hx hb d_MM_steps_12 (by decide) ?_
    refine lv_ldc2 (v := 4000) hx hb hown (hts _ xm_255) d_MM_steps_13 ?_
    refine ax_St (k := 3) (As := [.long (n.toInt64), .long 1, .long 4000]) (rest := []) (wr := [(h0, .inr (0, mF q th)), ((q 110), .inl (ca 1, 2, .inl (fun _ => 0)))]) rfl hx hb hml hown hts g_wm (mK_bl dC dI ca) (c_MM_in l dC dI ca n.toInt64 1 4000) xm_182 xm_183 xm_0 xm_184 (by decide +kernel) rfl (Nat.le_of_ble_eq_true rfl) (Nat.le_of_ble_eq_true rfl) hl.1 (Nat.le_of_ble_eq_true rfl) (mK_up hK) hP hD hS hA [] [0, 1] rfl (by decide) rfl rfl (by decide) (by decide) (Nat.le_of_ble_eq_true rfl) (Nat.le_of_ble_eq_true rfl) d_MM_steps_16 (fun v _ H locs hp hP hD hS => ?_)
    rcases hp with ⟨rfl, hc_2⟩ | ⟨rfl, hc_2⟩
    · have h9 := True.intro
      have hP : va_P (dC, dI) classes [(h0, .inr (0, mF q th)), ((q 110), .inl (ca 1, 2, .inl (fun _ => 0)))] H := hP
      have hD : va_D A [(h0, .inr (0, mF q th)), ((q 110), .inl (ca 1, 2, .inl (fun _ => 0)))] := hD
      refine W.eq (g2 := F0 m 19 ls [.int 1]) rfl ?_
      refine lv_if_ne (tgt := 29) hx hb d_MM_steps_19 (by decide) (fun _ => ?_) (fun h => absurd h (by decide))
      refine lv_aload_n hx hb d_MM_steps_29 rfl (lv_at hl 0 rfl) ?_
      refine lv_aload_n hx hb d_MM_steps_30 rfl (lv_at hl 0 rfl) ?_
      refine va_get (D := (dC, dI)) (ci := 0) (v := .ref (q 110)) (C := R_MM) (T := F_MM) (N := 132) hx hb hts i_MM hown hK.1 hP 0 rfl rfl 110 (by decide) (hts _ xm_152) (fun _ h9 => h9) rfl d_MM_steps_31 ?_
      refine lv_iload_n hx hb d_MM_steps_34 rfl (lv_at hl 1 rfl) ?_
      refine va_iald hx hb hK.1 hP 1 1 rfl rfl (vp_in2 hc_1) d_MM_steps_35 ?_
      refine W.eq (g2 := F0 m 36 ls [.int 0, .ref h0]) rfl ?_
      refine lv_iconst (v := 1) hx hb d_MM_steps_36 (by decide) ?_
      refine lv_icmp_ne (tgt := 44) hx hb d_MM_steps_37 (by decide) (fun _ => ?_) (fun h => absurd h (by decide))
      refine lv_iconst (v := 2) hx hb d_MM_steps_44 (by decide) ?_
      refine va_put (D := (dC, dI)) (ci := 0) (v := .int 2) (ty := .int) (C := R_MM) (T := F_MM) (N := 132) hx hb hts i_MM t_MM t_MM_ok n_MM hown hK.1 hP hD hS 0 rfl rfl 0 (by decide) (hts _ xm_73) (fun _ h9 => h9) rfl (by decide +kernel) rfl rfl (Nat.le_of_ble_eq_true rfl) d_MM_steps_45 (fun H locs hP hD hS => ?_)
      have hP : va_P (dC, dI) classes [(h0, .inr (0, mF q 2)), ((q 110), .inl (ca 1, 2, .inl (fun _ => 0)))] H := hP
      have hD : va_D A [(h0, .inr (0, mF q 2)), ((q 110), .inl (ca 1, 2, .inl (fun _ => 0)))] := hD
      refine lv_aload_n hx hb d_MM_steps_48 rfl (lv_at hl 0 rfl) ?_
      refine va_get (D := (dC, dI)) (ci := 0) (v := .int 2) (C := R_MM) (T := F_MM) (N := 132) hx hb hts i_MM hown hK.1 hP 0 rfl rfl 0 (by decide) (hts _ xm_73) (fun _ h9 => h9) rfl d_MM_steps_49 ?_
      refine lv_if_le (tgt := 57) hx hb d_MM_steps_52 (by decide) (fun h => absurd h (by decide)) (fun _ => ?_)
      refine lv_iconst (v := 0) hx hb d_MM_steps_55 (by decide) ?_
      exact ax_iret hx hb hr hlocks hP hD hS 2 ⟨rfl, Or.inl ⟨rfl, hc_1, hc_2⟩⟩ [0] rfl (by decide) rfl (Nat.le_of_ble_eq_true rfl) (Nat.le_of_ble_eq_true rfl) d_MM_steps_56
    · have h9 := True.intro
      have hP : va_P (dC, dI) classes [(h0, .inr (0, mF q th)), ((q 110), .inl (ca 1, 2, .inl (fun _ => 0)))] H := hP
      have hD : va_D A [(h0, .inr (0, mF q th)), ((q 110), .inl (ca 1, 2, .inl (fun _ => 0)))] := hD
      refine W.eq (g2 := F0 m 19 ls [.int 0]) rfl ?_
      refine lv_if_ne (tgt := 29) hx hb d_MM_steps_19 (by decide) (fun h => absurd h (by decide)) (fun _ => ?_)
      refine lv_aload_n hx hb d_MM_steps_22 rfl (lv_at hl 0 rfl) ?_
      refine lv_iconst (v := 1) hx hb d_MM_steps_23 (by decide) ?_
      refine va_put (D := (dC, dI)) (ci := 0) (v := .int 1) (ty := .int) (C := R_MM) (T := F_MM) (N := 132) hx hb hts i_MM t_MM t_MM_ok n_MM hown hK.1 hP hD hS 0 rfl rfl 0 (by decide) (hts _ xm_73) (fun _ h9 => h9) rfl (by decide +kernel) rfl rfl (Nat.le_of_ble_eq_true rfl) d_MM_steps_24 (fun H locs hP hD hS => ?_)
      have hP : va_P (dC, dI) classes [(h0, .inr (0, mF q 1)), ((q 110), .inl (ca 1, 2, .inl (fun _ => 0)))] H := hP
      have hD : va_D A [(h0, .inr (0, mF q 1)), ((q 110), .inl (ca 1, 2, .inl (fun _ => 0)))] := hD
      refine lv_iconst (v := 0) hx hb d_MM_steps_27 (by decide) ?_
      exact ax_iret hx hb hr hlocks hP hD hS 1 ⟨rfl, Or.inr ⟨rfl, fun h => hc_2 h.2⟩⟩ [0] rfl (by decide) rfl (Nat.le_of_ble_eq_true rfl) (Nat.le_of_ble_eq_true rfl) d_MM_steps_28
  · have h9 := True.intro
    have hP : va_P (dC, dI) classes [(h0, .inr (0, mF q th)), ((q 110), .inl (ca 1, 2, .inl (fun _ => 0)))] H := hP
    have hD : va_D A [(h0, .inr (0, mF q th)), ((q 110), .inl (ca 1, 2, .inl (fun _ => 0)))] := hD
    refine W.eq (g2 := F0 m 7 ls [.int 0]) rfl ?_
    refine lv_if_eq (tgt := 22) hx hb d_MM_steps_7 (by decide) (fun _ => ?_) (fun h => absurd (by decide) h)
    refine lv_aload_n hx hb d_MM_steps_22 rfl (lv_at hl 0 rfl) ?_
    refine lv_iconst (v := 1) hx hb d_MM_steps_23 (by decide) ?_
    refine va_put (D := (dC, dI)) (ci := 0) (v := .int 1) (ty := .int) (C := R_MM) (T := F_MM) (N := 132) hx hb hts i_MM t_MM t_MM_ok n_MM hown hK.1 hP hD hS 0 rfl rfl 0 (by decide) (hts _ xm_73) (fun _ h9 => h9) rfl (by decide +kernel) rfl rfl (Nat.le_of_ble_eq_true rfl) d_MM_steps_24 (fun H locs hP hD hS => ?_)
    have hP : va_P (dC, dI) classes [(h0, .inr (0, mF q 1)), ((q 110), .inl (ca 1, 2, .inl (fun _ => 0)))] H := hP
    have hD : va_D A [(h0, .inr (0, mF q 1)), ((q 110), .inl (ca 1, 2, .inl (fun _ => 0)))] := hD
    refine lv_iconst (v := 0) hx hb d_MM_steps_27 (by decide) ?_
    exact ax_iret hx hb hr hlocks hP hD hS 1 ⟨rfl, Or.inr ⟨rfl, fun h => hc_1 h.1⟩⟩ [0] rfl (by decide) rfl (Nat.le_of_ble_eq_true rfl) (Nat.le_of_ble_eq_true rfl) d_MM_steps_28
end
section
theorem sw_5 (x : Int32) : x = 0 ∨ x = 1 ∨ x = 2 ∨ x = 3 ∨ x = 4 ∨ x = 5 ∨ (x.toInt < 0 ∨ 5 < x.toInt) := by
  by_cases h0 : x = 0
  · exact Or.inl h0
  by_cases h1 : x = 1
  · exact Or.inr (Or.inl h1)
  by_cases h2 : x = 2
  · exact Or.inr (Or.inr (Or.inl h2))
  by_cases h3 : x = 3
  · exact Or.inr (Or.inr (Or.inr (Or.inl h3)))
  by_cases h4 : x = 4
  · exact Or.inr (Or.inr (Or.inr (Or.inr (Or.inl h4))))
  by_cases h5 : x = 5
  · exact Or.inr (Or.inr (Or.inr (Or.inr (Or.inr (Or.inl h5)))))
  have e0 : x.toInt ≠ 0 := fun h => h0 (Int32.toInt_inj.mp (h.trans (by decide)))
  have e1 : x.toInt ≠ 1 := fun h => h1 (Int32.toInt_inj.mp (h.trans (by decide)))
  have e2 : x.toInt ≠ 2 := fun h => h2 (Int32.toInt_inj.mp (h.trans (by decide)))
  have e3 : x.toInt ≠ 3 := fun h => h3 (Int32.toInt_inj.mp (h.trans (by decide)))
  have e4 : x.toInt ≠ 4 := fun h => h4 (Int32.toInt_inj.mp (h.trans (by decide)))
  have e5 : x.toInt ≠ 5 := fun h => h5 (Int32.toInt_inj.mp (h.trans (by decide)))
  exact Or.inr (Or.inr (Or.inr (Or.inr (Or.inr (Or.inr (by omega))))))
theorem sw_7 (x : Int32) : x = 0 ∨ x = 1 ∨ x = 2 ∨ x = 3 ∨ x = 4 ∨ x = 5 ∨ x = 6 ∨ x = 7 ∨ (x.toInt < 0 ∨ 7 < x.toInt) := by
  by_cases h0 : x = 0
  · exact Or.inl h0
  by_cases h1 : x = 1
  · exact Or.inr (Or.inl h1)
  by_cases h2 : x = 2
  · exact Or.inr (Or.inr (Or.inl h2))
  by_cases h3 : x = 3
  · exact Or.inr (Or.inr (Or.inr (Or.inl h3)))
  by_cases h4 : x = 4
  · exact Or.inr (Or.inr (Or.inr (Or.inr (Or.inl h4))))
  by_cases h5 : x = 5
  · exact Or.inr (Or.inr (Or.inr (Or.inr (Or.inr (Or.inl h5)))))
  by_cases h6 : x = 6
  · exact Or.inr (Or.inr (Or.inr (Or.inr (Or.inr (Or.inr (Or.inl h6))))))
  by_cases h7 : x = 7
  · exact Or.inr (Or.inr (Or.inr (Or.inr (Or.inr (Or.inr (Or.inr (Or.inl h7)))))))
  have e0 : x.toInt ≠ 0 := fun h => h0 (Int32.toInt_inj.mp (h.trans (by decide)))
  have e1 : x.toInt ≠ 1 := fun h => h1 (Int32.toInt_inj.mp (h.trans (by decide)))
  have e2 : x.toInt ≠ 2 := fun h => h2 (Int32.toInt_inj.mp (h.trans (by decide)))
  have e3 : x.toInt ≠ 3 := fun h => h3 (Int32.toInt_inj.mp (h.trans (by decide)))
  have e4 : x.toInt ≠ 4 := fun h => h4 (Int32.toInt_inj.mp (h.trans (by decide)))
  have e5 : x.toInt ≠ 5 := fun h => h5 (Int32.toInt_inj.mp (h.trans (by decide)))
  have e6 : x.toInt ≠ 6 := fun h => h6 (Int32.toInt_inj.mp (h.trans (by decide)))
  have e7 : x.toInt ≠ 7 := fun h => h7 (Int32.toInt_inj.mp (h.trans (by decide)))
  exact Or.inr (Or.inr (Or.inr (Or.inr (Or.inr (Or.inr (Or.inr (Or.inr (by omega))))))))
/-- what state answers of a side where nothing has run -/
def stV (i : Int32) : Int64 := if i = 6 ∨ i = 7 ∨ i = 8 then -1 else 0
theorem st8 {i : Int32} (h : 0 ≤ i.toInt64 ∧ i.toInt64 ≤ 8) (h7 : i.toInt < 0 ∨ 7 < i.toInt) : i = 8 := by
  have h1 := Int64.le_iff_toInt_le.mp h.1
  have h2 := Int64.le_iff_toInt_le.mp h.2
  rw [Int32.toInt_toInt64] at h1 h2
  have e1 : (0 : Int64).toInt = 0 := by decide
  have e2 : (8 : Int64).toInt = 8 := by decide
  have e3 : (8 : Int32).toInt = 8 := by decide
  exact Int32.toInt_inj.mp (by omega)
/-- what count answers of a fresh object -/
def cnV (i : Int32) : Int32 := if i = 0 ∨ i = 1 ∨ i = 2 ∨ i = 3 ∨ i = 4 ∨ i = 5 then 0 else -1
theorem cn_out {i : Int32} (h : i.toInt < 0 ∨ 5 < i.toInt) : cnV i = -1 := by
  unfold cnV
  refine if_neg (fun h2 => ?_)
  rcases h2 with rfl | rfl | rfl | rfl | rfl | rfl <;> revert h <;> decide
theorem d_MM_state_0 : decode b_MM_state 0 = .ok (.iload_n 1, 1) := by decide +kernel
theorem d_MM_state_1 : decode b_MM_state 1 = .ok (.i2l, 1) := by decide +kernel
theorem d_MM_state_2 : decode b_MM_state 2 = .ok (.lconst 0, 1) := by decide +kernel
theorem d_MM_state_3 : decode b_MM_state 3 = .ok (.lconst 1, 1) := by decide +kernel
theorem d_MM_state_4 : decode b_MM_state 4 = .ok (.invokestatic 349, 3) := by decide +kernel
theorem d_MM_state_7 : decode b_MM_state 7 = .ok (.ifCond .eq 15, 3) := by decide +kernel
theorem d_MM_state_10 : decode b_MM_state 10 = .ok (.iload_n 2, 1) := by decide +kernel
theorem d_MM_state_11 : decode b_MM_state 11 = .ok (.i2l, 1) := by decide +kernel
theorem d_MM_state_12 : decode b_MM_state 12 = .ok (.lconst 0, 1) := by decide +kernel
theorem d_MM_state_13 : decode b_MM_state 13 = .ok (.ldc2_w 347, 3) := by decide +kernel
theorem d_MM_state_16 : decode b_MM_state 16 = .ok (.invokestatic 349, 3) := by decide +kernel
theorem d_MM_state_19 : decode b_MM_state 19 = .ok (.ifCond .ne 10, 3) := by decide +kernel
theorem d_MM_state_22 : decode b_MM_state 22 = .ok (.aload_n 0, 1) := by decide +kernel
theorem d_MM_state_23 : decode b_MM_state 23 = .ok (.iconst 1, 1) := by decide +kernel
theorem d_MM_state_24 : decode b_MM_state 24 = .ok (.putfield 343, 3) := by decide +kernel
theorem d_MM_state_27 : decode b_MM_state 27 = .ok (.lconst 0, 1) := by decide +kernel
theorem d_MM_state_28 : decode b_MM_state 28 = .ok (.lreturn, 1) := by decide +kernel
theorem d_MM_state_29 : decode b_MM_state 29 = .ok (.aload_n 0, 1) := by decide +kernel
theorem d_MM_state_30 : decode b_MM_state 30 = .ok (.iconst 0, 1) := by decide +kernel
theorem d_MM_state_31 : decode b_MM_state 31 = .ok (.putfield 343, 3) := by decide +kernel
theorem d_MM_state_34 : decode b_MM_state 34 = .ok (.bipush 60, 2) := by decide +kernel
theorem d_MM_state_36 : decode b_MM_state 36 = .ok (.iload_n 1, 1) := by decide +kernel
theorem d_MM_state_37 : decode b_MM_state 37 = .ok (.imul, 1) := by decide +kernel
theorem d_MM_state_38 : decode b_MM_state 38 = .ok (.aload_n 0, 1) := by decide +kernel
theorem d_MM_state_39 : decode b_MM_state 39 = .ok (.getfield 318, 3) := by decide +kernel
theorem d_MM_state_42 : decode b_MM_state 42 = .ok (.iload_n 1, 1) := by decide +kernel
theorem d_MM_state_43 : decode b_MM_state 43 = .ok (.iaload, 1) := by decide +kernel
theorem d_MM_state_44 : decode b_MM_state 44 = .ok (.iadd, 1) := by decide +kernel
theorem d_MM_state_45 : decode b_MM_state 45 = .ok (.iconst 1, 1) := by decide +kernel
theorem d_MM_state_46 : decode b_MM_state 46 = .ok (.isub, 1) := by decide +kernel
theorem d_MM_state_47 : decode b_MM_state 47 = .ok (.istore_n 3, 1) := by decide +kernel
theorem d_MM_state_48 : decode b_MM_state 48 = .ok (.aload_n 0, 1) := by decide +kernel
theorem d_MM_state_49 : decode b_MM_state 49 = .ok (.getfield 283, 3) := by decide +kernel
theorem d_MM_state_52 : decode b_MM_state 52 = .ok (.iload_n 1, 1) := by decide +kernel
theorem d_MM_state_53 : decode b_MM_state 53 = .ok (.iaload, 1) := by decide +kernel
theorem d_MM_state_54 : decode b_MM_state 54 = .ok (.iconst 1, 1) := by decide +kernel
theorem d_MM_state_55 : decode b_MM_state 55 = .ok (.if_icmp .ne 7, 3) := by decide +kernel
theorem d_MM_state_62 : decode b_MM_state 62 = .ok (.iconst 0, 1) := by decide +kernel
theorem d_MM_state_63 : decode b_MM_state 63 = .ok (.istore 4, 2) := by decide +kernel
theorem d_MM_state_65 : decode b_MM_state 65 = .ok (.iload_n 2, 1) := by decide +kernel
theorem d_MM_state_66 : decode b_MM_state 66 = .ok (.tableswitch 138 0 7 #[46, 54, 61, 69, 76, 83, 100, 119], 46) := by decide +kernel
theorem d_MM_state_112 : decode b_MM_state 112 = .ok (.aload_n 0, 1) := by decide +kernel
theorem d_MM_state_113 : decode b_MM_state 113 = .ok (.getfield 283, 3) := by decide +kernel
theorem d_MM_state_116 : decode b_MM_state 116 = .ok (.iload_n 1, 1) := by decide +kernel
theorem d_MM_state_117 : decode b_MM_state 117 = .ok (.iaload, 1) := by decide +kernel
theorem d_MM_state_118 : decode b_MM_state 118 = .ok (.i2l, 1) := by decide +kernel
theorem d_MM_state_119 : decode b_MM_state 119 = .ok (.lreturn, 1) := by decide +kernel
theorem d_MM_state_120 : decode b_MM_state 120 = .ok (.aload_n 0, 1) := by decide +kernel
theorem d_MM_state_121 : decode b_MM_state 121 = .ok (.getfield 286, 3) := by decide +kernel
theorem d_MM_state_124 : decode b_MM_state 124 = .ok (.iload_n 1, 1) := by decide +kernel
theorem d_MM_state_125 : decode b_MM_state 125 = .ok (.laload, 1) := by decide +kernel
theorem d_MM_state_126 : decode b_MM_state 126 = .ok (.lreturn, 1) := by decide +kernel
theorem d_MM_state_127 : decode b_MM_state 127 = .ok (.aload_n 0, 1) := by decide +kernel
theorem d_MM_state_128 : decode b_MM_state 128 = .ok (.getfield 290, 3) := by decide +kernel
theorem d_MM_state_131 : decode b_MM_state 131 = .ok (.iload_n 1, 1) := by decide +kernel
theorem d_MM_state_132 : decode b_MM_state 132 = .ok (.iaload, 1) := by decide +kernel
theorem d_MM_state_133 : decode b_MM_state 133 = .ok (.i2l, 1) := by decide +kernel
theorem d_MM_state_134 : decode b_MM_state 134 = .ok (.lreturn, 1) := by decide +kernel
theorem d_MM_state_135 : decode b_MM_state 135 = .ok (.aload_n 0, 1) := by decide +kernel
theorem d_MM_state_136 : decode b_MM_state 136 = .ok (.getfield 293, 3) := by decide +kernel
theorem d_MM_state_139 : decode b_MM_state 139 = .ok (.iload_n 1, 1) := by decide +kernel
theorem d_MM_state_140 : decode b_MM_state 140 = .ok (.laload, 1) := by decide +kernel
theorem d_MM_state_141 : decode b_MM_state 141 = .ok (.lreturn, 1) := by decide +kernel
theorem d_MM_state_142 : decode b_MM_state 142 = .ok (.aload_n 0, 1) := by decide +kernel
theorem d_MM_state_143 : decode b_MM_state 143 = .ok (.getfield 296, 3) := by decide +kernel
theorem d_MM_state_146 : decode b_MM_state 146 = .ok (.iload_n 1, 1) := by decide +kernel
theorem d_MM_state_147 : decode b_MM_state 147 = .ok (.laload, 1) := by decide +kernel
theorem d_MM_state_148 : decode b_MM_state 148 = .ok (.lreturn, 1) := by decide +kernel
theorem d_MM_state_149 : decode b_MM_state 149 = .ok (.iload 4, 2) := by decide +kernel
theorem d_MM_state_151 : decode b_MM_state 151 = .ok (.ifCond .eq 13, 3) := by decide +kernel
theorem d_MM_state_164 : decode b_MM_state 164 = .ok (.lconst 0, 1) := by decide +kernel
theorem d_MM_state_165 : decode b_MM_state 165 = .ok (.lreturn, 1) := by decide +kernel
theorem d_MM_state_166 : decode b_MM_state 166 = .ok (.iload 4, 2) := by decide +kernel
theorem d_MM_state_168 : decode b_MM_state 168 = .ok (.ifCond .eq 13, 3) := by decide +kernel
theorem d_MM_state_181 : decode b_MM_state 181 = .ok (.ldc2_w 1474, 3) := by decide +kernel
theorem d_MM_state_184 : decode b_MM_state 184 = .ok (.lreturn, 1) := by decide +kernel
theorem d_MM_state_185 : decode b_MM_state 185 = .ok (.iload 4, 2) := by decide +kernel
theorem d_MM_state_187 : decode b_MM_state 187 = .ok (.ifCond .eq 13, 3) := by decide +kernel
theorem d_MM_state_200 : decode b_MM_state 200 = .ok (.ldc2_w 1474, 3) := by decide +kernel
theorem d_MM_state_203 : decode b_MM_state 203 = .ok (.lreturn, 1) := by decide +kernel
theorem d_MM_state_204 : decode b_MM_state 204 = .ok (.iload 4, 2) := by decide +kernel
theorem d_MM_state_206 : decode b_MM_state 206 = .ok (.ifCond .eq 13, 3) := by decide +kernel
theorem d_MM_state_219 : decode b_MM_state 219 = .ok (.ldc2_w 1474, 3) := by decide +kernel
theorem d_MM_state_222 : decode b_MM_state 222 = .ok (.lreturn, 1) := by decide +kernel
set_option maxHeartbeats 4000000 in
set_option maxRecDepth 100000 in
theorem c_MM_state (l : Launch) (dC : Nat → ClassId) (dI : Nat → Nat → Nat) (ca : Nat → ClassId) (h0 : Nat) (q : Nat → Nat) (th : Int32) (s0 : Int32) (i : Int32) : CT l classes (dC, dI) (mK dC dI ca) wm y_MM_state b_MM_state 5 (some (.long)) 1 25 0 0 [.ref h0, .int s0, .int i] [(h0, .inr (0, mF q th)), ((q 110), .inl (ca 1, 2, .inl (fun _ => 0))), ((q 111), .inl (ca 2, 2, .inr (.inl (fun _ => 0)))), ((q 112), .inl (ca 1, 2, .inl (fun _ => 0))), ((q 113), .inl (ca 2, 2, .inr (.inl (fun _ => 0)))), ((q 114), .inl (ca 2, 2, .inr (.inl (fun _ => 0)))), ((q 122), .inl (ca 1, 2, .inl (fun _ => 0)))] (fun (v : Option Value) (u : Int32) => (u = 0 ∧ ((0 ≤ s0.toInt64 ∧ s0.toInt64 ≤ 1) ∧ (0 ≤ i.toInt64 ∧ i.toInt64 ≤ 8)) ∧ v = some (.long (stV i))) ∨ (u = 1 ∧ ¬ ((0 ≤ s0.toInt64 ∧ s0.toInt64 ≤ 1) ∧ (0 ≤ i.toInt64 ∧ i.toInt64 ≤ 8)))) (fun (u : Int32) => [(h0, .inr (0, mF q u))]) := by
  refine ax_of (by decide) (Nat.le_of_ble_eq_true rfl) ?_
  intro p e s m below meth c A ls hAt hK hP hD hS hA hl
  obtain ⟨hx, hb, hr, hml, hown, hts, hlocks, hin⟩ := hAt
  have hl : lv_has ls 5 [(0, .ref h0), (1, .int s0), (2, .int i)] := hl
  refine lv_iload_n hx hb d_MM_state_0 rfl (lv_at hl 1 rfl) ?_
  refine lv_i2l hx hb d_MM_state_1 rfl ?_
  refine lv_lconst (v := 0) hx hb d_MM_state_2 (by decide) ?_
  refine lv_lconst (v := 1) hx hb d_MM_state_3 (by decide) ?_
  refine ax_St (k := 3) (As := [.long (s0.toInt64), .long 0, .long 1]) (rest := []) (wr := [(h0, .inr (0, mF q th)), ((q 110), .inl (ca 1, 2, .inl (fun _ => 0))), ((q 111), .inl (ca 2, 2, .inr (.inl (fun _ => 0)))), ((q 112), .inl (ca 1, 2, .inl (fun _ => 0))), ((q 113), .inl (ca 2, 2, .inr (.inl (fun _ => 0)))), ((q 114), .inl (ca 2, 2, .inr (.inl (fun _ => 0)))), ((q 122), .inl (ca 1, 2, .inl (fun _ => 0)))]) rfl hx hb hml hown hts g_wm (mK_bl dC dI ca) (c_MM_in l dC dI ca s0.toInt64 0 1) xm_182 xm_183 xm_0 xm_184 (by decide +kernel) rfl (Nat.le_of_ble_eq_true rfl) (Nat.le_of_ble_eq_true rfl) hl.1 (Nat.le_of_ble_eq_true rfl) (mK_up hK) hP hD hS hA [] [0, 1, 2, 3, 4, 5, 6] rfl (by decide) rfl rfl (by decide) (by decide) (Nat.le_of_ble_eq_true rfl) (Nat.le_of_ble_eq_true rfl) d_MM_state_4 (fun v _ H locs hp hP hD hS => ?_)
  rcases hp with ⟨rfl, hc_1⟩ | ⟨rfl, hc_1⟩
  · have h9 := True.intro
    have hP : va_P (dC, dI) classes [(h0, .inr (0, mF q th)), ((q 110), .inl (ca 1, 2, .inl (fun _ => 0))), ((q 111), .inl (ca 2, 2, .inr (.inl (fun _ => 0)))), ((q 112), .inl (ca 1, 2, .inl (fun _ => 0))), ((q 113), .inl (ca 2, 2, .inr (.inl (fun _ => 0)))), ((q 114), .inl (ca 2, 2, .inr (.inl (fun _ => 0)))), ((q 122), .inl (ca 1, 2, .inl (fun _ => 0)))] H := hP
    have hD : va_D A [(h0, .inr (0, mF q th)), ((q 110), .inl (ca 1, 2, .inl (fun _ => 0))), ((q 111), .inl (ca 2, 2, .inr (.inl (fun _ => 0)))), ((q 112), .inl (ca 1, 2, .inl (fun _ => 0))), ((q 113), .inl (ca 2, 2, .inr (.inl (fun _ => 0)))), ((q 114), .inl (ca 2, 2, .inr (.inl (fun _ => 0)))), ((q 122), .inl (ca 1, 2, .inl (fun _ => 0)))] := hD
    refine W.eq (g2 := F0 m 7 ls [.int 1]) rfl ?_
    refine lv_if_eq (tgt := 22) hx hb d_MM_state_7 (by decide) (fun h => absurd h (by decide)) (fun _ => ?_)
    refine lv_iload_n hx hb d_MM_state_10 rfl (lv_at hl 2 rfl) ?_
    refine lv_i2l hx hb d_MM_state_11 rfl ?_
    refine lv_lconst (v := 0) hx hb d_MM_state_12 (by decide) ?_
    refine lv_ldc2 (v := 8) hx hb hown (hts _ xm_181) d_MM_state_13 ?_
    refine ax_St (k := 3) (As := [.long (i.toInt64), .long 0, .long 8]) (rest := []) (wr := [(h0, .inr (0, mF q th)), ((q 110), .inl (ca 1, 2, .inl (fun _ => 0))), ((q 111), .inl (ca 2, 2, .inr (.inl (fun _ => 0)))), ((q 112), .inl (ca 1, 2, .inl (fun _ => 0))), ((q 113), .inl (ca 2, 2, .inr (.inl (fun _ => 0)))), ((q 114), .inl (ca 2, 2, .inr (.inl (fun _ => 0)))), ((q 122), .inl (ca 1, 2, .inl (fun _ => 0)))]) rfl hx hb hml hown hts g_wm (mK_bl dC dI ca) (c_MM_in l dC dI ca i.toInt64 0 8) xm_182 xm_183 xm_0 xm_184 (by decide +kernel) rfl (Nat.le_of_ble_eq_true rfl) (Nat.le_of_ble_eq_true rfl) hl.1 (Nat.le_of_ble_eq_true rfl) (mK_up hK) hP hD hS hA [] [0, 1, 2, 3, 4, 5, 6] rfl (by decide) rfl rfl (by decide) (by decide) (Nat.le_of_ble_eq_true rfl) (Nat.le_of_ble_eq_true rfl) d_MM_state_16 (fun v _ H locs hp hP hD hS => ?_)
    rcases hp with ⟨rfl, hc_2⟩ | ⟨rfl, hc_2⟩
    · have h9 := True.intro
      have hP : va_P (dC, dI) classes [(h0, .inr (0, mF q th)), ((q 110), .inl (ca 1, 2, .inl (fun _ => 0))), ((q 111), .inl (ca 2, 2, .inr (.inl (fun _ => 0)))), ((q 112), .inl (ca 1, 2, .inl (fun _ => 0))), ((q 113), .inl (ca 2, 2, .inr (.inl (fun _ => 0)))), ((q 114), .inl (ca 2, 2, .inr (.inl (fun _ => 0)))), ((q 122), .inl (ca 1, 2, .inl (fun _ => 0)))] H := hP
      have hD : va_D A [(h0, .inr (0, mF q th)), ((q 110), .inl (ca 1, 2, .inl (fun _ => 0))), ((q 111), .inl (ca 2, 2, .inr (.inl (fun _ => 0)))), ((q 112), .inl (ca 1, 2, .inl (fun _ => 0))), ((q 113), .inl (ca 2, 2, .inr (.inl (fun _ => 0)))), ((q 114), .inl (ca 2, 2, .inr (.inl (fun _ => 0)))), ((q 122), .inl (ca 1, 2, .inl (fun _ => 0)))] := hD
      refine W.eq (g2 := F0 m 19 ls [.int 1]) rfl ?_
      refine lv_if_ne (tgt := 29) hx hb d_MM_state_19 (by decide) (fun _ => ?_) (fun h => absurd h (by decide))
      refine lv_aload_n hx hb d_MM_state_29 rfl (lv_at hl 0 rfl) ?_
      refine lv_iconst (v := 0) hx hb d_MM_state_30 (by decide) ?_
      refine va_put (D := (dC, dI)) (ci := 0) (v := .int 0) (ty := .int) (C := R_MM) (T := F_MM) (N := 132) hx hb hts i_MM t_MM t_MM_ok n_MM hown hK.1 hP hD hS 0 rfl rfl 0 (by decide) (hts _ xm_73) (fun _ h9 => h9) rfl (by decide +kernel) rfl rfl (Nat.le_of_ble_eq_true rfl) d_MM_state_31 (fun H locs hP hD hS => ?_)
      have hP : va_P (dC, dI) classes [(h0, .inr (0, mF q 0)), ((q 110), .inl (ca 1, 2, .inl (fun _ => 0))), ((q 111), .inl (ca 2, 2, .inr (.inl (fun _ => 0)))), ((q 112), .inl (ca 1, 2, .inl (fun _ => 0))), ((q 113), .inl (ca 2, 2, .inr (.inl (fun _ => 0)))), ((q 114), .inl (ca 2, 2, .inr (.inl (fun _ => 0)))), ((q 122), .inl (ca 1, 2, .inl (fun _ => 0)))] H := hP
      have hD : va_D A [(h0, .inr (0, mF q 0)), ((q 110), .inl (ca 1, 2, .inl (fun _ => 0))), ((q 111), .inl (ca 2, 2, .inr (.inl (fun _ => 0)))), ((q 112), .inl (ca 1, 2, .inl (fun _ => 0))), ((q 113), .inl (ca 2, 2, .inr (.inl (fun _ => 0)))), ((q 114), .inl (ca 2, 2, .inr (.inl (fun _ => 0)))), ((q 122), .inl (ca 1, 2, .inl (fun _ => 0)))] := hD
      refine lv_bipush (v := 60) hx hb d_MM_state_34 (by decide +kernel) ?_
      refine lv_iload_n hx hb d_MM_state_36 rfl (lv_at hl 1 rfl) ?_
      refine lv_imul hx hb d_MM_state_37 ?_
      refine lv_aload_n hx hb d_MM_state_38 rfl (lv_at hl 0 rfl) ?_
      refine va_get (D := (dC, dI)) (ci := 0) (v := .ref (q 122)) (C := R_MM) (T := F_MM) (N := 132) hx hb hts i_MM hown hK.1 hP 0 rfl rfl 122 (by decide) (hts _ xm_164) (fun _ h9 => h9) rfl d_MM_state_39 ?_
      refine lv_iload_n hx hb d_MM_state_42 rfl (lv_at hl 1 rfl) ?_
      refine va_iald hx hb hK.1 hP 6 1 rfl rfl (vp_in2 hc_1) d_MM_state_43 ?_
      refine W.eq (g2 := F0 m 44 ls [.int 0, .int (60 * s0)]) rfl ?_
      refine lv_iadd hx hb d_MM_state_44 ?_
      refine lv_iconst (v := 1) hx hb d_MM_state_45 (by decide) ?_
      refine lv_isub hx hb d_MM_state_46 ?_
      refine lv_istore_n (lv' := [(3, .int (((60 * s0) + 0) - 1)), (0, .ref h0), (1, .int s0), (2, .int i)]) hx hb d_MM_state_47 rfl hl (by decide) rfl (fun ls hl => ?_)
      refine lv_aload_n hx hb d_MM_state_48 rfl (lv_at hl 1 rfl) ?_
      refine va_get (D := (dC, dI)) (ci := 0) (v := .ref (q 110)) (C := R_MM) (T := F_MM) (N := 132) hx hb hts i_MM hown hK.1 hP 0 rfl rfl 110 (by decide) (hts _ xm_152) (fun _ h9 => h9) rfl d_MM_state_49 ?_
      refine lv_iload_n hx hb d_MM_state_52 rfl (lv_at hl 2 rfl) ?_
      refine va_iald hx hb hK.1 hP 1 1 rfl rfl (vp_in2 hc_1) d_MM_state_53 ?_
      refine W.eq (g2 := F0 m 54 ls [.int 0]) rfl ?_
      refine lv_iconst (v := 1) hx hb d_MM_state_54 (by decide) ?_
      refine lv_icmp_ne (tgt := 62) hx hb d_MM_state_55 (by decide) (fun _ => ?_) (fun h => absurd h (by decide))
      refine lv_iconst (v := 0) hx hb d_MM_state_62 (by decide) ?_
      refine lv_istore (lv' := [(4, .int 0), (3, .int (((60 * s0) + 0) - 1)), (0, .ref h0), (1, .int s0), (2, .int i)]) hx hb d_MM_state_63 hl (by decide) rfl (fun ls hl => ?_)
      refine lv_iload_n hx hb d_MM_state_65 rfl (lv_at hl 4 rfl) ?_
      rcases sw_7 i with rfl | rfl | rfl | rfl | rfl | rfl | rfl | rfl | c_3
      · have h9 := True.intro
        refine lv_tableIn (tgt := 112) hx hb d_MM_state_66 (by decide) (by decide) rfl (by decide) ?_
        refine lv_aload_n hx hb d_MM_state_112 rfl (lv_at hl 2 rfl) ?_
        refine va_get (D := (dC, dI)) (ci := 0) (v := .ref (q 110)) (C := R_MM) (T := F_MM) (N := 132) hx hb hts i_MM hown hK.1 hP 0 rfl rfl 110 (by decide) (hts _ xm_152) (fun _ h9 => h9) rfl d_MM_state_113 ?_
        refine lv_iload_n hx hb d_MM_state_116 rfl (lv_at hl 3 rfl) ?_
        refine va_iald hx hb hK.1 hP 1 1 rfl rfl (vp_in2 hc_1) d_MM_state_117 ?_
        refine W.eq (g2 := F0 m 118 ls [.int 0]) rfl ?_
        refine lv_i2l (v := 0) hx hb d_MM_state_118 (by decide) ?_
        exact ax_lret hx hb hr hlocks hP hD hS 0 (Or.inl ⟨rfl, ⟨hc_1, hc_2⟩, rfl⟩) [0] rfl (by decide) rfl (Nat.le_of_ble_eq_true rfl) (Nat.le_of_ble_eq_true rfl) d_MM_state_119
      · have h9 := True.intro
        refine lv_tableIn (tgt := 120) hx hb d_MM_state_66 (by decide) (by decide) rfl (by decide) ?_
        refine lv_aload_n hx hb d_MM_state_120 rfl (lv_at hl 2 rfl) ?_
        refine va_get (D := (dC, dI)) (ci := 0) (v := .ref (q 111)) (C := R_MM) (T := F_MM) (N := 132) hx hb hts i_MM hown hK.1 hP 0 rfl rfl 111 (by decide) (hts _ xm_153) (fun _ h9 => h9) rfl d_MM_state_121 ?_
        refine lv_iload_n hx hb d_MM_state_124 rfl (lv_at hl 3 rfl) ?_
        refine va_lald hx hb hK.1 hP 2 2 rfl rfl (vp_in2 hc_1) d_MM_state_125 ?_
        refine W.eq (g2 := F0 m 126 ls [.long 0]) rfl ?_
        exact ax_lret hx hb hr hlocks hP hD hS 0 (Or.inl ⟨rfl, ⟨hc_1, hc_2⟩, rfl⟩) [0] rfl (by decide) rfl (Nat.le_of_ble_eq_true rfl) (Nat.le_of_ble_eq_true rfl) d_MM_state_126
      · have h9 := True.intro
        refine lv_tableIn (tgt := 127) hx hb d_MM_state_66 (by decide) (by decide) rfl (by decide) ?_
        refine lv_aload_n hx hb d_MM_state_127 rfl (lv_at hl 2 rfl) ?_
        refine va_get (D := (dC, dI)) (ci := 0) (v := .ref (q 112)) (C := R_MM) (T := F_MM) (N := 132) hx hb hts i_MM hown hK.1 hP 0 rfl rfl 112 (by decide) (hts _ xm_154) (fun _ h9 => h9) rfl d_MM_state_128 ?_
        refine lv_iload_n hx hb d_MM_state_131 rfl (lv_at hl 3 rfl) ?_
        refine va_iald hx hb hK.1 hP 3 1 rfl rfl (vp_in2 hc_1) d_MM_state_132 ?_
        refine W.eq (g2 := F0 m 133 ls [.int 0]) rfl ?_
        refine lv_i2l (v := 0) hx hb d_MM_state_133 (by decide) ?_
        exact ax_lret hx hb hr hlocks hP hD hS 0 (Or.inl ⟨rfl, ⟨hc_1, hc_2⟩, rfl⟩) [0] rfl (by decide) rfl (Nat.le_of_ble_eq_true rfl) (Nat.le_of_ble_eq_true rfl) d_MM_state_134
      · have h9 := True.intro
        refine lv_tableIn (tgt := 135) hx hb d_MM_state_66 (by decide) (by decide) rfl (by decide) ?_
        refine lv_aload_n hx hb d_MM_state_135 rfl (lv_at hl 2 rfl) ?_
        refine va_get (D := (dC, dI)) (ci := 0) (v := .ref (q 113)) (C := R_MM) (T := F_MM) (N := 132) hx hb hts i_MM hown hK.1 hP 0 rfl rfl 113 (by decide) (hts _ xm_155) (fun _ h9 => h9) rfl d_MM_state_136 ?_
        refine lv_iload_n hx hb d_MM_state_139 rfl (lv_at hl 3 rfl) ?_
        refine va_lald hx hb hK.1 hP 4 2 rfl rfl (vp_in2 hc_1) d_MM_state_140 ?_
        refine W.eq (g2 := F0 m 141 ls [.long 0]) rfl ?_
        exact ax_lret hx hb hr hlocks hP hD hS 0 (Or.inl ⟨rfl, ⟨hc_1, hc_2⟩, rfl⟩) [0] rfl (by decide) rfl (Nat.le_of_ble_eq_true rfl) (Nat.le_of_ble_eq_true rfl) d_MM_state_141
      · have h9 := True.intro
        refine lv_tableIn (tgt := 142) hx hb d_MM_state_66 (by decide) (by decide) rfl (by decide) ?_
        refine lv_aload_n hx hb d_MM_state_142 rfl (lv_at hl 2 rfl) ?_
        refine va_get (D := (dC, dI)) (ci := 0) (v := .ref (q 114)) (C := R_MM) (T := F_MM) (N := 132) hx hb hts i_MM hown hK.1 hP 0 rfl rfl 114 (by decide) (hts _ xm_156) (fun _ h9 => h9) rfl d_MM_state_143 ?_
        refine lv_iload_n hx hb d_MM_state_146 rfl (lv_at hl 3 rfl) ?_
        refine va_lald hx hb hK.1 hP 5 2 rfl rfl (vp_in2 hc_1) d_MM_state_147 ?_
        refine W.eq (g2 := F0 m 148 ls [.long 0]) rfl ?_
        exact ax_lret hx hb hr hlocks hP hD hS 0 (Or.inl ⟨rfl, ⟨hc_1, hc_2⟩, rfl⟩) [0] rfl (by decide) rfl (Nat.le_of_ble_eq_true rfl) (Nat.le_of_ble_eq_true rfl) d_MM_state_148
      · have h9 := True.intro
        refine lv_tableIn (tgt := 149) hx hb d_MM_state_66 (by decide) (by decide) rfl (by decide) ?_
        refine lv_iload hx hb d_MM_state_149 (lv_at hl 0 rfl) ?_
        refine lv_if_eq (tgt := 164) hx hb d_MM_state_151 (by decide) (fun _ => ?_) (fun h => absurd (by decide) h)
        refine lv_lconst (v := 0) hx hb d_MM_state_164 (by decide) ?_
        exact ax_lret hx hb hr hlocks hP hD hS 0 (Or.inl ⟨rfl, ⟨hc_1, hc_2⟩, rfl⟩) [0] rfl (by decide) rfl (Nat.le_of_ble_eq_true rfl) (Nat.le_of_ble_eq_true rfl) d_MM_state_165
      · have h9 := True.intro
        refine lv_tableIn (tgt := 166) hx hb d_MM_state_66 (by decide) (by decide) rfl (by decide) ?_
        refine lv_iload hx hb d_MM_state_166 (lv_at hl 0 rfl) ?_
        refine lv_if_eq (tgt := 181) hx hb d_MM_state_168 (by decide) (fun _ => ?_) (fun h => absurd (by decide) h)
        refine lv_ldc2 (v := (-1)) hx hb hown (hts _ xm_263) d_MM_state_181 ?_
        exact ax_lret hx hb hr hlocks hP hD hS 0 (Or.inl ⟨rfl, ⟨hc_1, hc_2⟩, rfl⟩) [0] rfl (by decide) rfl (Nat.le_of_ble_eq_true rfl) (Nat.le_of_ble_eq_true rfl) d_MM_state_184
      · have h9 := True.intro
        refine lv_tableIn (tgt := 185) hx hb d_MM_state_66 (by decide) (by decide) rfl (by decide) ?_
        refine lv_iload hx hb d_MM_state_185 (lv_at hl 0 rfl) ?_
        refine lv_if_eq (tgt := 200) hx hb d_MM_state_187 (by decide) (fun _ => ?_) (fun h => absurd (by decide) h)
        refine lv_ldc2 (v := (-1)) hx hb hown (hts _ xm_263) d_MM_state_200 ?_
        exact ax_lret hx hb hr hlocks hP hD hS 0 (Or.inl ⟨rfl, ⟨hc_1, hc_2⟩, rfl⟩) [0] rfl (by decide) rfl (Nat.le_of_ble_eq_true rfl) (Nat.le_of_ble_eq_true rfl) d_MM_state_203
      · have h9 := True.intro
        refine lv_tableOut (tgt := 204) hx hb d_MM_state_66 c_3 (by decide) ?_
        refine lv_iload hx hb d_MM_state_204 (lv_at hl 0 rfl) ?_
        refine lv_if_eq (tgt := 219) hx hb d_MM_state_206 (by decide) (fun _ => ?_) (fun h => absurd (by decide) h)
        refine lv_ldc2 (v := (-1)) hx hb hown (hts _ xm_263) d_MM_state_219 ?_
        exact ax_lret hx hb hr hlocks hP hD hS 0 (Or.inl ⟨rfl, ⟨hc_1, hc_2⟩, by rw [st8 hc_2 c_3]; rfl⟩) [0] rfl (by decide) rfl (Nat.le_of_ble_eq_true rfl) (Nat.le_of_ble_eq_true rfl) d_MM_state_222
    · have h9 := True.intro
      have hP : va_P (dC, dI) classes [(h0, .inr (0, mF q th)), ((q 110), .inl (ca 1, 2, .inl (fun _ => 0))), ((q 111), .inl (ca 2, 2, .inr (.inl (fun _ => 0)))), ((q 112), .inl (ca 1, 2, .inl (fun _ => 0))), ((q 113), .inl (ca 2, 2, .inr (.inl (fun _ => 0)))), ((q 114), .inl (ca 2, 2, .inr (.inl (fun _ => 0)))), ((q 122), .inl (ca 1, 2, .inl (fun _ => 0)))] H := hP
      have hD : va_D A [(h0, .inr (0, mF q th)), ((q 110), .inl (ca 1, 2, .inl (fun _ => 0))), ((q 111), .inl (ca 2, 2, .inr (.inl (fun _ => 0)))), ((q 112), .inl (ca 1, 2, .inl (fun _ => 0))), ((q 113), .inl (ca 2, 2, .inr (.inl (fun _ => 0)))), ((q 114), .inl (ca 2, 2, .inr (.inl (fun _ => 0)))), ((q 122), .inl (ca 1, 2, .inl (fun _ => 0)))] := hD
      refine W.eq (g2 := F0 m 19 ls [.int 0]) rfl ?_
      refine lv_if_ne (tgt := 29) hx hb d_MM_state_19 (by decide) (fun h => absurd h (by decide)) (fun _ => ?_)
      refine lv_aload_n hx hb d_MM_state_22 rfl (lv_at hl 0 rfl) ?_
      refine lv_iconst (v := 1) hx hb d_MM_state_23 (by decide) ?_
      refine va_put (D := (dC, dI)) (ci := 0) (v := .int 1) (ty := .int) (C := R_MM) (T := F_MM) (N := 132) hx hb hts i_MM t_MM t_MM_ok n_MM hown hK.1 hP hD hS 0 rfl rfl 0 (by decide) (hts _ xm_73) (fun _ h9 => h9) rfl (by decide +kernel) rfl rfl (Nat.le_of_ble_eq_true rfl) d_MM_state_24 (fun H locs hP hD hS => ?_)
      have hP : va_P (dC, dI) classes [(h0, .inr (0, mF q 1)), ((q 110), .inl (ca 1, 2, .inl (fun _ => 0))), ((q 111), .inl (ca 2, 2, .inr (.inl (fun _ => 0)))), ((q 112), .inl (ca 1, 2, .inl (fun _ => 0))), ((q 113), .inl (ca 2, 2, .inr (.inl (fun _ => 0)))), ((q 114), .inl (ca 2, 2, .inr (.inl (fun _ => 0)))), ((q 122), .inl (ca 1, 2, .inl (fun _ => 0)))] H := hP
      have hD : va_D A [(h0, .inr (0, mF q 1)), ((q 110), .inl (ca 1, 2, .inl (fun _ => 0))), ((q 111), .inl (ca 2, 2, .inr (.inl (fun _ => 0)))), ((q 112), .inl (ca 1, 2, .inl (fun _ => 0))), ((q 113), .inl (ca 2, 2, .inr (.inl (fun _ => 0)))), ((q 114), .inl (ca 2, 2, .inr (.inl (fun _ => 0)))), ((q 122), .inl (ca 1, 2, .inl (fun _ => 0)))] := hD
      refine lv_lconst (v := 0) hx hb d_MM_state_27 (by decide) ?_
      exact ax_lret hx hb hr hlocks hP hD hS 1 (Or.inr ⟨rfl, fun h => hc_2 h.2⟩) [0] rfl (by decide) rfl (Nat.le_of_ble_eq_true rfl) (Nat.le_of_ble_eq_true rfl) d_MM_state_28
  · have h9 := True.intro
    have hP : va_P (dC, dI) classes [(h0, .inr (0, mF q th)), ((q 110), .inl (ca 1, 2, .inl (fun _ => 0))), ((q 111), .inl (ca 2, 2, .inr (.inl (fun _ => 0)))), ((q 112), .inl (ca 1, 2, .inl (fun _ => 0))), ((q 113), .inl (ca 2, 2, .inr (.inl (fun _ => 0)))), ((q 114), .inl (ca 2, 2, .inr (.inl (fun _ => 0)))), ((q 122), .inl (ca 1, 2, .inl (fun _ => 0)))] H := hP
    have hD : va_D A [(h0, .inr (0, mF q th)), ((q 110), .inl (ca 1, 2, .inl (fun _ => 0))), ((q 111), .inl (ca 2, 2, .inr (.inl (fun _ => 0)))), ((q 112), .inl (ca 1, 2, .inl (fun _ => 0))), ((q 113), .inl (ca 2, 2, .inr (.inl (fun _ => 0)))), ((q 114), .inl (ca 2, 2, .inr (.inl (fun _ => 0)))), ((q 122), .inl (ca 1, 2, .inl (fun _ => 0)))] := hD
    refine W.eq (g2 := F0 m 7 ls [.int 0]) rfl ?_
    refine lv_if_eq (tgt := 22) hx hb d_MM_state_7 (by decide) (fun _ => ?_) (fun h => absurd (by decide) h)
    refine lv_aload_n hx hb d_MM_state_22 rfl (lv_at hl 0 rfl) ?_
    refine lv_iconst (v := 1) hx hb d_MM_state_23 (by decide) ?_
    refine va_put (D := (dC, dI)) (ci := 0) (v := .int 1) (ty := .int) (C := R_MM) (T := F_MM) (N := 132) hx hb hts i_MM t_MM t_MM_ok n_MM hown hK.1 hP hD hS 0 rfl rfl 0 (by decide) (hts _ xm_73) (fun _ h9 => h9) rfl (by decide +kernel) rfl rfl (Nat.le_of_ble_eq_true rfl) d_MM_state_24 (fun H locs hP hD hS => ?_)
    have hP : va_P (dC, dI) classes [(h0, .inr (0, mF q 1)), ((q 110), .inl (ca 1, 2, .inl (fun _ => 0))), ((q 111), .inl (ca 2, 2, .inr (.inl (fun _ => 0)))), ((q 112), .inl (ca 1, 2, .inl (fun _ => 0))), ((q 113), .inl (ca 2, 2, .inr (.inl (fun _ => 0)))), ((q 114), .inl (ca 2, 2, .inr (.inl (fun _ => 0)))), ((q 122), .inl (ca 1, 2, .inl (fun _ => 0)))] H := hP
    have hD : va_D A [(h0, .inr (0, mF q 1)), ((q 110), .inl (ca 1, 2, .inl (fun _ => 0))), ((q 111), .inl (ca 2, 2, .inr (.inl (fun _ => 0)))), ((q 112), .inl (ca 1, 2, .inl (fun _ => 0))), ((q 113), .inl (ca 2, 2, .inr (.inl (fun _ => 0)))), ((q 114), .inl (ca 2, 2, .inr (.inl (fun _ => 0)))), ((q 122), .inl (ca 1, 2, .inl (fun _ => 0)))] := hD
    refine lv_lconst (v := 0) hx hb d_MM_state_27 (by decide) ?_
    exact ax_lret hx hb hr hlocks hP hD hS 1 (Or.inr ⟨rfl, fun h => hc_1 h.1⟩) [0] rfl (by decide) rfl (Nat.le_of_ble_eq_true rfl) (Nat.le_of_ble_eq_true rfl) d_MM_state_28
theorem d_MM_count_0 : decode b_MM_count 0 = .ok (.aload_n 0, 1) := by decide +kernel
theorem d_MM_count_1 : decode b_MM_count 1 = .ok (.iconst 0, 1) := by decide +kernel
theorem d_MM_count_2 : decode b_MM_count 2 = .ok (.putfield 343, 3) := by decide +kernel
theorem d_MM_count_5 : decode b_MM_count 5 = .ok (.iconst 0, 1) := by decide +kernel
theorem d_MM_count_6 : decode b_MM_count 6 = .ok (.istore_n 2, 1) := by decide +kernel
theorem d_MM_count_7 : decode b_MM_count 7 = .ok (.iconst 0, 1) := by decide +kernel
theorem d_MM_count_8 : decode b_MM_count 8 = .ok (.istore_n 3, 1) := by decide +kernel
theorem d_MM_count_9 : decode b_MM_count 9 = .ok (.iload_n 3, 1) := by decide +kernel
theorem d_MM_count_10 : decode b_MM_count 10 = .ok (.aload_n 0, 1) := by decide +kernel
theorem d_MM_count_11 : decode b_MM_count 11 = .ok (.getfield 410, 3) := by decide +kernel
theorem d_MM_count_14 : decode b_MM_count 14 = .ok (.if_icmp .ge 29, 3) := by decide +kernel
theorem d_MM_count_43 : decode b_MM_count 43 = .ok (.iload_n 1, 1) := by decide +kernel
theorem d_MM_count_44 : decode b_MM_count 44 = .ok (.tableswitch 74 0 5 #[40, 48, 53, 60, 67, 72], 40) := by decide +kernel
theorem d_MM_count_84 : decode b_MM_count 84 = .ok (.aload_n 0, 1) := by decide +kernel
theorem d_MM_count_85 : decode b_MM_count 85 = .ok (.getfield 19, 3) := by decide +kernel
theorem d_MM_count_88 : decode b_MM_count 88 = .ok (.getfield 353, 3) := by decide +kernel
theorem d_MM_count_91 : decode b_MM_count 91 = .ok (.ireturn, 1) := by decide +kernel
theorem d_MM_count_92 : decode b_MM_count 92 = .ok (.aload_n 0, 1) := by decide +kernel
theorem d_MM_count_93 : decode b_MM_count 93 = .ok (.getfield 410, 3) := by decide +kernel
theorem d_MM_count_96 : decode b_MM_count 96 = .ok (.ireturn, 1) := by decide +kernel
theorem d_MM_count_97 : decode b_MM_count 97 = .ok (.aload_n 0, 1) := by decide +kernel
theorem d_MM_count_98 : decode b_MM_count 98 = .ok (.getfield 302, 3) := by decide +kernel
theorem d_MM_count_101 : decode b_MM_count 101 = .ok (.iconst 0, 1) := by decide +kernel
theorem d_MM_count_102 : decode b_MM_count 102 = .ok (.iaload, 1) := by decide +kernel
theorem d_MM_count_103 : decode b_MM_count 103 = .ok (.ireturn, 1) := by decide +kernel
theorem d_MM_count_104 : decode b_MM_count 104 = .ok (.aload_n 0, 1) := by decide +kernel
theorem d_MM_count_105 : decode b_MM_count 105 = .ok (.getfield 302, 3) := by decide +kernel
theorem d_MM_count_108 : decode b_MM_count 108 = .ok (.iconst 1, 1) := by decide +kernel
theorem d_MM_count_109 : decode b_MM_count 109 = .ok (.iaload, 1) := by decide +kernel
theorem d_MM_count_110 : decode b_MM_count 110 = .ok (.ireturn, 1) := by decide +kernel
theorem d_MM_count_111 : decode b_MM_count 111 = .ok (.aload_n 0, 1) := by decide +kernel
theorem d_MM_count_112 : decode b_MM_count 112 = .ok (.getfield 1488, 3) := by decide +kernel
theorem d_MM_count_115 : decode b_MM_count 115 = .ok (.ireturn, 1) := by decide +kernel
theorem d_MM_count_116 : decode b_MM_count 116 = .ok (.iload_n 2, 1) := by decide +kernel
theorem d_MM_count_117 : decode b_MM_count 117 = .ok (.ireturn, 1) := by decide +kernel
theorem d_MM_count_118 : decode b_MM_count 118 = .ok (.iconst (-1), 1) := by decide +kernel
theorem d_MM_count_119 : decode b_MM_count 119 = .ok (.ireturn, 1) := by decide +kernel
set_option maxHeartbeats 4000000 in
set_option maxRecDepth 100000 in
theorem c_MM_count (l : Launch) (dC : Nat → ClassId) (dI : Nat → Nat → Nat) (ca : Nat → ClassId) (h0 : Nat) (q : Nat → Nat) (th : Int32) (qa : Nat) (i : Int32) : CT l classes (dC, dI) (mK dC dI ca) wm y_MM_count b_MM_count 4 (some (.int)) 0 0 0 0 [.ref h0, .int i] [(h0, .inr (0, mF q th)), ((q 2), .inr (2, [.ref qa, .int 0])), ((q 117), .inl (ca 1, 2, .inl (fun _ => 0)))] (fun (v : Option Value) (_ : Unit) => v = some (.int (cnV i))) (fun (_ : Unit) => [(h0, .inr (0, mF q 0))]) := by
  refine ax_of (by decide) (Nat.le_of_ble_eq_true rfl) ?_
  intro p e s m below meth c A ls hAt hK hP hD hS hA hl
  obtain ⟨hx, hb, hr, hml, hown, hts, hlocks, hin⟩ := hAt
  have hl : lv_has ls 4 [(0, .ref h0), (1, .int i)] := hl
  refine lv_aload_n hx hb d_MM_count_0 rfl (lv_at hl 0 rfl) ?_
  refine lv_iconst (v := 0) hx hb d_MM_count_1 (by decide) ?_
  refine va_put (D := (dC, dI)) (ci := 0) (v := .int 0) (ty := .int) (C := R_MM) (T := F_MM) (N := 132) hx hb hts i_MM t_MM t_MM_ok n_MM hown hK.1 hP hD hS 0 rfl rfl 0 (by decide) (hts _ xm_73) (fun _ h9 => h9) rfl (by decide +kernel) rfl rfl (Nat.le_of_ble_eq_true rfl) d_MM_count_2 (fun H locs hP hD hS => ?_)
  have hP : va_P (dC, dI) classes [(h0, .inr (0, mF q 0)), ((q 2), .inr (2, [.ref qa, .int 0])), ((q 117), .inl (ca 1, 2, .inl (fun _ => 0)))] H := hP
  have hD : va_D A [(h0, .inr (0, mF q 0)), ((q 2), .inr (2, [.ref qa, .int 0])), ((q 117), .inl (ca 1, 2, .inl (fun _ => 0)))] := hD
  refine lv_iconst (v := 0) hx hb d_MM_count_5 (by decide) ?_
  refine lv_istore_n (lv' := [(2, .int 0), (0, .ref h0), (1, .int i)]) hx hb d_MM_count_6 rfl hl (by decide) rfl (fun ls hl => ?_)
  refine lv_iconst (v := 0) hx hb d_MM_count_7 (by decide) ?_
  refine lv_istore_n (lv' := [(3, .int 0), (2, .int 0), (0, .ref h0), (1, .int i)]) hx hb d_MM_count_8 rfl hl (by decide) rfl (fun ls hl => ?_)
  refine lv_iload_n hx hb d_MM_count_9 rfl (lv_at hl 0 rfl) ?_
  refine lv_aload_n hx hb d_MM_count_10 rfl (lv_at hl 2 rfl) ?_
  refine va_get (D := (dC, dI)) (ci := 0) (v := .int 0) (C := R_MM) (T := F_MM) (N := 132) hx hb hts i_MM hown hK.1 hP 0 rfl rfl 8 (by decide) (hts _ xm_81) (fun _ h9 => h9) rfl d_MM_count_11 ?_
  refine lv_icmp_ge (tgt := 43) hx hb d_MM_count_14 (by decide) (fun _ => ?_) (fun h => absurd (by decide) h)
  refine lv_iload_n hx hb d_MM_count_43 rfl (lv_at hl 3 rfl) ?_
  rcases sw_5 i with rfl | rfl | rfl | rfl | rfl | rfl | c_1
  · have h9 := True.intro
    refine lv_tableIn (tgt := 84) hx hb d_MM_count_44 (by decide) (by decide) rfl (by decide) ?_
    refine lv_aload_n hx hb d_MM_count_84 rfl (lv_at hl 2 rfl) ?_
    refine va_get (D := (dC, dI)) (ci := 0) (v := .ref (q 2)) (C := R_MM) (T := F_MM) (N := 132) hx hb hts i_MM hown hK.1 hP 0 rfl rfl 2 (by decide) (hts _ xm_75) (fun _ h9 => h9) rfl d_MM_count_85 ?_
    refine va_getN (D := (dC, dI)) (ci := 2) (v := .int 0) (C := R_MB) (T := F_MB) (N := 2) hx hb hts i_MB hown hK.1 hP 1 rfl rfl 1 (by decide) (va_Nw.use rfl (hK.2.1 _ zm_6)) (fun _ h9 => h9) rfl d_MM_count_88 ?_
    exact ax_iret hx hb hr hlocks hP hD hS () rfl [0] rfl (by decide) rfl (Nat.le_of_ble_eq_true rfl) (Nat.le_of_ble_eq_true rfl) d_MM_count_91
  · have h9 := True.intro
    refine lv_tableIn (tgt := 92) hx hb d_MM_count_44 (by decide) (by decide) rfl (by decide) ?_
    refine lv_aload_n hx hb d_MM_count_92 rfl (lv_at hl 2 rfl) ?_
    refine va_get (D := (dC, dI)) (ci := 0) (v := .int 0) (C := R_MM) (T := F_MM) (N := 132) hx hb hts i_MM hown hK.1 hP 0 rfl rfl 8 (by decide) (hts _ xm_81) (fun _ h9 => h9) rfl d_MM_count_93 ?_
    exact ax_iret hx hb hr hlocks hP hD hS () rfl [0] rfl (by decide) rfl (Nat.le_of_ble_eq_true rfl) (Nat.le_of_ble_eq_true rfl) d_MM_count_96
  · have h9 := True.intro
    refine lv_tableIn (tgt := 97) hx hb d_MM_count_44 (by decide) (by decide) rfl (by decide) ?_
    refine lv_aload_n hx hb d_MM_count_97 rfl (lv_at hl 2 rfl) ?_
    refine va_get (D := (dC, dI)) (ci := 0) (v := .ref (q 117)) (C := R_MM) (T := F_MM) (N := 132) hx hb hts i_MM hown hK.1 hP 0 rfl rfl 117 (by decide) (hts _ xm_159) (fun _ h9 => h9) rfl d_MM_count_98 ?_
    refine lv_iconst (v := 0) hx hb d_MM_count_101 (by decide) ?_
    refine va_iald hx hb hK.1 hP 2 1 rfl rfl (by unfold vp_in; decide) d_MM_count_102 ?_
    refine W.eq (g2 := F0 m 103 ls [.int 0]) rfl ?_
    exact ax_iret hx hb hr hlocks hP hD hS () rfl [0] rfl (by decide) rfl (Nat.le_of_ble_eq_true rfl) (Nat.le_of_ble_eq_true rfl) d_MM_count_103
  · have h9 := True.intro
    refine lv_tableIn (tgt := 104) hx hb d_MM_count_44 (by decide) (by decide) rfl (by decide) ?_
    refine lv_aload_n hx hb d_MM_count_104 rfl (lv_at hl 2 rfl) ?_
    refine va_get (D := (dC, dI)) (ci := 0) (v := .ref (q 117)) (C := R_MM) (T := F_MM) (N := 132) hx hb hts i_MM hown hK.1 hP 0 rfl rfl 117 (by decide) (hts _ xm_159) (fun _ h9 => h9) rfl d_MM_count_105 ?_
    refine lv_iconst (v := 1) hx hb d_MM_count_108 (by decide) ?_
    refine va_iald hx hb hK.1 hP 2 1 rfl rfl (by unfold vp_in; decide) d_MM_count_109 ?_
    refine W.eq (g2 := F0 m 110 ls [.int 0]) rfl ?_
    exact ax_iret hx hb hr hlocks hP hD hS () rfl [0] rfl (by decide) rfl (Nat.le_of_ble_eq_true rfl) (Nat.le_of_ble_eq_true rfl) d_MM_count_110
  · have h9 := True.intro
    refine lv_tableIn (tgt := 111) hx hb d_MM_count_44 (by decide) (by decide) rfl (by decide) ?_
    refine lv_aload_n hx hb d_MM_count_111 rfl (lv_at hl 2 rfl) ?_
    refine va_get (D := (dC, dI)) (ci := 0) (v := .int 0) (C := R_MM) (T := F_MM) (N := 132) hx hb hts i_MM hown hK.1 hP 0 rfl rfl 115 (by decide) (hts _ xm_157) (fun _ h9 => h9) rfl d_MM_count_112 ?_
    exact ax_iret hx hb hr hlocks hP hD hS () rfl [0] rfl (by decide) rfl (Nat.le_of_ble_eq_true rfl) (Nat.le_of_ble_eq_true rfl) d_MM_count_115
  · have h9 := True.intro
    refine lv_tableIn (tgt := 116) hx hb d_MM_count_44 (by decide) (by decide) rfl (by decide) ?_
    refine lv_iload_n hx hb d_MM_count_116 rfl (lv_at hl 1 rfl) ?_
    exact ax_iret hx hb hr hlocks hP hD hS () rfl [0] rfl (by decide) rfl (Nat.le_of_ble_eq_true rfl) (Nat.le_of_ble_eq_true rfl) d_MM_count_117
  · have h9 := True.intro
    refine lv_tableOut (tgt := 118) hx hb d_MM_count_44 c_1 (by decide) ?_
    refine lv_iconst (v := (-1)) hx hb d_MM_count_118 (by decide) ?_
    exact ax_iret hx hb hr hlocks hP hD hS () (by rw [cn_out c_1]) [0] rfl (by decide) rfl (Nat.le_of_ble_eq_true rfl) (Nat.le_of_ble_eq_true rfl) d_MM_count_119
theorem d_MM_settles_0 : decode b_MM_settles 0 = .ok (.iconst 0, 1) := by decide +kernel
theorem d_MM_settles_1 : decode b_MM_settles 1 = .ok (.istore_n 1, 1) := by decide +kernel
theorem d_MM_settles_2 : decode b_MM_settles 2 = .ok (.iload_n 1, 1) := by decide +kernel
theorem d_MM_settles_3 : decode b_MM_settles 3 = .ok (.iconst 2, 1) := by decide +kernel
theorem d_MM_settles_4 : decode b_MM_settles 4 = .ok (.if_icmp .ge 143, 3) := by decide +kernel
theorem d_MM_settles_7 : decode b_MM_settles 7 = .ok (.aload_n 0, 1) := by decide +kernel
theorem d_MM_settles_8 : decode b_MM_settles 8 = .ok (.getfield 283, 3) := by decide +kernel
theorem d_MM_settles_11 : decode b_MM_settles 11 = .ok (.iload_n 1, 1) := by decide +kernel
theorem d_MM_settles_12 : decode b_MM_settles 12 = .ok (.iconst 0, 1) := by decide +kernel
theorem d_MM_settles_13 : decode b_MM_settles 13 = .ok (.iastore, 1) := by decide +kernel
theorem d_MM_settles_14 : decode b_MM_settles 14 = .ok (.aload_n 0, 1) := by decide +kernel
theorem d_MM_settles_15 : decode b_MM_settles 15 = .ok (.getfield 286, 3) := by decide +kernel
theorem d_MM_settles_18 : decode b_MM_settles 18 = .ok (.iload_n 1, 1) := by decide +kernel
theorem d_MM_settles_19 : decode b_MM_settles 19 = .ok (.lconst 0, 1) := by decide +kernel
theorem d_MM_settles_20 : decode b_MM_settles 20 = .ok (.lastore, 1) := by decide +kernel
theorem d_MM_settles_21 : decode b_MM_settles 21 = .ok (.aload_n 0, 1) := by decide +kernel
theorem d_MM_settles_22 : decode b_MM_settles 22 = .ok (.getfield 290, 3) := by decide +kernel
theorem d_MM_settles_25 : decode b_MM_settles 25 = .ok (.iload_n 1, 1) := by decide +kernel
theorem d_MM_settles_26 : decode b_MM_settles 26 = .ok (.iconst 0, 1) := by decide +kernel
theorem d_MM_settles_27 : decode b_MM_settles 27 = .ok (.iastore, 1) := by decide +kernel
theorem d_MM_settles_28 : decode b_MM_settles 28 = .ok (.aload_n 0, 1) := by decide +kernel
theorem d_MM_settles_29 : decode b_MM_settles 29 = .ok (.getfield 293, 3) := by decide +kernel
theorem d_MM_settles_32 : decode b_MM_settles 32 = .ok (.iload_n 1, 1) := by decide +kernel
theorem d_MM_settles_33 : decode b_MM_settles 33 = .ok (.lconst 0, 1) := by decide +kernel
theorem d_MM_settles_34 : decode b_MM_settles 34 = .ok (.lastore, 1) := by decide +kernel
theorem d_MM_settles_35 : decode b_MM_settles 35 = .ok (.aload_n 0, 1) := by decide +kernel
theorem d_MM_settles_36 : decode b_MM_settles 36 = .ok (.getfield 296, 3) := by decide +kernel
theorem d_MM_settles_39 : decode b_MM_settles 39 = .ok (.iload_n 1, 1) := by decide +kernel
theorem d_MM_settles_40 : decode b_MM_settles 40 = .ok (.lconst 0, 1) := by decide +kernel
theorem d_MM_settles_41 : decode b_MM_settles 41 = .ok (.lastore, 1) := by decide +kernel
theorem d_MM_settles_42 : decode b_MM_settles 42 = .ok (.aload_n 0, 1) := by decide +kernel
theorem d_MM_settles_43 : decode b_MM_settles 43 = .ok (.getfield 302, 3) := by decide +kernel
theorem d_MM_settles_46 : decode b_MM_settles 46 = .ok (.iload_n 1, 1) := by decide +kernel
theorem d_MM_settles_47 : decode b_MM_settles 47 = .ok (.iconst 0, 1) := by decide +kernel
theorem d_MM_settles_48 : decode b_MM_settles 48 = .ok (.iastore, 1) := by decide +kernel
theorem d_MM_settles_49 : decode b_MM_settles 49 = .ok (.aload_n 0, 1) := by decide +kernel
theorem d_MM_settles_50 : decode b_MM_settles 50 = .ok (.getfield 305, 3) := by decide +kernel
theorem d_MM_settles_53 : decode b_MM_settles 53 = .ok (.iload_n 1, 1) := by decide +kernel
theorem d_MM_settles_54 : decode b_MM_settles 54 = .ok (.iconst 0, 1) := by decide +kernel
theorem d_MM_settles_55 : decode b_MM_settles 55 = .ok (.iastore, 1) := by decide +kernel
theorem d_MM_settles_56 : decode b_MM_settles 56 = .ok (.aload_n 0, 1) := by decide +kernel
theorem d_MM_settles_57 : decode b_MM_settles 57 = .ok (.getfield 318, 3) := by decide +kernel
theorem d_MM_settles_60 : decode b_MM_settles 60 = .ok (.iload_n 1, 1) := by decide +kernel
theorem d_MM_settles_61 : decode b_MM_settles 61 = .ok (.iconst 0, 1) := by decide +kernel
theorem d_MM_settles_62 : decode b_MM_settles 62 = .ok (.iastore, 1) := by decide +kernel
theorem d_MM_settles_63 : decode b_MM_settles 63 = .ok (.iconst 0, 1) := by decide +kernel
theorem d_MM_settles_64 : decode b_MM_settles 64 = .ok (.istore_n 2, 1) := by decide +kernel
theorem d_MM_settles_65 : decode b_MM_settles 65 = .ok (.iload_n 2, 1) := by decide +kernel
theorem d_MM_settles_66 : decode b_MM_settles 66 = .ok (.aload_n 0, 1) := by decide +kernel
theorem d_MM_settles_67 : decode b_MM_settles 67 = .ok (.getfield 410, 3) := by decide +kernel
theorem d_MM_settles_70 : decode b_MM_settles 70 = .ok (.if_icmp .ge 71, 3) := by decide +kernel
theorem d_MM_settles_141 : decode b_MM_settles 141 = .ok (.iinc 1 1, 3) := by decide +kernel
theorem d_MM_settles_144 : decode b_MM_settles 144 = .ok (.goto (-142), 3) := by decide +kernel
theorem d_MM_settles_147 : decode b_MM_settles 147 = .ok (.return_, 1) := by decide +kernel
set_option maxHeartbeats 4000000 in
set_option maxRecDepth 100000 in
theorem c_MM_settles (l : Launch) (dC : Nat → ClassId) (dI : Nat → Nat → Nat) (ca : Nat → ClassId) (h0 : Nat) (q : Nat → Nat) (th : Int32) : CT l classes (dC, dI) (mK dC dI ca) wm y_MM_settles b_MM_settles 4 none 0 0 0 0 [.ref h0] [(h0, .inr (0, mF q th)), ((q 110), .inl (ca 1, 2, .inl (fun _ => 0))), ((q 111), .inl (ca 2, 2, .inr (.inl (fun _ => 0)))), ((q 112), .inl (ca 1, 2, .inl (fun _ => 0))), ((q 113), .inl (ca 2, 2, .inr (.inl (fun _ => 0)))), ((q 114), .inl (ca 2, 2, .inr (.inl (fun _ => 0)))), ((q 117), .inl (ca 1, 2, .inl (fun _ => 0))), ((q 118), .inl (ca 1, 2, .inl (fun _ => 0))), ((q 122), .inl (ca 1, 2, .inl (fun _ => 0)))] (fun (v : Option Value) (_ : Unit) => v = none) (fun (_ : Unit) => [(h0, .inr (0, mF q th))]) := by
  refine ax_of (by decide) (Nat.le_of_ble_eq_true rfl) ?_
  intro p e s m below meth c A ls hAt hK hP hD hS hA hl
  obtain ⟨hx, hb, hr, hml, hown, hts, hlocks, hin⟩ := hAt
  have hl : lv_has ls 4 [(0, .ref h0)] := hl
  refine lv_iconst (v := 0) hx hb d_MM_settles_0 (by decide) ?_
  refine lv_istore_n (lv' := [(1, .int 0), (0, .ref h0)]) hx hb d_MM_settles_1 rfl hl (by decide) rfl (fun ls hl => ?_)
  refine lv_iload_n hx hb d_MM_settles_2 rfl (lv_at hl 0 rfl) ?_
  refine lv_iconst (v := 2) hx hb d_MM_settles_3 (by decide) ?_
  refine lv_icmp_ge (tgt := 147) hx hb d_MM_settles_4 (by decide) (fun h => absurd h (by decide)) (fun _ => ?_)
  refine lv_aload_n hx hb d_MM_settles_7 rfl (lv_at hl 1 rfl) ?_
  refine va_get (D := (dC, dI)) (ci := 0) (v := .ref (q 110)) (C := R_MM) (T := F_MM) (N := 132) hx hb hts i_MM hown hK.1 hP 0 rfl rfl 110 (by decide) (hts _ xm_152) (fun _ h9 => h9) rfl d_MM_settles_8 ?_
  refine lv_iload_n hx hb d_MM_settles_11 rfl (lv_at hl 0 rfl) ?_
  refine lv_iconst (v := 0) hx hb d_MM_settles_12 (by decide) ?_
  refine va_iast hx hb hK.1 hP hD hS 1 1 rfl rfl (by unfold vp_in; decide) d_MM_settles_13 (fun H locs hP hD hS => ?_)
  have hP : va_P (dC, dI) classes [(h0, .inr (0, mF q th)), ((q 110), .inl (ca 1, 2, .inl (upd (fun _ => 0) 0 0))), ((q 111), .inl (ca 2, 2, .inr (.inl (fun _ => 0)))), ((q 112), .inl (ca 1, 2, .inl (fun _ => 0))), ((q 113), .inl (ca 2, 2, .inr (.inl (fun _ => 0)))), ((q 114), .inl (ca 2, 2, .inr (.inl (fun _ => 0)))), ((q 117), .inl (ca 1, 2, .inl (fun _ => 0))), ((q 118), .inl (ca 1, 2, .inl (fun _ => 0))), ((q 122), .inl (ca 1, 2, .inl (fun _ => 0)))] H := hP
  have hD : va_D A [(h0, .inr (0, mF q th)), ((q 110), .inl (ca 1, 2, .inl (upd (fun _ => 0) 0 0))), ((q 111), .inl (ca 2, 2, .inr (.inl (fun _ => 0)))), ((q 112), .inl (ca 1, 2, .inl (fun _ => 0))), ((q 113), .inl (ca 2, 2, .inr (.inl (fun _ => 0)))), ((q 114), .inl (ca 2, 2, .inr (.inl (fun _ => 0)))), ((q 117), .inl (ca 1, 2, .inl (fun _ => 0))), ((q 118), .inl (ca 1, 2, .inl (fun _ => 0))), ((q 122), .inl (ca 1, 2, .inl (fun _ => 0)))] := hD
  refine lv_aload_n hx hb d_MM_settles_14 rfl (lv_at hl 1 rfl) ?_
  refine va_get (D := (dC, dI)) (ci := 0) (v := .ref (q 111)) (C := R_MM) (T := F_MM) (N := 132) hx hb hts i_MM hown hK.1 hP 0 rfl rfl 111 (by decide) (hts _ xm_153) (fun _ h9 => h9) rfl d_MM_settles_15 ?_
  refine lv_iload_n hx hb d_MM_settles_18 rfl (lv_at hl 0 rfl) ?_
  refine lv_lconst (v := 0) hx hb d_MM_settles_19 (by decide) ?_
  refine va_last hx hb hK.1 hP hD hS 2 2 rfl rfl (by unfold vp_in; decide) d_MM_settles_20 (fun H locs hP hD hS => ?_)
  have hP : va_P (dC, dI) classes [(h0, .inr (0, mF q th)), ((q 110), .inl (ca 1, 2, .inl (upd (fun _ => 0) 0 0))), ((q 111), .inl (ca 2, 2, .inr (.inl (vp_updL (fun _ => 0) 0 0)))), ((q 112), .inl (ca 1, 2, .inl (fun _ => 0))), ((q 113), .inl (ca 2, 2, .inr (.inl (fun _ => 0)))), ((q 114), .inl (ca 2, 2, .inr (.inl (fun _ => 0)))), ((q 117), .inl (ca 1, 2, .inl (fun _ => 0))), ((q 118), .inl (ca 1, 2, .inl (fun _ => 0))), ((q 122), .inl (ca 1, 2, .inl (fun _ => 0)))] H := hP
  have hD : va_D A [(h0, .inr (0, mF q th)), ((q 110), .inl (ca 1, 2, .inl (upd (fun _ => 0) 0 0))), ((q 111), .inl (ca 2, 2, .inr (.inl (vp_updL (fun _ => 0) 0 0)))), ((q 112), .inl (ca 1, 2, .inl (fun _ => 0))), ((q 113), .inl (ca 2, 2, .inr (.inl (fun _ => 0)))), ((q 114), .inl (ca 2, 2, .inr (.inl (fun _ => 0)))), ((q 117), .inl (ca 1, 2, .inl (fun _ => 0))), ((q 118), .inl (ca 1, 2, .inl (fun _ => 0))), ((q 122), .inl (ca 1, 2, .inl (fun _ => 0)))] := hD
  refine lv_aload_n hx hb d_MM_settles_21 rfl (lv_at hl 1 rfl) ?_
  refine va_get (D := (dC, dI)) (ci := 0) (v := .ref (q 112)) (C := R_MM) (T := F_MM) (N := 132) hx hb hts i_MM hown hK.1 hP 0 rfl rfl 112 (by decide) (hts _ xm_154) (fun _ h9 => h9) rfl d_MM_settles_22 ?_
  refine lv_iload_n hx hb d_MM_settles_25 rfl (lv_at hl 0 rfl) ?_
  refine lv_iconst (v := 0) hx hb d_MM_settles_26 (by decide) ?_
  refine va_iast hx hb hK.1 hP hD hS 3 1 rfl rfl (by unfold vp_in; decide) d_MM_settles_27 (fun H locs hP hD hS => ?_)
  have hP : va_P (dC, dI) classes [(h0, .inr (0, mF q th)), ((q 110), .inl (ca 1, 2, .inl (upd (fun _ => 0) 0 0))), ((q 111), .inl (ca 2, 2, .inr (.inl (vp_updL (fun _ => 0) 0 0)))), ((q 112), .inl (ca 1, 2, .inl (upd (fun _ => 0) 0 0))), ((q 113), .inl (ca 2, 2, .inr (.inl (fun _ => 0)))), ((q 114), .inl (ca 2, 2, .inr (.inl (fun _ => 0)))), ((q 117), .inl (ca 1, 2, .inl (fun _ => 0))), ((q 118), .inl (ca 1, 2, .inl (fun _ => 0))), ((q 122), .inl (ca 1, 2, .inl (fun _ => 0)))] H := hP
  have hD : va_D A [(h0, .inr (0, mF q th)), ((q 110), .inl (ca 1, 2, .inl (upd (fun _ => 0) 0 0))), ((q 111), .inl (ca 2, 2, .inr (.inl (vp_updL (fun _ => 0) 0 0)))), ((q 112), .inl (ca 1, 2, .inl (upd (fun _ => 0) 0 0))), ((q 113), .inl (ca 2, 2, .inr (.inl (fun _ => 0)))), ((q 114), .inl (ca 2, 2, .inr (.inl (fun _ => 0)))), ((q 117), .inl (ca 1, 2, .inl (fun _ => 0))), ((q 118), .inl (ca 1, 2, .inl (fun _ => 0))), ((q 122), .inl (ca 1, 2, .inl (fun _ => 0)))] := hD
  refine lv_aload_n hx hb d_MM_settles_28 rfl (lv_at hl 1 rfl) ?_
  refine va_get (D := (dC, dI)) (ci := 0) (v := .ref (q 113)) (C := R_MM) (T := F_MM) (N := 132) hx hb hts i_MM hown hK.1 hP 0 rfl rfl 113 (by decide) (hts _ xm_155) (fun _ h9 => h9) rfl d_MM_settles_29 ?_
  refine lv_iload_n hx hb d_MM_settles_32 rfl (lv_at hl 0 rfl) ?_
  refine lv_lconst (v := 0) hx hb d_MM_settles_33 (by decide) ?_
  refine va_last hx hb hK.1 hP hD hS 4 2 rfl rfl (by unfold vp_in; decide) d_MM_settles_34 (fun H locs hP hD hS => ?_)
  have hP : va_P (dC, dI) classes [(h0, .inr (0, mF q th)), ((q 110), .inl (ca 1, 2, .inl (upd (fun _ => 0) 0 0))), ((q 111), .inl (ca 2, 2, .inr (.inl (vp_updL (fun _ => 0) 0 0)))), ((q 112), .inl (ca 1, 2, .inl (upd (fun _ => 0) 0 0))), ((q 113), .inl (ca 2, 2, .inr (.inl (vp_updL (fun _ => 0) 0 0)))), ((q 114), .inl (ca 2, 2, .inr (.inl (fun _ => 0)))), ((q 117), .inl (ca 1, 2, .inl (fun _ => 0))), ((q 118), .inl (ca 1, 2, .inl (fun _ => 0))), ((q 122), .inl (ca 1, 2, .inl (fun _ => 0)))] H := hP
  have hD : va_D A [(h0, .inr (0, mF q th)), ((q 110), .inl (ca 1, 2, .inl (upd (fun _ => 0) 0 0))), ((q 111), .inl (ca 2, 2, .inr (.inl (vp_updL (fun _ => 0) 0 0)))), ((q 112), .inl (ca 1, 2, .inl (upd (fun _ => 0) 0 0))), ((q 113), .inl (ca 2, 2, .inr (.inl (vp_updL (fun _ => 0) 0 0)))), ((q 114), .inl (ca 2, 2, .inr (.inl (fun _ => 0)))), ((q 117), .inl (ca 1, 2, .inl (fun _ => 0))), ((q 118), .inl (ca 1, 2, .inl (fun _ => 0))), ((q 122), .inl (ca 1, 2, .inl (fun _ => 0)))] := hD
  refine lv_aload_n hx hb d_MM_settles_35 rfl (lv_at hl 1 rfl) ?_
  refine va_get (D := (dC, dI)) (ci := 0) (v := .ref (q 114)) (C := R_MM) (T := F_MM) (N := 132) hx hb hts i_MM hown hK.1 hP 0 rfl rfl 114 (by decide) (hts _ xm_156) (fun _ h9 => h9) rfl d_MM_settles_36 ?_
  refine lv_iload_n hx hb d_MM_settles_39 rfl (lv_at hl 0 rfl) ?_
  refine lv_lconst (v := 0) hx hb d_MM_settles_40 (by decide) ?_
  refine va_last hx hb hK.1 hP hD hS 5 2 rfl rfl (by unfold vp_in; decide) d_MM_settles_41 (fun H locs hP hD hS => ?_)
  have hP : va_P (dC, dI) classes [(h0, .inr (0, mF q th)), ((q 110), .inl (ca 1, 2, .inl (upd (fun _ => 0) 0 0))), ((q 111), .inl (ca 2, 2, .inr (.inl (vp_updL (fun _ => 0) 0 0)))), ((q 112), .inl (ca 1, 2, .inl (upd (fun _ => 0) 0 0))), ((q 113), .inl (ca 2, 2, .inr (.inl (vp_updL (fun _ => 0) 0 0)))), ((q 114), .inl (ca 2, 2, .inr (.inl (vp_updL (fun _ => 0) 0 0)))), ((q 117), .inl (ca 1, 2, .inl (fun _ => 0))), ((q 118), .inl (ca 1, 2, .inl (fun _ => 0))), ((q 122), .inl (ca 1, 2, .inl (fun _ => 0)))] H := hP
  have hD : va_D A [(h0, .inr (0, mF q th)), ((q 110), .inl (ca 1, 2, .inl (upd (fun _ => 0) 0 0))), ((q 111), .inl (ca 2, 2, .inr (.inl (vp_updL (fun _ => 0) 0 0)))), ((q 112), .inl (ca 1, 2, .inl (upd (fun _ => 0) 0 0))), ((q 113), .inl (ca 2, 2, .inr (.inl (vp_updL (fun _ => 0) 0 0)))), ((q 114), .inl (ca 2, 2, .inr (.inl (vp_updL (fun _ => 0) 0 0)))), ((q 117), .inl (ca 1, 2, .inl (fun _ => 0))), ((q 118), .inl (ca 1, 2, .inl (fun _ => 0))), ((q 122), .inl (ca 1, 2, .inl (fun _ => 0)))] := hD
  refine lv_aload_n hx hb d_MM_settles_42 rfl (lv_at hl 1 rfl) ?_
  refine va_get (D := (dC, dI)) (ci := 0) (v := .ref (q 117)) (C := R_MM) (T := F_MM) (N := 132) hx hb hts i_MM hown hK.1 hP 0 rfl rfl 117 (by decide) (hts _ xm_159) (fun _ h9 => h9) rfl d_MM_settles_43 ?_
  refine lv_iload_n hx hb d_MM_settles_46 rfl (lv_at hl 0 rfl) ?_
  refine lv_iconst (v := 0) hx hb d_MM_settles_47 (by decide) ?_
  refine va_iast hx hb hK.1 hP hD hS 6 1 rfl rfl (by unfold vp_in; decide) d_MM_settles_48 (fun H locs hP hD hS => ?_)
  have hP : va_P (dC, dI) classes [(h0, .inr (0, mF q th)), ((q 110), .inl (ca 1, 2, .inl (upd (fun _ => 0) 0 0))), ((q 111), .inl (ca 2, 2, .inr (.inl (vp_updL (fun _ => 0) 0 0)))), ((q 112), .inl (ca 1, 2, .inl (upd (fun _ => 0) 0 0))), ((q 113), .inl (ca 2, 2, .inr (.inl (vp_updL (fun _ => 0) 0 0)))), ((q 114), .inl (ca 2, 2, .inr (.inl (vp_updL (fun _ => 0) 0 0)))), ((q 117), .inl (ca 1, 2, .inl (upd (fun _ => 0) 0 0))), ((q 118), .inl (ca 1, 2, .inl (fun _ => 0))), ((q 122), .inl (ca 1, 2, .inl (fun _ => 0)))] H := hP
  have hD : va_D A [(h0, .inr (0, mF q th)), ((q 110), .inl (ca 1, 2, .inl (upd (fun _ => 0) 0 0))), ((q 111), .inl (ca 2, 2, .inr (.inl (vp_updL (fun _ => 0) 0 0)))), ((q 112), .inl (ca 1, 2, .inl (upd (fun _ => 0) 0 0))), ((q 113), .inl (ca 2, 2, .inr (.inl (vp_updL (fun _ => 0) 0 0)))), ((q 114), .inl (ca 2, 2, .inr (.inl (vp_updL (fun _ => 0) 0 0)))), ((q 117), .inl (ca 1, 2, .inl (upd (fun _ => 0) 0 0))), ((q 118), .inl (ca 1, 2, .inl (fun _ => 0))), ((q 122), .inl (ca 1, 2, .inl (fun _ => 0)))] := hD
  refine lv_aload_n hx hb d_MM_settles_49 rfl (lv_at hl 1 rfl) ?_
  refine va_get (D := (dC, dI)) (ci := 0) (v := .ref (q 118)) (C := R_MM) (T := F_MM) (N := 132) hx hb hts i_MM hown hK.1 hP 0 rfl rfl 118 (by decide) (hts _ xm_160) (fun _ h9 => h9) rfl d_MM_settles_50 ?_
  refine lv_iload_n hx hb d_MM_settles_53 rfl (lv_at hl 0 rfl) ?_
  refine lv_iconst (v := 0) hx hb d_MM_settles_54 (by decide) ?_
  refine va_iast hx hb hK.1 hP hD hS 7 1 rfl rfl (by unfold vp_in; decide) d_MM_settles_55 (fun H locs hP hD hS => ?_)
  have hP : va_P (dC, dI) classes [(h0, .inr (0, mF q th)), ((q 110), .inl (ca 1, 2, .inl (upd (fun _ => 0) 0 0))), ((q 111), .inl (ca 2, 2, .inr (.inl (vp_updL (fun _ => 0) 0 0)))), ((q 112), .inl (ca 1, 2, .inl (upd (fun _ => 0) 0 0))), ((q 113), .inl (ca 2, 2, .inr (.inl (vp_updL (fun _ => 0) 0 0)))), ((q 114), .inl (ca 2, 2, .inr (.inl (vp_updL (fun _ => 0) 0 0)))), ((q 117), .inl (ca 1, 2, .inl (upd (fun _ => 0) 0 0))), ((q 118), .inl (ca 1, 2, .inl (upd (fun _ => 0) 0 0))), ((q 122), .inl (ca 1, 2, .inl (fun _ => 0)))] H := hP
  have hD : va_D A [(h0, .inr (0, mF q th)), ((q 110), .inl (ca 1, 2, .inl (upd (fun _ => 0) 0 0))), ((q 111), .inl (ca 2, 2, .inr (.inl (vp_updL (fun _ => 0) 0 0)))), ((q 112), .inl (ca 1, 2, .inl (upd (fun _ => 0) 0 0))), ((q 113), .inl (ca 2, 2, .inr (.inl (vp_updL (fun _ => 0) 0 0)))), ((q 114), .inl (ca 2, 2, .inr (.inl (vp_updL (fun _ => 0) 0 0)))), ((q 117), .inl (ca 1, 2, .inl (upd (fun _ => 0) 0 0))), ((q 118), .inl (ca 1, 2, .inl (upd (fun _ => 0) 0 0))), ((q 122), .inl (ca 1, 2, .inl (fun _ => 0)))] := hD
  refine lv_aload_n hx hb d_MM_settles_56 rfl (lv_at hl 1 rfl) ?_
  refine va_get (D := (dC, dI)) (ci := 0) (v := .ref (q 122)) (C := R_MM) (T := F_MM) (N := 132) hx hb hts i_MM hown hK.1 hP 0 rfl rfl 122 (by decide) (hts _ xm_164) (fun _ h9 => h9) rfl d_MM_settles_57 ?_
  refine lv_iload_n hx hb d_MM_settles_60 rfl (lv_at hl 0 rfl) ?_
  refine lv_iconst (v := 0) hx hb d_MM_settles_61 (by decide) ?_
  refine va_iast hx hb hK.1 hP hD hS 8 1 rfl rfl (by unfold vp_in; decide) d_MM_settles_62 (fun H locs hP hD hS => ?_)
  have hP : va_P (dC, dI) classes [(h0, .inr (0, mF q th)), ((q 110), .inl (ca 1, 2, .inl (upd (fun _ => 0) 0 0))), ((q 111), .inl (ca 2, 2, .inr (.inl (vp_updL (fun _ => 0) 0 0)))), ((q 112), .inl (ca 1, 2, .inl (upd (fun _ => 0) 0 0))), ((q 113), .inl (ca 2, 2, .inr (.inl (vp_updL (fun _ => 0) 0 0)))), ((q 114), .inl (ca 2, 2, .inr (.inl (vp_updL (fun _ => 0) 0 0)))), ((q 117), .inl (ca 1, 2, .inl (upd (fun _ => 0) 0 0))), ((q 118), .inl (ca 1, 2, .inl (upd (fun _ => 0) 0 0))), ((q 122), .inl (ca 1, 2, .inl (upd (fun _ => 0) 0 0)))] H := hP
  have hD : va_D A [(h0, .inr (0, mF q th)), ((q 110), .inl (ca 1, 2, .inl (upd (fun _ => 0) 0 0))), ((q 111), .inl (ca 2, 2, .inr (.inl (vp_updL (fun _ => 0) 0 0)))), ((q 112), .inl (ca 1, 2, .inl (upd (fun _ => 0) 0 0))), ((q 113), .inl (ca 2, 2, .inr (.inl (vp_updL (fun _ => 0) 0 0)))), ((q 114), .inl (ca 2, 2, .inr (.inl (vp_updL (fun _ => 0) 0 0)))), ((q 117), .inl (ca 1, 2, .inl (upd (fun _ => 0) 0 0))), ((q 118), .inl (ca 1, 2, .inl (upd (fun _ => 0) 0 0))), ((q 122), .inl (ca 1, 2, .inl (upd (fun _ => 0) 0 0)))] := hD
  refine lv_iconst (v := 0) hx hb d_MM_settles_63 (by decide) ?_
  refine lv_istore_n (lv' := [(2, .int 0), (1, .int 0), (0, .ref h0)]) hx hb d_MM_settles_64 rfl hl (by decide) rfl (fun ls hl => ?_)
  refine lv_iload_n hx hb d_MM_settles_65 rfl (lv_at hl 0 rfl) ?_
  refine lv_aload_n hx hb d_MM_settles_66 rfl (lv_at hl 2 rfl) ?_
  refine va_get (D := (dC, dI)) (ci := 0) (v := .int 0) (C := R_MM) (T := F_MM) (N := 132) hx hb hts i_MM hown hK.1 hP 0 rfl rfl 8 (by decide) (hts _ xm_81) (fun _ h9 => h9) rfl d_MM_settles_67 ?_
  refine lv_icmp_ge (tgt := 141) hx hb d_MM_settles_70 (by decide) (fun _ => ?_) (fun h => absurd (by decide) h)
  refine lv_iinc (v := 1) (lv' := [(1, .int 1), (2, .int 0), (0, .ref h0)]) hx hb d_MM_settles_141 hl (k := 1) rfl (by decide) (by decide) rfl (fun ls hl => ?_)
  refine lv_goto (tgt := 2) hx hb d_MM_settles_144 (by decide) ?_
  refine lv_iload_n hx hb d_MM_settles_2 rfl (lv_at hl 0 rfl) ?_
  refine lv_iconst (v := 2) hx hb d_MM_settles_3 (by decide) ?_
  refine lv_icmp_ge (tgt := 147) hx hb d_MM_settles_4 (by decide) (fun h => absurd h (by decide)) (fun _ => ?_)
  refine lv_aload_n hx hb d_MM_settles_7 rfl (lv_at hl 2 rfl) ?_
  refine va_get (D := (dC, dI)) (ci := 0) (v := .ref (q 110)) (C := R_MM) (T := F_MM) (N := 132) hx hb hts i_MM hown hK.1 hP 0 rfl rfl 110 (by decide) (hts _ xm_152) (fun _ h9 => h9) rfl d_MM_settles_8 ?_
  refine lv_iload_n hx hb d_MM_settles_11 rfl (lv_at hl 0 rfl) ?_
  refine lv_iconst (v := 0) hx hb d_MM_settles_12 (by decide) ?_
  refine va_iast hx hb hK.1 hP hD hS 1 1 rfl rfl (by unfold vp_in; decide) d_MM_settles_13 (fun H locs hP hD hS => ?_)
  have hP : va_P (dC, dI) classes [(h0, .inr (0, mF q th)), ((q 110), .inl (ca 1, 2, .inl (upd (upd (fun _ => 0) 0 0) 1 0))), ((q 111), .inl (ca 2, 2, .inr (.inl (vp_updL (fun _ => 0) 0 0)))), ((q 112), .inl (ca 1, 2, .inl (upd (fun _ => 0) 0 0))), ((q 113), .inl (ca 2, 2, .inr (.inl (vp_updL (fun _ => 0) 0 0)))), ((q 114), .inl (ca 2, 2, .inr (.inl (vp_updL (fun _ => 0) 0 0)))), ((q 117), .inl (ca 1, 2, .inl (upd (fun _ => 0) 0 0))), ((q 118), .inl (ca 1, 2, .inl (upd (fun _ => 0) 0 0))), ((q 122), .inl (ca 1, 2, .inl (upd (fun _ => 0) 0 0)))] H := hP
  have hD : va_D A [(h0, .inr (0, mF q th)), ((q 110), .inl (ca 1, 2, .inl (upd (upd (fun _ => 0) 0 0) 1 0))), ((q 111), .inl (ca 2, 2, .inr (.inl (vp_updL (fun _ => 0) 0 0)))), ((q 112), .inl (ca 1, 2, .inl (upd (fun _ => 0) 0 0))), ((q 113), .inl (ca 2, 2, .inr (.inl (vp_updL (fun _ => 0) 0 0)))), ((q 114), .inl (ca 2, 2, .inr (.inl (vp_updL (fun _ => 0) 0 0)))), ((q 117), .inl (ca 1, 2, .inl (upd (fun _ => 0) 0 0))), ((q 118), .inl (ca 1, 2, .inl (upd (fun _ => 0) 0 0))), ((q 122), .inl (ca 1, 2, .inl (upd (fun _ => 0) 0 0)))] := hD
  refine lv_aload_n hx hb d_MM_settles_14 rfl (lv_at hl 2 rfl) ?_
  refine va_get (D := (dC, dI)) (ci := 0) (v := .ref (q 111)) (C := R_MM) (T := F_MM) (N := 132) hx hb hts i_MM hown hK.1 hP 0 rfl rfl 111 (by decide) (hts _ xm_153) (fun _ h9 => h9) rfl d_MM_settles_15 ?_
  refine lv_iload_n hx hb d_MM_settles_18 rfl (lv_at hl 0 rfl) ?_
  refine lv_lconst (v := 0) hx hb d_MM_settles_19 (by decide) ?_
  refine va_last hx hb hK.1 hP hD hS 2 2 rfl rfl (by unfold vp_in; decide) d_MM_settles_20 (fun H locs hP hD hS => ?_)
  have hP : va_P (dC, dI) classes [(h0, .inr (0, mF q th)), ((q 110), .inl (ca 1, 2, .inl (upd (upd (fun _ => 0) 0 0) 1 0))), ((q 111), .inl (ca 2, 2, .inr (.inl (vp_updL (vp_updL (fun _ => 0) 0 0) 1 0)))), ((q 112), .inl (ca 1, 2, .inl (upd (fun _ => 0) 0 0))), ((q 113), .inl (ca 2, 2, .inr (.inl (vp_updL (fun _ => 0) 0 0)))), ((q 114), .inl (ca 2, 2, .inr (.inl (vp_updL (fun _ => 0) 0 0)))), ((q 117), .inl (ca 1, 2, .inl (upd (fun _ => 0) 0 0))), ((q 118), .inl (ca 1, 2, .inl (upd (fun _ => 0) 0 0))), ((q 122), .inl (ca 1, 2, .inl (upd (fun _ => 0) 0 0)))] H := hP
  have hD : va_D A [(h0, .inr (0, mF q th)), ((q 110), .inl (ca 1, 2, .inl (upd (upd (fun _ => 0) 0 0) 1 0))), ((q 111), .inl (ca 2, 2, .inr (.inl (vp_updL (vp_updL (fun _ => 0) 0 0) 1 0)))), ((q 112), .inl (ca 1, 2, .inl (upd (fun _ => 0) 0 0))), ((q 113), .inl (ca 2, 2, .inr (.inl (vp_updL (fun _ => 0) 0 0)))), ((q 114), .inl (ca 2, 2, .inr (.inl (vp_updL (fun _ => 0) 0 0)))), ((q 117), .inl (ca 1, 2, .inl (upd (fun _ => 0) 0 0))), ((q 118), .inl (ca 1, 2, .inl (upd (fun _ => 0) 0 0))), ((q 122), .inl (ca 1, 2, .inl (upd (fun _ => 0) 0 0)))] := hD
  refine lv_aload_n hx hb d_MM_settles_21 rfl (lv_at hl 2 rfl) ?_
  refine va_get (D := (dC, dI)) (ci := 0) (v := .ref (q 112)) (C := R_MM) (T := F_MM) (N := 132) hx hb hts i_MM hown hK.1 hP 0 rfl rfl 112 (by decide) (hts _ xm_154) (fun _ h9 => h9) rfl d_MM_settles_22 ?_
  refine lv_iload_n hx hb d_MM_settles_25 rfl (lv_at hl 0 rfl) ?_
  refine lv_iconst (v := 0) hx hb d_MM_settles_26 (by decide) ?_
  refine va_iast hx hb hK.1 hP hD hS 3 1 rfl rfl (by unfold vp_in; decide) d_MM_settles_27 (fun H locs hP hD hS => ?_)
  have hP : va_P (dC, dI) classes [(h0, .inr (0, mF q th)), ((q 110), .inl (ca 1, 2, .inl (upd (upd (fun _ => 0) 0 0) 1 0))), ((q 111), .inl (ca 2, 2, .inr (.inl (vp_updL (vp_updL (fun _ => 0) 0 0) 1 0)))), ((q 112), .inl (ca 1, 2, .inl (upd (upd (fun _ => 0) 0 0) 1 0))), ((q 113), .inl (ca 2, 2, .inr (.inl (vp_updL (fun _ => 0) 0 0)))), ((q 114), .inl (ca 2, 2, .inr (.inl (vp_updL (fun _ => 0) 0 0)))), ((q 117), .inl (ca 1, 2, .inl (upd (fun _ => 0) 0 0))), ((q 118), .inl (ca 1, 2, .inl (upd (fun _ => 0) 0 0))), ((q 122), .inl (ca 1, 2, .inl (upd (fun _ => 0) 0 0)))] H := hP
  have hD : va_D A [(h0, .inr (0, mF q th)), ((q 110), .inl (ca 1, 2, .inl (upd (upd (fun _ => 0) 0 0) 1 0))), ((q 111), .inl (ca 2, 2, .inr (.inl (vp_updL (vp_updL (fun _ => 0) 0 0) 1 0)))), ((q 112), .inl (ca 1, 2, .inl (upd (upd (fun _ => 0) 0 0) 1 0))), ((q 113), .inl (ca 2, 2, .inr (.inl (vp_updL (fun _ => 0) 0 0)))), ((q 114), .inl (ca 2, 2, .inr (.inl (vp_updL (fun _ => 0) 0 0)))), ((q 117), .inl (ca 1, 2, .inl (upd (fun _ => 0) 0 0))), ((q 118), .inl (ca 1, 2, .inl (upd (fun _ => 0) 0 0))), ((q 122), .inl (ca 1, 2, .inl (upd (fun _ => 0) 0 0)))] := hD
  refine lv_aload_n hx hb d_MM_settles_28 rfl (lv_at hl 2 rfl) ?_
  refine va_get (D := (dC, dI)) (ci := 0) (v := .ref (q 113)) (C := R_MM) (T := F_MM) (N := 132) hx hb hts i_MM hown hK.1 hP 0 rfl rfl 113 (by decide) (hts _ xm_155) (fun _ h9 => h9) rfl d_MM_settles_29 ?_
  refine lv_iload_n hx hb d_MM_settles_32 rfl (lv_at hl 0 rfl) ?_
  refine lv_lconst (v := 0) hx hb d_MM_settles_33 (by decide) ?_
  refine va_last hx hb hK.1 hP hD hS 4 2 rfl rfl (by unfold vp_in; decide) d_MM_settles_34 (fun H locs hP hD hS => ?_)
  have hP : va_P (dC, dI) classes [(h0, .inr (0, mF q th)), ((q 110), .inl (ca 1, 2, .inl (upd (upd (fun _ => 0) 0 0) 1 0))), ((q 111), .inl (ca 2, 2, .inr (.inl (vp_updL (vp_updL (fun _ => 0) 0 0) 1 0)))), ((q 112), .inl (ca 1, 2, .inl (upd (upd (fun _ => 0) 0 0) 1 0))), ((q 113), .inl (ca 2, 2, .inr (.inl (vp_updL (vp_updL (fun _ => 0) 0 0) 1 0)))), ((q 114), .inl (ca 2, 2, .inr (.inl (vp_updL (fun _ => 0) 0 0)))), ((q 117), .inl (ca 1, 2, .inl (upd (fun _ => 0) 0 0))), ((q 118), .inl (ca 1, 2, .inl (upd (fun _ => 0) 0 0))), ((q 122), .inl (ca 1, 2, .inl (upd (fun _ => 0) 0 0)))] H := hP
  have hD : va_D A [(h0, .inr (0, mF q th)), ((q 110), .inl (ca 1, 2, .inl (upd (upd (fun _ => 0) 0 0) 1 0))), ((q 111), .inl (ca 2, 2, .inr (.inl (vp_updL (vp_updL (fun _ => 0) 0 0) 1 0)))), ((q 112), .inl (ca 1, 2, .inl (upd (upd (fun _ => 0) 0 0) 1 0))), ((q 113), .inl (ca 2, 2, .inr (.inl (vp_updL (vp_updL (fun _ => 0) 0 0) 1 0)))), ((q 114), .inl (ca 2, 2, .inr (.inl (vp_updL (fun _ => 0) 0 0)))), ((q 117), .inl (ca 1, 2, .inl (upd (fun _ => 0) 0 0))), ((q 118), .inl (ca 1, 2, .inl (upd (fun _ => 0) 0 0))), ((q 122), .inl (ca 1, 2, .inl (upd (fun _ => 0) 0 0)))] := hD
  refine lv_aload_n hx hb d_MM_settles_35 rfl (lv_at hl 2 rfl) ?_
  refine va_get (D := (dC, dI)) (ci := 0) (v := .ref (q 114)) (C := R_MM) (T := F_MM) (N := 132) hx hb hts i_MM hown hK.1 hP 0 rfl rfl 114 (by decide) (hts _ xm_156) (fun _ h9 => h9) rfl d_MM_settles_36 ?_
  refine lv_iload_n hx hb d_MM_settles_39 rfl (lv_at hl 0 rfl) ?_
  refine lv_lconst (v := 0) hx hb d_MM_settles_40 (by decide) ?_
  refine va_last hx hb hK.1 hP hD hS 5 2 rfl rfl (by unfold vp_in; decide) d_MM_settles_41 (fun H locs hP hD hS => ?_)
  have hP : va_P (dC, dI) classes [(h0, .inr (0, mF q th)), ((q 110), .inl (ca 1, 2, .inl (upd (upd (fun _ => 0) 0 0) 1 0))), ((q 111), .inl (ca 2, 2, .inr (.inl (vp_updL (vp_updL (fun _ => 0) 0 0) 1 0)))), ((q 112), .inl (ca 1, 2, .inl (upd (upd (fun _ => 0) 0 0) 1 0))), ((q 113), .inl (ca 2, 2, .inr (.inl (vp_updL (vp_updL (fun _ => 0) 0 0) 1 0)))), ((q 114), .inl (ca 2, 2, .inr (.inl (vp_updL (vp_updL (fun _ => 0) 0 0) 1 0)))), ((q 117), .inl (ca 1, 2, .inl (upd (fun _ => 0) 0 0))), ((q 118), .inl (ca 1, 2, .inl (upd (fun _ => 0) 0 0))), ((q 122), .inl (ca 1, 2, .inl (upd (fun _ => 0) 0 0)))] H := hP
  have hD : va_D A [(h0, .inr (0, mF q th)), ((q 110), .inl (ca 1, 2, .inl (upd (upd (fun _ => 0) 0 0) 1 0))), ((q 111), .inl (ca 2, 2, .inr (.inl (vp_updL (vp_updL (fun _ => 0) 0 0) 1 0)))), ((q 112), .inl (ca 1, 2, .inl (upd (upd (fun _ => 0) 0 0) 1 0))), ((q 113), .inl (ca 2, 2, .inr (.inl (vp_updL (vp_updL (fun _ => 0) 0 0) 1 0)))), ((q 114), .inl (ca 2, 2, .inr (.inl (vp_updL (vp_updL (fun _ => 0) 0 0) 1 0)))), ((q 117), .inl (ca 1, 2, .inl (upd (fun _ => 0) 0 0))), ((q 118), .inl (ca 1, 2, .inl (upd (fun _ => 0) 0 0))), ((q 122), .inl (ca 1, 2, .inl (upd (fun _ => 0) 0 0)))] := hD
  refine lv_aload_n hx hb d_MM_settles_42 rfl (lv_at hl 2 rfl) ?_
  refine va_get (D := (dC, dI)) (ci := 0) (v := .ref (q 117)) (C := R_MM) (T := F_MM) (N := 132) hx hb hts i_MM hown hK.1 hP 0 rfl rfl 117 (by decide) (hts _ xm_159) (fun _ h9 => h9) rfl d_MM_settles_43 ?_
  refine lv_iload_n hx hb d_MM_settles_46 rfl (lv_at hl 0 rfl) ?_
  refine lv_iconst (v := 0) hx hb d_MM_settles_47 (by decide) ?_
  refine va_iast hx hb hK.1 hP hD hS 6 1 rfl rfl (by unfold vp_in; decide) d_MM_settles_48 (fun H locs hP hD hS => ?_)
  have hP : va_P (dC, dI) classes [(h0, .inr (0, mF q th)), ((q 110), .inl (ca 1, 2, .inl (upd (upd (fun _ => 0) 0 0) 1 0))), ((q 111), .inl (ca 2, 2, .inr (.inl (vp_updL (vp_updL (fun _ => 0) 0 0) 1 0)))), ((q 112), .inl (ca 1, 2, .inl (upd (upd (fun _ => 0) 0 0) 1 0))), ((q 113), .inl (ca 2, 2, .inr (.inl (vp_updL (vp_updL (fun _ => 0) 0 0) 1 0)))), ((q 114), .inl (ca 2, 2, .inr (.inl (vp_updL (vp_updL (fun _ => 0) 0 0) 1 0)))), ((q 117), .inl (ca 1, 2, .inl (upd (upd (fun _ => 0) 0 0) 1 0))), ((q 118), .inl (ca 1, 2, .inl (upd (fun _ => 0) 0 0))), ((q 122), .inl (ca 1, 2, .inl (upd (fun _ => 0) 0 0)))] H := hP
  have hD : va_D A [(h0, .inr (0, mF q th)), ((q 110), .inl (ca 1, 2, .inl (upd (upd (fun _ => 0) 0 0) 1 0))), ((q 111), .inl (ca 2, 2, .inr (.inl (vp_updL (vp_updL (fun _ => 0) 0 0) 1 0)))), ((q 112), .inl (ca 1, 2, .inl (upd (upd (fun _ => 0) 0 0) 1 0))), ((q 113), .inl (ca 2, 2, .inr (.inl (vp_updL (vp_updL (fun _ => 0) 0 0) 1 0)))), ((q 114), .inl (ca 2, 2, .inr (.inl (vp_updL (vp_updL (fun _ => 0) 0 0) 1 0)))), ((q 117), .inl (ca 1, 2, .inl (upd (upd (fun _ => 0) 0 0) 1 0))), ((q 118), .inl (ca 1, 2, .inl (upd (fun _ => 0) 0 0))), ((q 122), .inl (ca 1, 2, .inl (upd (fun _ => 0) 0 0)))] := hD
  refine lv_aload_n hx hb d_MM_settles_49 rfl (lv_at hl 2 rfl) ?_
  refine va_get (D := (dC, dI)) (ci := 0) (v := .ref (q 118)) (C := R_MM) (T := F_MM) (N := 132) hx hb hts i_MM hown hK.1 hP 0 rfl rfl 118 (by decide) (hts _ xm_160) (fun _ h9 => h9) rfl d_MM_settles_50 ?_
  refine lv_iload_n hx hb d_MM_settles_53 rfl (lv_at hl 0 rfl) ?_
  refine lv_iconst (v := 0) hx hb d_MM_settles_54 (by decide) ?_
  refine va_iast hx hb hK.1 hP hD hS 7 1 rfl rfl (by unfold vp_in; decide) d_MM_settles_55 (fun H locs hP hD hS => ?_)
  have hP : va_P (dC, dI) classes [(h0, .inr (0, mF q th)), ((q 110), .inl (ca 1, 2, .inl (upd (upd (fun _ => 0) 0 0) 1 0))), ((q 111), .inl (ca 2, 2, .inr (.inl (vp_updL (vp_updL (fun _ => 0) 0 0) 1 0)))), ((q 112), .inl (ca 1, 2, .inl (upd (upd (fun _ => 0) 0 0) 1 0))), ((q 113), .inl (ca 2, 2, .inr (.inl (vp_updL (vp_updL (fun _ => 0) 0 0) 1 0)))), ((q 114), .inl (ca 2, 2, .inr (.inl (vp_updL (vp_updL (fun _ => 0) 0 0) 1 0)))), ((q 117), .inl (ca 1, 2, .inl (upd (upd (fun _ => 0) 0 0) 1 0))), ((q 118), .inl (ca 1, 2, .inl (upd (upd (fun _ => 0) 0 0) 1 0))), ((q 122), .inl (ca 1, 2, .inl (upd (fun _ => 0) 0 0)))] H := hP
  have hD : va_D A [(h0, .inr (0, mF q th)), ((q 110), .inl (ca 1, 2, .inl (upd (upd (fun _ => 0) 0 0) 1 0))), ((q 111), .inl (ca 2, 2, .inr (.inl (vp_updL (vp_updL (fun _ => 0) 0 0) 1 0)))), ((q 112), .inl (ca 1, 2, .inl (upd (upd (fun _ => 0) 0 0) 1 0))), ((q 113), .inl (ca 2, 2, .inr (.inl (vp_updL (vp_updL (fun _ => 0) 0 0) 1 0)))), ((q 114), .inl (ca 2, 2, .inr (.inl (vp_updL (vp_updL (fun _ => 0) 0 0) 1 0)))), ((q 117), .inl (ca 1, 2, .inl (upd (upd (fun _ => 0) 0 0) 1 0))), ((q 118), .inl (ca 1, 2, .inl (upd (upd (fun _ => 0) 0 0) 1 0))), ((q 122), .inl (ca 1, 2, .inl (upd (fun _ => 0) 0 0)))] := hD
  refine lv_aload_n hx hb d_MM_settles_56 rfl (lv_at hl 2 rfl) ?_
  refine va_get (D := (dC, dI)) (ci := 0) (v := .ref (q 122)) (C := R_MM) (T := F_MM) (N := 132) hx hb hts i_MM hown hK.1 hP 0 rfl rfl 122 (by decide) (hts _ xm_164) (fun _ h9 => h9) rfl d_MM_settles_57 ?_
  refine lv_iload_n hx hb d_MM_settles_60 rfl (lv_at hl 0 rfl) ?_
  refine lv_iconst (v := 0) hx hb d_MM_settles_61 (by decide) ?_
  refine va_iast hx hb hK.1 hP hD hS 8 1 rfl rfl (by unfold vp_in; decide) d_MM_settles_62 (fun H locs hP hD hS => ?_)
  have hP : va_P (dC, dI) classes [(h0, .inr (0, mF q th)), ((q 110), .inl (ca 1, 2, .inl (upd (upd (fun _ => 0) 0 0) 1 0))), ((q 111), .inl (ca 2, 2, .inr (.inl (vp_updL (vp_updL (fun _ => 0) 0 0) 1 0)))), ((q 112), .inl (ca 1, 2, .inl (upd (upd (fun _ => 0) 0 0) 1 0))), ((q 113), .inl (ca 2, 2, .inr (.inl (vp_updL (vp_updL (fun _ => 0) 0 0) 1 0)))), ((q 114), .inl (ca 2, 2, .inr (.inl (vp_updL (vp_updL (fun _ => 0) 0 0) 1 0)))), ((q 117), .inl (ca 1, 2, .inl (upd (upd (fun _ => 0) 0 0) 1 0))), ((q 118), .inl (ca 1, 2, .inl (upd (upd (fun _ => 0) 0 0) 1 0))), ((q 122), .inl (ca 1, 2, .inl (upd (upd (fun _ => 0) 0 0) 1 0)))] H := hP
  have hD : va_D A [(h0, .inr (0, mF q th)), ((q 110), .inl (ca 1, 2, .inl (upd (upd (fun _ => 0) 0 0) 1 0))), ((q 111), .inl (ca 2, 2, .inr (.inl (vp_updL (vp_updL (fun _ => 0) 0 0) 1 0)))), ((q 112), .inl (ca 1, 2, .inl (upd (upd (fun _ => 0) 0 0) 1 0))), ((q 113), .inl (ca 2, 2, .inr (.inl (vp_updL (vp_updL (fun _ => 0) 0 0) 1 0)))), ((q 114), .inl (ca 2, 2, .inr (.inl (vp_updL (vp_updL (fun _ => 0) 0 0) 1 0)))), ((q 117), .inl (ca 1, 2, .inl (upd (upd (fun _ => 0) 0 0) 1 0))), ((q 118), .inl (ca 1, 2, .inl (upd (upd (fun _ => 0) 0 0) 1 0))), ((q 122), .inl (ca 1, 2, .inl (upd (upd (fun _ => 0) 0 0) 1 0)))] := hD
  refine lv_iconst (v := 0) hx hb d_MM_settles_63 (by decide) ?_
  refine lv_istore_n (lv' := [(2, .int 0), (1, .int 1), (0, .ref h0)]) hx hb d_MM_settles_64 rfl hl (by decide) rfl (fun ls hl => ?_)
  refine lv_iload_n hx hb d_MM_settles_65 rfl (lv_at hl 0 rfl) ?_
  refine lv_aload_n hx hb d_MM_settles_66 rfl (lv_at hl 2 rfl) ?_
  refine va_get (D := (dC, dI)) (ci := 0) (v := .int 0) (C := R_MM) (T := F_MM) (N := 132) hx hb hts i_MM hown hK.1 hP 0 rfl rfl 8 (by decide) (hts _ xm_81) (fun _ h9 => h9) rfl d_MM_settles_67 ?_
  refine lv_icmp_ge (tgt := 141) hx hb d_MM_settles_70 (by decide) (fun _ => ?_) (fun h => absurd (by decide) h)
  refine lv_iinc (v := 2) (lv' := [(1, .int 2), (2, .int 0), (0, .ref h0)]) hx hb d_MM_settles_141 hl (k := 1) rfl (by decide) (by decide) rfl (fun ls hl => ?_)
  refine lv_goto (tgt := 2) hx hb d_MM_settles_144 (by decide) ?_
  refine lv_iload_n hx hb d_MM_settles_2 rfl (lv_at hl 0 rfl) ?_
  refine lv_iconst (v := 2) hx hb d_MM_settles_3 (by decide) ?_
  refine lv_icmp_ge (tgt := 147) hx hb d_MM_settles_4 (by decide) (fun _ => ?_) (fun h => absurd (by decide) h)
  exact ax_vret hx hb hr hlocks hP hD hS () rfl [0] rfl (by decide) rfl (Nat.le_of_ble_eq_true rfl) (Nat.le_of_ble_eq_true rfl) d_MM_settles_147
theorem d_MM_settle_0 : decode b_MM_settle 0 = .ok (.aload_n 0, 1) := by decide +kernel
theorem d_MM_settle_1 : decode b_MM_settle 1 = .ok (.iconst 0, 1) := by decide +kernel
theorem d_MM_settle_2 : decode b_MM_settle 2 = .ok (.putfield 343, 3) := by decide +kernel
theorem d_MM_settle_5 : decode b_MM_settle 5 = .ok (.aload_n 0, 1) := by decide +kernel
theorem d_MM_settle_6 : decode b_MM_settle 6 = .ok (.invokevirtual 438, 3) := by decide +kernel
theorem d_MM_settle_9 : decode b_MM_settle 9 = .ok (.return_, 1) := by decide +kernel
set_option maxHeartbeats 4000000 in
set_option maxRecDepth 100000 in
theorem c_MM_settle (l : Launch) (dC : Nat → ClassId) (dI : Nat → Nat → Nat) (ca : Nat → ClassId) (h0 : Nat) (q : Nat → Nat) (th : Int32) : CT l classes (dC, dI) (mK dC dI ca) wm y_MM_settle b_MM_settle 1 none 1 23 0 0 [.ref h0] [(h0, .inr (0, mF q th)), ((q 110), .inl (ca 1, 2, .inl (fun _ => 0))), ((q 111), .inl (ca 2, 2, .inr (.inl (fun _ => 0)))), ((q 112), .inl (ca 1, 2, .inl (fun _ => 0))), ((q 113), .inl (ca 2, 2, .inr (.inl (fun _ => 0)))), ((q 114), .inl (ca 2, 2, .inr (.inl (fun _ => 0)))), ((q 117), .inl (ca 1, 2, .inl (fun _ => 0))), ((q 118), .inl (ca 1, 2, .inl (fun _ => 0))), ((q 122), .inl (ca 1, 2, .inl (fun _ => 0)))] (fun (v : Option Value) (_ : Unit) => v = none) (fun (_ : Unit) => [(h0, .inr (0, mF q 0))]) := by
  refine ax_of (by decide) (Nat.le_of_ble_eq_true rfl) ?_
  intro p e s m below meth c A ls hAt hK hP hD hS hA hl
  obtain ⟨hx, hb, hr, hml, hown, hts, hlocks, hin⟩ := hAt
  have hl : lv_has ls 1 [(0, .ref h0)] := hl
  refine lv_aload_n hx hb d_MM_settle_0 rfl (lv_at hl 0 rfl) ?_
  refine lv_iconst (v := 0) hx hb d_MM_settle_1 (by decide) ?_
  refine va_put (D := (dC, dI)) (ci := 0) (v := .int 0) (ty := .int) (C := R_MM) (T := F_MM) (N := 132) hx hb hts i_MM t_MM t_MM_ok n_MM hown hK.1 hP hD hS 0 rfl rfl 0 (by decide) (hts _ xm_73) (fun _ h9 => h9) rfl (by decide +kernel) rfl rfl (Nat.le_of_ble_eq_true rfl) d_MM_settle_2 (fun H locs hP hD hS => ?_)
  have hP : va_P (dC, dI) classes [(h0, .inr (0, mF q 0)), ((q 110), .inl (ca 1, 2, .inl (fun _ => 0))), ((q 111), .inl (ca 2, 2, .inr (.inl (fun _ => 0)))), ((q 112), .inl (ca 1, 2, .inl (fun _ => 0))), ((q 113), .inl (ca 2, 2, .inr (.inl (fun _ => 0)))), ((q 114), .inl (ca 2, 2, .inr (.inl (fun _ => 0)))), ((q 117), .inl (ca 1, 2, .inl (fun _ => 0))), ((q 118), .inl (ca 1, 2, .inl (fun _ => 0))), ((q 122), .inl (ca 1, 2, .inl (fun _ => 0)))] H := hP
  have hD : va_D A [(h0, .inr (0, mF q 0)), ((q 110), .inl (ca 1, 2, .inl (fun _ => 0))), ((q 111), .inl (ca 2, 2, .inr (.inl (fun _ => 0)))), ((q 112), .inl (ca 1, 2, .inl (fun _ => 0))), ((q 113), .inl (ca 2, 2, .inr (.inl (fun _ => 0)))), ((q 114), .inl (ca 2, 2, .inr (.inl (fun _ => 0)))), ((q 117), .inl (ca 1, 2, .inl (fun _ => 0))), ((q 118), .inl (ca 1, 2, .inl (fun _ => 0))), ((q 122), .inl (ca 1, 2, .inl (fun _ => 0)))] := hD
  refine lv_aload_n hx hb d_MM_settle_5 rfl (lv_at hl 0 rfl) ?_
  refine ax_V (ci := 0) (q0 := 0) (k := 0) (As := []) (rest := []) (wr := []) rfl hx hb hml hown hts g_wm (mK_bl dC dI ca) (c_MM_settles l dC dI ca h0 q 0) xm_260 xm_261 xm_0 xm_262 xm_340 (by decide +kernel) rfl (Nat.le_of_ble_eq_true rfl) (Nat.le_of_ble_eq_true rfl) hl.1 (Nat.le_of_ble_eq_true rfl) (mK_up hK) hK.1 hP hD hS hA rfl rfl [0, 1, 2, 3, 4, 5, 6, 7, 8] [] rfl (by decide) rfl rfl (by decide) (by decide) (Nat.le_of_ble_eq_true rfl) (Nat.le_of_ble_eq_true rfl) d_MM_settle_6 (fun v _ H locs hp hP hD hS => ?_)
  obtain rfl : v = none := hp
  have hP : va_P (dC, dI) classes [(h0, .inr (0, mF q 0))] H := hP
  have hD : va_D A [(h0, .inr (0, mF q 0))] := hD
  refine W.eq (g2 := F0 m 9 ls []) rfl ?_
  exact ax_vret hx hb hr hlocks hP hD hS () rfl [0] rfl (by decide) rfl (Nat.le_of_ble_eq_true rfl) (Nat.le_of_ble_eq_true rfl) d_MM_settle_9
end
section
theorem d_MB_add_0 : decode b_MB_add 0 = .ok (.aload_n 0, 1) := by decide +kernel
theorem d_MB_add_1 : decode b_MB_add 1 = .ok (.getfield 13, 3) := by decide +kernel
theorem d_MB_add_4 : decode b_MB_add 4 = .ok (.aload_n 0, 1) := by decide +kernel
theorem d_MB_add_5 : decode b_MB_add 5 = .ok (.getfield 7, 3) := by decide +kernel
theorem d_MB_add_8 : decode b_MB_add 8 = .ok (.arraylength, 1) := by decide +kernel
theorem d_MB_add_9 : decode b_MB_add 9 = .ok (.if_icmp .ne 42, 3) := by decide +kernel
theorem d_MB_add_51 : decode b_MB_add 51 = .ok (.aload_n 0, 1) := by decide +kernel
theorem d_MB_add_52 : decode b_MB_add 52 = .ok (.getfield 7, 3) := by decide +kernel
theorem d_MB_add_55 : decode b_MB_add 55 = .ok (.aload_n 0, 1) := by decide +kernel
theorem d_MB_add_56 : decode b_MB_add 56 = .ok (.getfield 13, 3) := by decide +kernel
theorem d_MB_add_59 : decode b_MB_add 59 = .ok (.iload_n 1, 1) := by decide +kernel
theorem d_MB_add_60 : decode b_MB_add 60 = .ok (.i2b, 1) := by decide +kernel
theorem d_MB_add_61 : decode b_MB_add 61 = .ok (.bastore, 1) := by decide +kernel
theorem d_MB_add_62 : decode b_MB_add 62 = .ok (.aload_n 0, 1) := by decide +kernel
theorem d_MB_add_63 : decode b_MB_add 63 = .ok (.dup, 1) := by decide +kernel
theorem d_MB_add_64 : decode b_MB_add 64 = .ok (.getfield 13, 3) := by decide +kernel
theorem d_MB_add_67 : decode b_MB_add 67 = .ok (.iconst 1, 1) := by decide +kernel
theorem d_MB_add_68 : decode b_MB_add 68 = .ok (.iadd, 1) := by decide +kernel
theorem d_MB_add_69 : decode b_MB_add 69 = .ok (.putfield 13, 3) := by decide +kernel
theorem d_MB_add_72 : decode b_MB_add 72 = .ok (.return_, 1) := by decide +kernel
theorem nI_ne16 {k : Nat} (hk : k < 16) : nI k ≠ 16 := fun h => by
  have := (nI_eq (a := k) (b := 16) (by omega) (by omega)).mp h
  omega
set_option maxHeartbeats 4000000 in
theorem c_MB_add (l : Launch) (dC : Nat → ClassId) (dI : Nat → Nat → Nat) (ca : Nat → ClassId) (h0 qa : Nat) (f : Nat → Int32) (k : Nat) (hk : k < 16) (x : Int32) : CT l classes (dC, dI) (mK dC dI ca) wm y_MB_add b_MB_add 4 none 0 0 0 0 [.ref h0, .int x] [(h0, .inr (2, [.ref qa, .int (nI k)])), (qa, .inl (ca 0, 16, .inl f))] (fun (v : Option Value) (_ : Nat → Int32) => v = none) (fun (f2 : Nat → Int32) => [(h0, .inr (2, [.ref qa, .int (nI (k + 1))])), (qa, .inl (ca 0, 16, .inl f2))]) := by
  refine ax_of (by decide) (Nat.le_of_ble_eq_true rfl) ?_
  intro p e s m below meth c A ls hAt hK hP hD hS hA hl
  obtain ⟨hx, hb, hr, hml, hown, hts, hlocks, hin⟩ := hAt
  have hl : lv_has ls 4 [(0, .ref h0), (1, .int x)] := hl
  refine lv_aload_n hx hb d_MB_add_0 rfl (lv_at hl 0 rfl) ?_
  refine va_get (D := (dC, dI)) (ci := 2) (v := .int (nI k)) (C := R_MB) (T := F_MB) (N := 2) hx hb hts i_MB hown hK.1 hP 0 rfl rfl 1 (by decide) (hts _ xm_31) (fun _ h9 => h9) rfl d_MB_add_1 ?_
  refine lv_aload_n hx hb d_MB_add_4 rfl (lv_at hl 0 rfl) ?_
  refine va_get (D := (dC, dI)) (ci := 2) (v := .ref qa) (C := R_MB) (T := F_MB) (N := 2) hx hb hts i_MB hown hK.1 hP 0 rfl rfl 0 (by decide) (hts _ xm_30) (fun _ h9 => h9) rfl d_MB_add_5 ?_
  refine va_alen hx hb hK.1 hP 1 0 rfl rfl (v := 16) rfl d_MB_add_8 ?_
  refine lv_icmp_ne (tgt := 51) hx hb d_MB_add_9 (by decide) (fun _ => ?_) (fun h => absurd h (nI_ne16 hk))
  refine lv_aload_n hx hb d_MB_add_51 rfl (lv_at hl 0 rfl) ?_
  refine va_get (D := (dC, dI)) (ci := 2) (v := .ref qa) (C := R_MB) (T := F_MB) (N := 2) hx hb hts i_MB hown hK.1 hP 0 rfl rfl 0 (by decide) (hts _ xm_30) (fun _ h9 => h9) rfl d_MB_add_52 ?_
  refine lv_aload_n hx hb d_MB_add_55 rfl (lv_at hl 0 rfl) ?_
  refine va_get (D := (dC, dI)) (ci := 2) (v := .int (nI k)) (C := R_MB) (T := F_MB) (N := 2) hx hb hts i_MB hown hK.1 hP 0 rfl rfl 1 (by decide) (hts _ xm_31) (fun _ h9 => h9) rfl d_MB_add_56 ?_
  refine lv_iload_n hx hb d_MB_add_59 rfl (lv_at hl 1 rfl) ?_
  refine lv_i2b hx hb d_MB_add_60 rfl ?_
  refine va_bast hx hb hK.1 hP hD hS 1 0 rfl rfl (vp_in_nI hk (by omega)) d_MB_add_61 (fun H locs hP hD hS => ?_)
  generalize upd f (nI k).toNatClampNeg (vp_nar .byte x.toInt8.toInt32) = f2 at hP hD
  have hP : va_P (dC, dI) classes [(h0, .inr (2, [.ref qa, .int (nI k)])), (qa, .inl (ca 0, 16, .inl f2))] H := hP
  have hD : va_D A [(h0, .inr (2, [.ref qa, .int (nI k)])), (qa, .inl (ca 0, 16, .inl f2))] := hD
  refine lv_aload_n hx hb d_MB_add_62 rfl (lv_at hl 0 rfl) ?_
  refine lv_dup hx hb d_MB_add_63 rfl ?_
  refine va_get (D := (dC, dI)) (ci := 2) (v := .int (nI k)) (C := R_MB) (T := F_MB) (N := 2) hx hb hts i_MB hown hK.1 hP 0 rfl rfl 1 (by decide) (hts _ xm_31) (fun _ h9 => h9) rfl d_MB_add_64 ?_
  refine lv_iconst (v := 1) hx hb d_MB_add_67 (by decide) ?_
  refine lv_iadd hx hb d_MB_add_68 ?_
  refine lv_topi (fun z e9 => ?_)
  obtain rfl : z = nI (k + 1) := by rw [e9]; exact nI_1 k
  refine va_put (D := (dC, dI)) (ci := 2) (v := .int (nI (k + 1))) (ty := .int) (C := R_MB) (T := F_MB) (N := 2) hx hb hts i_MB t_MB t_MB_ok n_MB hown hK.1 hP hD hS 0 rfl rfl 1 (by decide) (hts _ xm_31) (fun _ h9 => h9) rfl (by decide +kernel) rfl rfl (Nat.le_of_ble_eq_true rfl) d_MB_add_69 (fun H locs hP hD hS => ?_)
  have hP : va_P (dC, dI) classes [(h0, .inr (2, [.ref qa, .int (nI (k + 1))])), (qa, .inl (ca 0, 16, .inl f2))] H := hP
  have hD : va_D A [(h0, .inr (2, [.ref qa, .int (nI (k + 1))])), (qa, .inl (ca 0, 16, .inl f2))] := hD
  exact ax_vret hx hb hr hlocks hP hD hS f2 rfl [0, 1] rfl (by decide) rfl (Nat.le_refl _) (Nat.le_refl _) d_MB_add_72
theorem d_MB_addLong_0 : decode b_MB_addLong 0 = .ok (.iload_n 3, 1) := by decide +kernel
theorem d_MB_addLong_1 : decode b_MB_addLong 1 = .ok (.iconst 1, 1) := by decide +kernel
theorem d_MB_addLong_2 : decode b_MB_addLong 2 = .ok (.isub, 1) := by decide +kernel
theorem d_MB_addLong_3 : decode b_MB_addLong 3 = .ok (.istore 4, 2) := by decide +kernel
theorem d_MB_addLong_5 : decode b_MB_addLong 5 = .ok (.iload 4, 2) := by decide +kernel
theorem d_MB_addLong_7 : decode b_MB_addLong 7 = .ok (.ifCond .lt 21, 3) := by decide +kernel
theorem d_MB_addLong_10 : decode b_MB_addLong 10 = .ok (.aload_n 0, 1) := by decide +kernel
theorem d_MB_addLong_11 : decode b_MB_addLong 11 = .ok (.lload_n 1, 1) := by decide +kernel
theorem d_MB_addLong_12 : decode b_MB_addLong 12 = .ok (.bipush 8, 2) := by decide +kernel
theorem d_MB_addLong_14 : decode b_MB_addLong 14 = .ok (.iload 4, 2) := by decide +kernel
theorem d_MB_addLong_16 : decode b_MB_addLong 16 = .ok (.imul, 1) := by decide +kernel
theorem d_MB_addLong_17 : decode b_MB_addLong 17 = .ok (.lshr, 1) := by decide +kernel
theorem d_MB_addLong_18 : decode b_MB_addLong 18 = .ok (.l2i, 1) := by decide +kernel
theorem d_MB_addLong_19 : decode b_MB_addLong 19 = .ok (.invokevirtual 17, 3) := by decide +kernel
theorem d_MB_addLong_22 : decode b_MB_addLong 22 = .ok (.iinc 4 (-1), 3) := by decide +kernel
theorem d_MB_addLong_25 : decode b_MB_addLong 25 = .ok (.goto (-20), 3) := by decide +kernel
theorem d_MB_addLong_28 : decode b_MB_addLong 28 = .ok (.return_, 1) := by decide +kernel
set_option maxHeartbeats 4000000 in
/-- the loop of addLong: j bytes are still to come -/
theorem lp_MB_addLong (l : Launch) (dC : Nat → ClassId) (dI : Nat → Nat → Nat) (ca : Nat → ClassId) (h0 qa : Nat) (x : Int64) (n : Nat) (hn : n ≤ 8) {p : Program} {e : Env} {R : Room} {s : State} {m : MethodId} {args : Array Value} {below : List Frame} {meth : Method} {c : Code} {A : Nat → Prop} {Q : State → Prop} {n3 : Int32}
    (hx : p.tables.exec = Jvm.exec) (hb : c.code = b_MB_addLong) (hml : c.maxLocals = 5) (hown : s.vm.findClass R_MB = some m.cls) (hts : ∀ w ∈ wm, w.before args s = true) (hK : mK dC dI ca s) (hA : ∀ q, s.heap.size ≤ q → A q) (hfr : 1 ≤ R.frames) (hlo : 23 ≤ R.locals)
    (kk : ∀ (f : Nat → Int32) (H : Heap) (locs : List Loc) (ls : Array Slot), va_P (dC, dI) classes [(h0, .inr (2, [.ref qa, .int (nI n)])), (qa, .inl (ca 0, 16, .inl f))] H → va_D A [(h0, .inr (2, [.ref qa, .int (nI n)])), (qa, .inl (ca 0, 16, .inl f))] → va_S A s.heap H locs → W p l e R s m args below meth c H locs 0 0 Q (F0 m 28 ls [])) :
    ∀ (j : Nat), j ≤ n → ∀ (f : Nat → Int32) (H : Heap) (locs : List Loc) (ls : Array Slot), va_P (dC, dI) classes [(h0, .inr (2, [.ref qa, .int (nI (n - j))])), (qa, .inl (ca 0, 16, .inl f))] H → va_D A [(h0, .inr (2, [.ref qa, .int (nI (n - j))])), (qa, .inl (ca 0, 16, .inl f))] → va_S A s.heap H locs →
      lv_has ls 5 [(4, .int (nI j - 1)), (0, .ref h0), (1, .long x), (3, .int n3)] → W p l e R s m args below meth c H locs 0 0 Q (F0 m 5 ls []) := by
  intro j
  induction j with
  | zero =>
    intro _ f H locs ls hP hD hS hl
    refine lv_iload hx hb d_MB_addLong_5 (lv_at hl 0 rfl) ?_
    refine lv_if_lt (tgt := 28) hx hb d_MB_addLong_7 (by decide) (fun _ => ?_) (fun h => absurd (by decide) h)
    exact kk f H locs ls hP hD hS
  | succ j ih =>
    intro hj f H locs ls hP hD hS hl
    have e1 : nI (j + 1) - 1 = nI j := nI_pred j
    rw [e1] at hl
    refine lv_iload hx hb d_MB_addLong_5 (lv_at hl 0 rfl) ?_
    refine lv_if_lt (tgt := 28) hx hb d_MB_addLong_7 (by decide) (fun h => absurd h (nI_pos (by omega))) (fun _ => ?_)
    refine lv_aload_n hx hb d_MB_addLong_10 rfl (lv_at hl 1 rfl) ?_
    refine lv_lload_n hx hb d_MB_addLong_11 rfl (lv_at hl 2 rfl) ?_
    refine lv_bipush (v := 8) hx hb d_MB_addLong_12 (by decide +kernel) ?_
    refine lv_iload hx hb d_MB_addLong_14 (lv_at hl 0 rfl) ?_
    refine lv_imul hx hb d_MB_addLong_16 ?_
    refine lv_lshr hx hb d_MB_addLong_17 rfl ?_
    refine lv_l2i hx hb d_MB_addLong_18 rfl ?_
    refine lv_topi (fun z _ => ?_)
    have hk : n - (j + 1) < 16 := by omega
    refine ax_V (ci := 2) (q0 := 0) (k := 1) (As := [.int z]) (rest := []) (wr := []) rfl hx hb hml hown hts g_wm (mK_bl dC dI ca) (c_MB_add l dC dI ca h0 qa f (n - (j + 1)) hk z) xm_190 xm_191 xm_2 xm_193 xm_192 (by decide +kernel) rfl hfr hlo hl.1 (Nat.le_of_ble_eq_true rfl) (mK_up hK) hK.1 hP hD hS hA rfl rfl [0, 1] [] rfl (by decide) rfl rfl (by decide) (by decide) (Nat.zero_le _) (Nat.zero_le _) d_MB_addLong_19 (fun v f2 H locs hp hP hD hS => ?_)
    obtain rfl : v = none := hp
    have e2 : n - (j + 1) + 1 = n - j := by omega
    have hP : va_P (dC, dI) classes [(h0, .inr (2, [.ref qa, .int (nI (n - (j + 1) + 1))])), (qa, .inl (ca 0, 16, .inl f2))] H := hP
    have hD : va_D A [(h0, .inr (2, [.ref qa, .int (nI (n - (j + 1) + 1))])), (qa, .inl (ca 0, 16, .inl f2))] := hD
    rw [e2] at hP hD
    refine W.eq (g2 := F0 m 22 ls []) rfl ?_
    refine lv_iinc (v := nI j - 1) (lv' := [(4, .int (nI j - 1)), (0, .ref h0), (1, .long x), (3, .int n3)]) hx hb d_MB_addLong_22 hl (k := 0) rfl (by rw [Int32.sub_eq_add_neg]; rfl) (by decide) rfl (fun ls hl => ?_)
    refine lv_goto (tgt := 5) hx hb d_MB_addLong_25 (by decide) ?_
    exact ih (by omega) f2 H locs ls hP hD hS hl
set_option maxHeartbeats 4000000 in
theorem c_MB_addLong (l : Launch) (dC : Nat → ClassId) (dI : Nat → Nat → Nat) (ca : Nat → ClassId) (h0 qa : Nat) (f : Nat → Int32) (x : Int64) (n : Nat) (hn : n ≤ 8) : CT l classes (dC, dI) (mK dC dI ca) wm y_MB_addLong b_MB_addLong 5 none 1 23 0 0 [.ref h0, .long x, .int (nI n)] [(h0, .inr (2, [.ref qa, .int 0])), (qa, .inl (ca 0, 16, .inl f))] (fun (v : Option Value) (_ : Nat → Int32) => v = none) (fun (f2 : Nat → Int32) => [(h0, .inr (2, [.ref qa, .int (nI n)])), (qa, .inl (ca 0, 16, .inl f2))]) := by
  refine ax_of (by decide) (Nat.le_of_ble_eq_true rfl) ?_
  intro p e s m below meth c A ls hAt hK hP hD hS hA hl
  obtain ⟨hx, hb, hr, hml, hown, hts, hlocks, hin⟩ := hAt
  have hl : lv_has ls 5 [(0, .ref h0), (1, .long x), (3, .int (nI n))] := hl
  refine lv_iload_n hx hb d_MB_addLong_0 rfl (lv_at hl 2 rfl) ?_
  refine lv_iconst (v := 1) hx hb d_MB_addLong_1 (by decide) ?_
  refine lv_isub hx hb d_MB_addLong_2 ?_
  refine lv_istore (lv' := [(4, .int (nI n - 1)), (0, .ref h0), (1, .long x), (3, .int (nI n))]) hx hb d_MB_addLong_3 hl (by decide) rfl (fun ls hl => ?_)
  have e1 : n - n = 0 := Nat.sub_self n
  refine lp_MB_addLong l dC dI ca h0 qa x n hn hx hb hml hown hts hK hA (Nat.le_of_ble_eq_true rfl) (Nat.le_of_ble_eq_true rfl) ?_ n (Nat.le_refl n) f s.heap [] ls (by rw [e1]; exact hP) (by rw [e1]; exact hD) hS hl
  intro f2 H locs ls hP hD hS
  exact ax_vret hx hb hr hlocks hP hD hS f2 rfl [0, 1] rfl (by decide) rfl (Nat.le_refl _) (Nat.le_refl _) d_MB_addLong_28
theorem d_MM_feed_0 : decode b_MM_feed 0 = .ok (.aload_n 0, 1) := by decide +kernel
theorem d_MM_feed_1 : decode b_MM_feed 1 = .ok (.iconst 0, 1) := by decide +kernel
theorem d_MM_feed_2 : decode b_MM_feed 2 = .ok (.putfield 343, 3) := by decide +kernel
theorem d_MM_feed_5 : decode b_MM_feed 5 = .ok (.iload_n 3, 1) := by decide +kernel
theorem d_MM_feed_6 : decode b_MM_feed 6 = .ok (.i2l, 1) := by decide +kernel
theorem d_MM_feed_7 : decode b_MM_feed 7 = .ok (.lconst 1, 1) := by decide +kernel
theorem d_MM_feed_8 : decode b_MM_feed 8 = .ok (.ldc2_w 347, 3) := by decide +kernel
theorem d_MM_feed_11 : decode b_MM_feed 11 = .ok (.invokestatic 349, 3) := by decide +kernel
theorem d_MM_feed_14 : decode b_MM_feed 14 = .ok (.ifCond .eq 18, 3) := by decide +kernel
theorem d_MM_feed_17 : decode b_MM_feed 17 = .ok (.aload_n 0, 1) := by decide +kernel
theorem d_MM_feed_18 : decode b_MM_feed 18 = .ok (.getfield 19, 3) := by decide +kernel
theorem d_MM_feed_21 : decode b_MM_feed 21 = .ok (.getfield 353, 3) := by decide +kernel
theorem d_MM_feed_24 : decode b_MM_feed 24 = .ok (.iload_n 3, 1) := by decide +kernel
theorem d_MM_feed_25 : decode b_MM_feed 25 = .ok (.iadd, 1) := by decide +kernel
theorem d_MM_feed_26 : decode b_MM_feed 26 = .ok (.ldc_w 356, 3) := by decide +kernel
theorem d_MM_feed_29 : decode b_MM_feed 29 = .ok (.if_icmp .le 5, 3) := by decide +kernel
theorem d_MM_feed_32 : decode b_MM_feed 32 = .ok (.iconst (-1), 1) := by decide +kernel
theorem d_MM_feed_33 : decode b_MM_feed 33 = .ok (.ireturn, 1) := by decide +kernel
theorem d_MM_feed_34 : decode b_MM_feed 34 = .ok (.aload_n 0, 1) := by decide +kernel
theorem d_MM_feed_35 : decode b_MM_feed 35 = .ok (.getfield 19, 3) := by decide +kernel
theorem d_MM_feed_38 : decode b_MM_feed 38 = .ok (.lload_n 1, 1) := by decide +kernel
theorem d_MM_feed_39 : decode b_MM_feed 39 = .ok (.iload_n 3, 1) := by decide +kernel
theorem d_MM_feed_40 : decode b_MM_feed 40 = .ok (.invokevirtual 357, 3) := by decide +kernel
theorem d_MM_feed_43 : decode b_MM_feed 43 = .ok (.aload_n 0, 1) := by decide +kernel
theorem d_MM_feed_44 : decode b_MM_feed 44 = .ok (.getfield 19, 3) := by decide +kernel
theorem d_MM_feed_47 : decode b_MM_feed 47 = .ok (.getfield 353, 3) := by decide +kernel
theorem d_MM_feed_50 : decode b_MM_feed 50 = .ok (.ireturn, 1) := by decide +kernel
theorem n8_of {n : Int32} (h : 1 ≤ n.toInt64 ∧ n.toInt64 ≤ 8) : ∃ k : Nat, k ≤ 8 ∧ n = nI k := by
  have h1 := Int64.le_iff_toInt_le.mp h.1
  have h2 := Int64.le_iff_toInt_le.mp h.2
  rw [Int32.toInt_toInt64] at h1 h2
  have e1 : (1 : Int64).toInt = 1 := by decide
  have e2 : (8 : Int64).toInt = 8 := by decide
  refine ⟨n.toInt.toNat, by omega, Int32.toInt_inj.mp ?_⟩
  rw [nI_toInt (by omega)]
  omega
set_option maxHeartbeats 4000000 in
set_option maxRecDepth 100000 in
theorem c_MM_feed (l : Launch) (dC : Nat → ClassId) (dI : Nat → Nat → Nat) (ca : Nat → ClassId) (h0 : Nat) (q : Nat → Nat) (th : Int32) (qa : Nat) (x : Int64) (n : Int32) : CT l classes (dC, dI) (mK dC dI ca) wm y_MM_feed b_MM_feed 4 (some (.int)) 2 47 0 0 [.ref h0, .long x, .int n] [(h0, .inr (0, mF q th)), (q 2, .inr (2, [.ref qa, .int 0])), (qa, .inl (ca 0, 16, .inl (fun _ => 0)))] (fun (v : Option Value) (_ : Unit) => ((1 ≤ n.toInt64 ∧ n.toInt64 ≤ 8) ∧ v = some (.int n)) ∨ (¬ (1 ≤ n.toInt64 ∧ n.toInt64 ≤ 8) ∧ v = some (.int (-1)))) (fun _ => [(h0, .inr (0, mF q 0))]) := by
  refine ax_of (by decide) (Nat.le_of_ble_eq_true rfl) ?_
  intro p e s m below meth c A ls hAt hK hP hD hS hA hl
  obtain ⟨hx, hb, hr, hml, hown, hts, hlocks, hin⟩ := hAt
  have hl : lv_has ls 4 [(0, .ref h0), (1, .long x), (3, .int n)] := hl
  refine lv_aload_n hx hb d_MM_feed_0 rfl (lv_at hl 0 rfl) ?_
  refine lv_iconst (v := 0) hx hb d_MM_feed_1 (by decide) ?_
  refine va_put (D := (dC, dI)) (ci := 0) (v := .int 0) (ty := .int) (C := R_MM) (T := F_MM) (N := 132) hx hb hts i_MM t_MM t_MM_ok n_MM hown hK.1 hP hD hS 0 rfl rfl 0 (by decide) (hts _ xm_73) (fun _ h9 => h9) rfl (by decide +kernel) rfl rfl (Nat.le_of_ble_eq_true rfl) d_MM_feed_2 (fun H locs hP hD hS => ?_)
  have hP : va_P (dC, dI) classes [(h0, .inr (0, mF q 0)), (q 2, .inr (2, [.ref qa, .int 0])), (qa, .inl (ca 0, 16, .inl (fun _ => 0)))] H := hP
  have hD : va_D A [(h0, .inr (0, mF q 0)), (q 2, .inr (2, [.ref qa, .int 0])), (qa, .inl (ca 0, 16, .inl (fun _ => 0)))] := hD
  refine lv_iload_n hx hb d_MM_feed_5 rfl (lv_at hl 2 rfl) ?_
  refine lv_i2l hx hb d_MM_feed_6 rfl ?_
  refine lv_lconst (v := 1) hx hb d_MM_feed_7 (by decide) ?_
  refine lv_ldc2 (v := 8) hx hb hown (hts _ xm_181) d_MM_feed_8 ?_
  refine ax_St (k := 3) (As := [.long n.toInt64, .long 1, .long 8]) (rest := []) (wr := [(h0, .inr (0, mF q 0)), (q 2, .inr (2, [.ref qa, .int 0])), (qa, .inl (ca 0, 16, .inl (fun _ => 0)))]) rfl hx hb hml hown hts g_wm (mK_bl dC dI ca) (c_MM_in l dC dI ca n.toInt64 1 8) xm_182 xm_183 xm_0 xm_184 (by decide +kernel) rfl (Nat.le_of_ble_eq_true rfl) (Nat.le_of_ble_eq_true rfl) hl.1 (Nat.le_of_ble_eq_true rfl) (mK_up hK) hP hD hS hA [] [0, 1, 2] rfl (by decide) rfl rfl (by decide) (by decide) (Nat.le_of_ble_eq_true rfl) (Nat.le_of_ble_eq_true rfl) d_MM_feed_11 (fun v _ H locs hp hP hD hS => ?_)
  have hP : va_P (dC, dI) classes [(h0, .inr (0, mF q 0)), (q 2, .inr (2, [.ref qa, .int 0])), (qa, .inl (ca 0, 16, .inl (fun _ => 0)))] H := hP
  have hD : va_D A [(h0, .inr (0, mF q 0)), (q 2, .inr (2, [.ref qa, .int 0])), (qa, .inl (ca 0, 16, .inl (fun _ => 0)))] := hD
  rcases hp with ⟨rfl, hc⟩ | ⟨rfl, hc⟩
  · refine W.eq (g2 := F0 m 14 ls [.int 1]) rfl ?_
    refine lv_if_eq (tgt := 32) hx hb d_MM_feed_14 (by decide) (fun h => absurd h (by decide)) (fun _ => ?_)
    refine lv_aload_n hx hb d_MM_feed_17 rfl (lv_at hl 0 rfl) ?_
    refine va_get (D := (dC, dI)) (ci := 0) (v := .ref (q 2)) (C := R_MM) (T := F_MM) (N := 132) hx hb hts i_MM hown hK.1 hP 0 rfl rfl 2 (by decide) (hts _ xm_75) (fun _ h9 => h9) rfl d_MM_feed_18 ?_
    refine va_getN (D := (dC, dI)) (ci := 2) (v := .int 0) (C := R_MB) (T := F_MB) (N := 2) hx hb hts i_MB hown hK.1 hP 1 rfl rfl 1 (by decide) (va_Nw.use rfl (hK.2.1 _ zm_6)) (fun _ h9 => h9) rfl d_MM_feed_21 ?_
    refine lv_iload_n hx hb d_MM_feed_24 rfl (lv_at hl 2 rfl) ?_
    refine lv_iadd hx hb d_MM_feed_25 ?_
    refine lv_topi (fun z e9 => ?_)
    obtain rfl : z = n := by rw [e9, Int32.zero_add]
    obtain ⟨k, hk, rfl⟩ := n8_of hc
    refine lv_ldcw (v := 65536) hx hb hown (hts _ xm_185) d_MM_feed_26 ?_
    refine lv_icmp_le (tgt := 34) hx hb d_MM_feed_29 (by decide) (fun _ => ?_) (fun h => absurd (show nI k ≤ nI 65536 from nI_le (by omega) (by omega)) h)
    refine lv_aload_n hx hb d_MM_feed_34 rfl (lv_at hl 0 rfl) ?_
    refine va_get (D := (dC, dI)) (ci := 0) (v := .ref (q 2)) (C := R_MM) (T := F_MM) (N := 132) hx hb hts i_MM hown hK.1 hP 0 rfl rfl 2 (by decide) (hts _ xm_75) (fun _ h9 => h9) rfl d_MM_feed_35 ?_
    refine lv_lload_n hx hb d_MM_feed_38 rfl (lv_at hl 1 rfl) ?_
    refine lv_iload_n hx hb d_MM_feed_39 rfl (lv_at hl 2 rfl) ?_
    refine ax_V (ci := 2) (q0 := 0) (k := 2) (As := [.long x, .int (nI k)]) (rest := []) (wr := [(h0, .inr (0, mF q 0))]) rfl hx hb hml hown hts g_wm (mK_bl dC dI ca) (c_MB_addLong l dC dI ca (q 2) qa (fun _ => 0) x k hk) xm_186 xm_187 xm_2 xm_189 xm_188 (by decide +kernel) rfl (Nat.le_of_ble_eq_true rfl) (Nat.le_of_ble_eq_true rfl) hl.1 (Nat.le_of_ble_eq_true rfl) (mK_up hK) hK.1 hP hD hS hA rfl rfl [1, 2] [0] rfl (by decide) rfl rfl (by decide) (by decide) (Nat.le_of_ble_eq_true rfl) (Nat.le_of_ble_eq_true rfl) d_MM_feed_40 (fun v f2 H locs hp hP hD hS => ?_)
    obtain rfl : v = none := hp
    have hP : va_P (dC, dI) classes [(h0, .inr (0, mF q 0)), (q 2, .inr (2, [.ref qa, .int (nI k)])), (qa, .inl (ca 0, 16, .inl f2))] H := hP
    have hD : va_D A [(h0, .inr (0, mF q 0)), (q 2, .inr (2, [.ref qa, .int (nI k)])), (qa, .inl (ca 0, 16, .inl f2))] := hD
    refine W.eq (g2 := F0 m 43 ls []) rfl ?_
    refine lv_aload_n hx hb d_MM_feed_43 rfl (lv_at hl 0 rfl) ?_
    refine va_get (D := (dC, dI)) (ci := 0) (v := .ref (q 2)) (C := R_MM) (T := F_MM) (N := 132) hx hb hts i_MM hown hK.1 hP 0 rfl rfl 2 (by decide) (hts _ xm_75) (fun _ h9 => h9) rfl d_MM_feed_44 ?_
    refine va_getN (D := (dC, dI)) (ci := 2) (v := .int (nI k)) (C := R_MB) (T := F_MB) (N := 2) hx hb hts i_MB hown hK.1 hP 1 rfl rfl 1 (by decide) (va_Nw.use rfl (hK.2.1 _ zm_6)) (fun _ h9 => h9) rfl d_MM_feed_47 ?_
    exact ax_iret hx hb hr hlocks hP hD hS () (Or.inl ⟨hc, rfl⟩) [0] rfl (by decide) rfl (Nat.le_of_ble_eq_true rfl) (Nat.le_of_ble_eq_true rfl) d_MM_feed_50
  · refine W.eq (g2 := F0 m 14 ls [.int 0]) rfl ?_
    refine lv_if_eq (tgt := 32) hx hb d_MM_feed_14 (by decide) (fun _ => ?_) (fun h => absurd (by decide) h)
    refine lv_iconst (v := (-1)) hx hb d_MM_feed_32 (by decide) ?_
    exact ax_iret hx hb hr hlocks hP hD hS () (Or.inr ⟨hc, rfl⟩) [0] rfl (by decide) rfl (Nat.le_of_ble_eq_true rfl) (Nat.le_of_ble_eq_true rfl) d_MM_feed_33
end
section
/-! METHODS THAT THROW, AND METHODS THAT CATCH -/
section AXT
variable {E : CtlPost} {e : Env} {d : Bool} {acts : List Action} {s : State} {f : JFrame} {a : Addr} {Q : Handler → Pre}
/-- a catch type that may have to be resolved first, of a class in the tables: it takes the exception -/
theorem ax_goCold {x : ExceptionTableEntry} {t : List ExceptionTableEntry} {c : ClassId} {vm' : Vm} {cell : Cell} (hx : covers x f.pc = true) (h0 : x.catchType ≠ 0)
    (hg : (Jvm.resolveClass f.method.cls x.catchType).Gives e.toSetting s.vm (.ok c) vm') (hsz : vm'.classes.size ≤ s.vm.classes.size) (hcell : s.heap[a]? = some cell) (hobj : ∀ k, cell.vm ≠ .statics k)
    (hk : ∃ k, vm'.classes[cell.cls]? = some k) (hc : ∃ k, vm'.classes[c]? = some k) (hfit : vm'.assignable cell.cls c = true) :
    wp (findHandler.go f a (x :: t)) Q E e d acts s ↔ Q (.found x.handlerPc) d acts (s.setVm vm') := by
  simp only [covers] at hx
  obtain ⟨ha, ht⟩ := hg.op (op := VmOp.resolveClass f.method.cls x.catchType) rfl
  simp [findHandler.go, hx, h0, ha, ht, hsz, hcell, hobj, hk, hc, hfit, VmOp.dirties, VmOp.acts]
/-- .. and one that does not take it -/
theorem ax_goColdNo {x : ExceptionTableEntry} {t : List ExceptionTableEntry} {c : ClassId} {vm' : Vm} {cell : Cell} (hx : covers x f.pc = true) (h0 : x.catchType ≠ 0)
    (hg : (Jvm.resolveClass f.method.cls x.catchType).Gives e.toSetting s.vm (.ok c) vm') (hsz : vm'.classes.size ≤ s.vm.classes.size) (hcell : s.heap[a]? = some cell) (hobj : ∀ k, cell.vm ≠ .statics k)
    (hk : ∃ k, vm'.classes[cell.cls]? = some k) (hc : ∃ k, vm'.classes[c]? = some k) (hfit : vm'.assignable cell.cls c = false) :
    wp (findHandler.go f a (x :: t)) Q E e d acts s ↔ wp (findHandler.go f a t) Q E e d acts (s.setVm vm') := by
  simp only [covers] at hx
  obtain ⟨ha, ht⟩ := hg.op (op := VmOp.resolveClass f.method.cls x.catchType) rfl
  simp [findHandler.go, hx, h0, ha, ht, hsz, hcell, hobj, hk, hc, hfit, VmOp.dirties, VmOp.acts]
end AXT
/-- the search for a handler, with what it notes in the tables -/
def ax_Fnd (e : Env) (s : State) (f : JFrame) (a : Addr) (h : Handler) (vm' : Vm) : Prop :=
  ∀ (Q : Handler → Pre) (E : CtlPost) (d : Bool) (acts : List Action), wp (findHandler f a) Q E e d acts s ↔ Q h d acts (s.setVm vm')
theorem ax_stepCatch {e : Env} {s : State} {a : Addr} {f : JFrame} {r : List Frame} {pc : Nat} {vm' : Vm} (hfind : ax_Fnd e s f a (.found pc) vm') :
    (stepThrowing e s a (.java f :: r)).Is ((s.setVm vm').setFrames (.java { f with pc := pc, stack := [.ref a] } :: r)) [] := by
  simp only [stepThrowing, searchFrame, vmDo]
  generalize hr : Sem.go _ e false [] s = res
  obtain ⟨as, rfl, ha⟩ := Sem.eq_ok_of hr (a := Handler.found pc) (s' := s.setVm vm') (acts' := []) (by simp [hfind _ _ _ _])
  exact ⟨rfl, ha⟩
section AXU
variable {tb : Tables} {e : Env} {s target : State} {g : JFrame} {c : Code} {below : List Frame} {a : Addr}
theorem ax_caught (h : At s g.method c below) {pc : Nat} {vm' : Vm} (hfind : ax_Fnd e ((s.setTop g).pushFrame (.throwing a)) g a (.found pc) vm')
    (hrest : Steps tb e below ((s.setVm vm').setTop { g with pc := pc, stack := [.ref a] }) target) :
    Steps tb e below ((s.setTop g).pushFrame (.throwing a)) target := by
  obtain ⟨hgo, hw⟩ := h.throwing a
  refine Steps.head hgo hw ?_
  rw [stepThread_throwing (frames_entered h.top _), (ax_stepCatch (s := (s.setTop g).pushFrame (.throwing a)) hfind).1]
  obtain ⟨g₀, hg⟩ := Option.isSome_iff_exists.mp h.top
  obtain ⟨r, hr⟩ := State.topJava?_eq_some.mp hg
  have hr2 : (s.setVm vm').frames = .java g₀ :: r := hr
  rw [State.setTop_of_frames _ hr2] at hrest
  have e1 : (((s.setTop g).pushFrame (.throwing a)).setVm vm').setFrames (.java { g with pc := pc, stack := [.ref a] } :: s.frames.tail) = (s.setVm vm').setFrames (.java { g with pc := pc, stack := [.ref a] } :: r) := by
    rw [State.pushFrame, State.setTop_of_frames _ hr, State.setFrames_setFrames, hr]
    show ((s.setFrames _).setVm vm').setFrames _ = _
    first | rfl | (rw [← State.setFrames_setFrames (s := s.setVm vm')]; rfl)
  rw [e1]
  exact hrest
end AXU
/-- the end of a method that throws: as FrameEnd of one that returns -/
def ax_TE (first : State) (o : Outcome) (t : State) (L : List Loc) (k n : Nat) : Prop := (∃ x, o = .threw x) ∧ first.WarmedH t.vm ∧ first.sameButNew ({ t with vm := first.vm } : State) L k n
def MetT (l : Launch) (y : MethodName) (ws : List Cond) (rm : Room) (Pc : Array Value → State → Prop) (Qc : Array Value → State → Outcome → State → Prop) (mc ms : Nat) (free : Addr → Prop) : Prop :=
  MetFree l y (headSpec ws rm) Pc (fun _ _ _ _ _ => True) (fun a st o t => Qc a st o t ∧ ∃ L, ax_TE st o t L mc ms ∧ ∀ q ∈ L, free q.base)
def MQT (below : List Frame) (Qc : Array Value → State → Outcome → State → Prop) (a : Array Value) (s : State) (mc ms : Nat) (free : Addr → Prop) : State → Prop := fun t =>
  ∃ o, t.status = .running ∧ Ended t below o ∧ Qc a s o t ∧ ∃ L, ax_TE s o t L mc ms ∧ ∀ q ∈ L, free q.base
theorem MetT.ofW {l : Launch} {y : MethodName} {ws ws' : List Cond} {rm : Room} {Pc : Array Value → State → Prop} {Qc : Array Value → State → Outcome → State → Prop} {mc ms : Nat} {free : Addr → Prop} {cc : ByteArray} {maxL : Nat} {ret : Option FieldType}
    (hy : plainName y.cls = true) (hw : ws = Cond.code y cc maxL ret :: ws')
    (body : ∀ p e s m args below meth c s₁, BodyLoose p l y (headSpec ws rm) cc maxL ret e s m args below meth c s₁ → c.maxLocals = maxL → Pc args s →
      W p l e (headSpec ws rm).room s m args below meth c s.heap [] 0 0 (MQT below Qc args s mc ms free) (entryFrame m args maxL)) : MetT l y ws rm Pc Qc mc ms free := by
  refine MetFree.of_bodyS (code := cc) (maxLocals := maxL) (ret := ret) hy ?_ ?_
  · intro args s m h hn
    obtain ⟨meth, c, h1, h2, h3, h4, h5, h6, -, -⟩ := Cond.code_spec hn (atoms_spec (ws := ws) h _ (by rw [hw]; exact List.mem_cons_self))
    exact ⟨meth, c, h1, h2, h3, h4, h5, h6⟩
  · intro p e s m args below meth c s₁ B hml hP _
    have hh0 : s₁.heap = s.heap := by rw [B.state]; rfl
    obtain ⟨t, a1, o, b1, b2, b3⟩ := body p e s m args below meth c s₁ B hml hP s₁ hh0 (Stand.of_body B)
    exact ⟨t, o, a1, b1, b2, ⟨b3.1, b3.2⟩⟩
section AXV
variable {p : Program} {l : Launch} {e : Env} {R : Room} {s : State} {m : MethodId} {args : Array Value} {below : List Frame} {meth : Method} {c : Code} {T : State} {locs : List Loc} {cells slots : Nat}
/-- behind the instruction's own step: the callee throws; the note lies over the caller's frame -/
theorem ax_throws (X : Stand p l e R s m args below meth c T locs cells slots) {y : MethodName} {ws : List Cond} {rm : Room} {Pc : Array Value → State → Prop} {Qc : Array Value → State → Outcome → State → Prop} {mc ms : Nat} {free : Addr → Prop} {bytes : ByteArray} {maxL : Nat} {ret : Option FieldType}
    (hM : MetT l y ws rm Pc Qc mc ms free) (hrc : rm.cells = mc) (hrs : rm.slots = ms) (hfr : rm.frames + 1 ≤ R.frames) (hlo : 8 + (maxL + 11) + rm.locals ≤ R.locals)
    (hws : ∀ w ∈ ws, ∀ (a' : Array Value) (U : State), s.WarmedH U.vm → w.before a' U = true) (hcw : Cond.code y bytes maxL ret ∈ ws) (hinit : ∀ (a' : Array Value) (U : State), s.WarmedH U.vm → (Cond.initialized y.cls).before a' U = true)
    {g : JFrame} (hg : g.method = m) (hsize : g.locals.size = c.maxLocals) {ig : Instr} {len : Nat} (hdg : decode c.code g.pc = .ok (ig, len)) (hW : 2 * g.monitorRoom + (g.stack.map fun v => v.category).sum ≤ 8) {mk : MethodId} (hn : T.methodNamed? y = some mk)
    (hc : cells + mc ≤ R.cells) (hs : slots + ms ≤ R.slots) {a : Array Value} (hP : Pc a (T.calling g mk a)) :
    ∃ (x : Addr) (t T' : State) (L : List Loc), Stand p l e R s m args below meth c T' (locs ++ L) (cells + mc) (slots + ms) ∧ (∀ q ∈ L, free q.base) ∧ T'.heap = t.heap ∧ T'.vm = t.vm ∧ Qc a (T.calling g mk a) (.threw x) t ∧
      ∀ acts, Steps p.tables e below (doInvoke e (T.setTop g) acts mk a).1 ((T'.setTop g).pushFrame (.throwing x)) := by
  have h2 := hws _ hcw a T X.warmed
  have h3 := hinit a T X.warmed
  obtain ⟨methY, cY, hmY, hcY, -, hlY, -, -, -, -⟩ := Cond.code_spec hn h2
  obtain ⟨kY, hkY, -⟩ := className_of_methodNamed hn
  have hinitY : kY.init = .initialized := Cond.initialized_spec (findClass_of_methodNamed hn) hkY h3
  have h : At T g.method c below := by rw [hg]; exact X.here
  have happ : (headSpec ws rm).appliesLoose y e.platform (T.calling g mk a) = true :=
    Spec.appliesLoose_calling (g := g) h hdg hn hkY hinitY
      (X.room_calling (g := g) (R' := rm) hsize hmY hcY hfr (by rw [hlY]; omega) (by rw [hrc]; exact hc) (by rw [hrs]; exact hs)) (atoms_intro fun w hw => hws w hw _ _ X.warmed)
  obtain ⟨mid, hmid⟩ := h.above
  have hfr2 : (T.setTop g).frames = (.java g :: mid) ++ below := by rw [State.frames_setTop' g h.top, hmid]; rfl
  obtain ⟨o, s₂, hsteps, -, hend, hq, L, hfe, hL⟩ := Steps.callFree hM p X.admits X.cas X.clock (acts := []) hfr2 happ hP trivial
  rw [State.frames_setTop' g h.top] at hend
  obtain ⟨⟨x, rfl⟩, hW₂, e2, q2, q3, q4, q5, q6⟩ := id hfe
  have hW' : T.WarmedH s₂.vm := hW₂
  have e3 : s₂ = ({ (T.calling g mk a).setFrames s₂.frames with heap := s₂.heap, slotsUsed := s₂.slotsUsed } : State).setVm s₂.vm := by
    have h9 : s₂ = ({ s₂ with vm := (T.calling g mk a).vm } : State).setVm s₂.vm := rfl
    have e2 : ({ s₂ with vm := (T.calling g mk a).vm } : State) = { (T.calling g mk a).setFrames s₂.frames with heap := s₂.heap, slotsUsed := s₂.slotsUsed } := e2
    rw [e2] at h9
    exact h9
  have hf₂ : s₂.frames = .throwing x :: .java g :: T.frames.tail := hend
  obtain ⟨g₀, hg0⟩ := Option.isSome_iff_exists.mp h.top
  obtain ⟨r, hr⟩ := State.topJava?_eq_some.mp hg0
  have hs₂ : s₂ = ((({ T with heap := s₂.heap, slotsUsed := s₂.slotsUsed } : State).setVm s₂.vm).setTop g).pushFrame (.throwing x) := by
    have hr' : (({ T with heap := s₂.heap, slotsUsed := s₂.slotsUsed } : State).setVm s₂.vm).frames = .java g₀ :: r := hr
    refine e3.trans ?_
    rw [hf₂, State.calling_eq h.top, State.setFrames_setFrames, State.pushFrame, State.frames_setTop _ hr', State.setTop_of_frames _ hr', State.setFrames_setFrames, hr]
    rfl
  have hsame : T.sameButNew ({ T with heap := s₂.heap, slotsUsed := s₂.slotsUsed } : State) L mc ms := by
    refine ⟨?_, q2, q3, q4, q5, q6⟩
    obtain ⟨t, ht, -⟩ := State.frames_cons hr
    show ({ T with heap := s₂.heap, slotsUsed := s₂.slotsUsed } : State) = { T.setFrames T.frames with heap := s₂.heap, slotsUsed := s₂.slotsUsed }
    rw [State.setFrames_self ht]
  subst hg
  refine ⟨x, s₂, ({ T with heap := s₂.heap, slotsUsed := s₂.slotsUsed } : State).setVm s₂.vm, L,
    ⟨X.admits, X.cas, X.clock, X.frames, X.room, X.hears, X.method, X.code, (X.here.setHeapUsed s₂.heap s₂.slotsUsed).setVm hW'.alike, X.tail, State.WarmedH.trans X.warmed hW', X.limits, X.bytes, X.same.trans (hsame.setVm s.vm)⟩, hL, rfl, rfl, hq, fun acts => ?_⟩
  rw [← hs₂, doInvoke_state]
  exact hsteps
end AXV
end
section
/-! THE CONTRACT OF A METHOD THAT THROWS, AND CALLS OF IT -/
def ax_QT {S : Type} (post : Addr → S → Prop) (B : S → State → Prop) (A : Nat → Prop) : Array Value → State → Outcome → State → Prop :=
  fun _ st oc t => (∃ (x : Addr) (u : S), oc = .threw x ∧ post x u ∧ B u t) ∧ va_F A st t
def CTT {S : Type} (l : Launch) (cl : List vw_C) (D : va_G) (K : State → Prop) (Z : List Cond) (y : MethodName) (b : ByteArray) (n : Nat) (r : Option FieldType) (fr lo mc ms : Nat) (As : List Value) (ws : va_W) (post : Addr → S → Prop) (ws1 : S → va_W) : Prop :=
  ∀ sz : Nat, MetT l y (ax_w Z y b n r) ({ frames := fr, cells := mc, slots := ms, locals := lo }) (ax_Pre cl D K As ws sz) (ax_QT post (ax_B cl D (va_A ws sz) ws1) (va_A ws sz)) mc ms (va_A ws sz)
theorem ax_ofT {S : Type} {l : Launch} {cl : List vw_C} {D : va_G} {K : State → Prop} {Z : List Cond} {y : MethodName} {b : ByteArray} {n : Nat} {r : Option FieldType} {fr lo mc ms : Nat} {As : List Value} {ws : va_W} {post : Addr → S → Prop} {ws1 : S → va_W}
    (hy : plainName y.cls = true) (hn : (lg_sl As).length ≤ n)
    (body : ∀ (p : Program) (e : Env) (s : State) (m : MethodId) (below : List Frame) (meth : Method) (c : Code) (A : Nat → Prop) (ls : Array Slot), ax_At p s m meth c As.toArray Z y b n r → c.exceptionTable.isEmpty = true → K s → va_P D cl ws s.heap → va_D A ws → va_S A s.heap s.heap [] → (∀ q : Nat, s.heap.size ≤ q → A q) → (∀ q : Nat, A q → (∃ (k : Nat) (e : va_E), ws[k]? = some (q, e)) ∨ s.heap.size ≤ q) → lv_has ls n (lv_args 0 As) →
      W p l e ({ frames := fr, cells := mc, slots := ms, locals := lo }) s m As.toArray below meth c s.heap [] 0 0 (MQT below (ax_QT post (ax_B cl D A ws1) A) As.toArray s mc ms A) (F0 m 0 ls [])) :
    CTT l cl D K Z y b n r fr lo mc ms As ws post ws1 := by
  intro sz
  refine MetT.ofW (cc := b) (maxL := n) (ret := r) hy rfl ?_
  intro p e s m args below meth c s₁ B hml hv
  obtain ⟨rfl, hsz, hP, hK, hD0⟩ := hv
  subst hsz
  have hD := hD0.self (sz := s.heap.size)
  have hts0 := atoms_spec (ws := ax_w Z y b n r) B.pre
  rw [lg_entry_eq]
  exact body p e s m below meth c _ _ ⟨B.exec, B.bytes, B.returns, hml, findClass_of_methodNamed B.named, fun w h => hts0 w (List.mem_cons_of_mem _ h), B.notSynchronized, (name_of_methodNamed B.named B.method).1⟩ (B.noHandlers (hts0 _ List.mem_cons_self)) hK hP hD va_S.rf (fun q h => Or.inr h) (fun q h => h) (lv_entry As hn)
section AXW
variable {p : Program} {l : Launch} {e : Env} {R : Room} {s : State} {m : MethodId} {args : Array Value} {below : List Frame} {meth : Method} {c : Code} {H : Heap} {locs : List Loc} {cells slots : Nat} {Q : State → Prop}
variable {cl : List vw_C} {D : va_G} {K : State → Prop} {tys : List (ClassId × FieldType)} {Z : List Cond} {A : Nat → Prop} {ws wc wr : va_W} {H0 : Heap} {cc : ByteArray} {pc : Nat} {ls : Array Slot} {rest : List Value}
/-- athrow of an object that is there, in a method without handlers -/
theorem ax_athrow {S : Type} {post : Addr → S → Prop} {ws1 : S → va_W} {mc ms : Nat} {x : Addr} (hx : p.tables.exec = Jvm.exec) (hb : c.code = cc) (hlocks : meth.locks = false) (hne : c.exceptionTable.isEmpty = true) (hP : va_P D cl ws H) (hD : va_D A ws) (hS : va_S A s.heap H locs) (u : S) (hp : post x u) (is : List Nat) (h1 : is.filterMap (fun i => ws[i]?) = ws1 u) (hn : va_nd is = true) (h2 : is.map (fun i => ws[i]?) = (ws1 u).map some) (hc : cells ≤ mc) (hs : slots ≤ ms) (hdg : decode cc pc = .ok (.athrow, 1)) :
    W p l e R s m args below meth c H locs cells slots (MQT below (ax_QT post (ax_B cl D A ws1) A) args s mc ms A) (F0 m pc ls (.ref x :: rest)) := by
  refine W.widen hc hs ?_
  intro T hT X
  obtain ⟨a1, a2, a3, a4, a5⟩ := X.athrowLeaves hx (g := F0 m pc ls (.ref x :: rest)) rfl rfl rfl (covers_of_empty hne _) rfl (by rw [hb]; exact hdg) hlocks
  have hh : (T.setFrames (.throwing x :: below)).heap = H := hT
  exact ⟨_, a1, .threw x, a2, a3, ⟨⟨x, u, rfl, hp, by rw [hh]; exact hP.sub is h1, hD.sub is hn h2⟩, hS.F hh⟩, locs, ⟨⟨x, rfl⟩, a4, a5⟩, hS.2.2⟩
/-- invokevirtual of a method that throws: the note lies over the caller's frame -/
theorem ax_runVT {S : Type} {post : Addr → S → Prop} {ws1 : S → va_W} {y : MethodName} {b : ByteArray} {n fr lo mc ms nL index k ci q0 N : Nat} {Tt : u_T} {fs : List Value} {ret : Option FieldType} {As st0 : List Value} {a : Nat} {own : String} (hst : st0 = As.reverse ++ .ref a :: rest)
    (hx : p.tables.exec = Jvm.exec) (hb : c.code = cc) (hml : c.maxLocals = nL) (hown : s.vm.findClass own = some m.cls) (hts : ∀ w ∈ Z, w.before args s = true) (hZ : ax_good Z) (kp : ax_bl K)
    (C : CTT l cl D K Z y b n ret fr lo mc ms (.ref a :: As) wc post ws1) (w1 : Cond.methodLink own index y ∈ Z) (w2 : Cond.instanceMethod y ∈ Z) (w3 : Cond.initialized y.cls ∈ Z) (w4 : Cond.code y b n ret ∈ Z) (w5 : Cond.selects y.cls y y ∈ Z)
    (hd : y.cls ≠ "java/lang/invoke/MethodHandle" ∧ y.cls ≠ "java/lang/invoke/VarHandle" ∧ (parseMethodDescriptor y.desc).map (fun d => d.parameters.length) = some k) (hk : As.length = k) (hfr : fr + 1 ≤ R.frames) (hlo : 8 + (n + 11) + lo ≤ R.locals) (hls : ls.size = nL) (hrest : (rest.map fun v => v.category).sum ≤ 8)
    (hK : ∀ U : State, U.heap = H → s.WarmedH U.vm → K U) (hk9 : va_K D cl tys s) (hP : va_P D cl ws H) (hD : va_D A ws) (hS : va_S A H0 H locs) (hA : ∀ q, H0.size ≤ q → A q) (hci : cl[ci]? = some (y.cls, Tt, N)) (hcq : wc[q0]? = some (a, .inr (ci, fs))) (isC isR : List Nat) (hCf : isC.filterMap (fun i => ws[i]?) = wc) (hCn : va_nd isC = true) (hC : isC.map (fun i => ws[i]?) = wc.map some) (hR : isR.map (fun i => ws[i]?) = wr.map some) (hn : va_nd isR = true) (hdis : ∀ i ∈ isR, i ∉ isC)
    (hc : cells + mc ≤ R.cells) (hs : slots + ms ≤ R.slots) (hdg : decode cc pc = .ok (.invokevirtual index, 3)) (T : State) (hT : T.heap = H) (X : Stand p l e R s m args below meth c T locs cells slots) :
    ∃ (x : Addr) (u : S) (T' : State) (locs1 : List Loc), post x u ∧ va_P D cl (wr ++ ws1 u) T'.heap ∧ va_D A (wr ++ ws1 u) ∧ va_S A H0 T'.heap locs1 ∧ Stand p l e R s m args below meth c T' locs1 (cells + mc) (slots + ms) ∧
      ∀ target, Steps p.tables e below ((T'.setTop (F0 m pc ls rest)).pushFrame (.throwing x)) target → Steps p.tables e below (T.setTop (F0 m pc ls st0)) target := by
  have hPc := hP.sub isC hCf
  have hDc := hD.sub isC hCn hC
  obtain ⟨cellB, hcB, hoB, hclB⟩ := va_recv hk9 hPc hci hcq
  have hinst := hts _ w2
  have hcode := hts _ w4
  obtain ⟨mk, methM, hnamed, hmethM, hstM, habM⟩ := Cond.instanceMethod_spec hinst
  obtain ⟨methM', cM, hmethM', -, -, -, -, -, -, hsigM⟩ := Cond.code_spec hnamed hcode
  cases hmethM.symm.trans hmethM'
  obtain ⟨c2, r2, m2, q1, q2, q3, q4, kP, hkP, hkPi⟩ := Cond.selects_spec (hts _ w5)
  cases hclB.symm.trans q1
  cases (State.methodFound?_of_named hnamed ⟨hd.1, hd.2.1⟩).symm.trans q2
  cases hnamed.symm.trans q3
  have hselP : selectMethod e.platform s.vm cellB.cls mk = .method mk := by rw [Launch.admits_selectMethod X.admits]; exact q4
  have hlen : As.length = methM.sig.parameters.length := by
    have h2 := hd.2.2
    rw [hsigM] at h2
    exact hk.trans (Option.some.inj h2).symm
  obtain ⟨vm₁, X₁, hstep₁⟩ := X.invokevirtual hx hown (hts _ w1) hnamed hmethM hstM hkP hkPi ⟨hd.1, hd.2.1⟩ (a := a) (cell := cellB) (by rw [hT]; exact hcB)
    (fun z h => by rw [h] at hoB; cases hoB) hselP hmethM habM hkP hkPi (g := F0 m pc ls st0) rfl (argsL := As) (rest := rest) hlen hst (by rw [hb]; exact hdg)
  have hpc : ax_Pre cl D K (.ref a :: As) wc H.size (Value.ref a :: As).toArray ((T.setVm vm₁).calling (F0 m pc ls rest) mk (Value.ref a :: As).toArray) :=
    ax_blind kp _ _ _ _ ⟨rfl, by show T.heap.size = _; rw [hT], by show va_P D cl wc T.heap; rw [hT]; exact hPc, hK (T.setVm vm₁) hT X₁.warmed, hDc.weaken (fun _ _ _ _ => trivial)⟩
  obtain ⟨x, t, T', L, X', hL, e1, e2, ⟨⟨x2, u, hv, hp, hP1, hD1⟩, hz, hk1⟩, hsteps⟩ := ax_throws X₁ (C H.size) rfl rfl hfr hlo (pay_in hts (ax_goodc hZ w4)) List.mem_cons_self (fun a' U hW => word_at hW (Or.inl (by first | rfl | simp [Cond.onTables, Cond.keeps, Cond.steady])) (hts _ w3)) (g := F0 m pc ls rest) rfl (hls.trans hml.symm) (by rw [hb]; exact hdg) (lv_room hrest) (X₁.named hnamed) hc hs hpc
  cases hv
  have hh : ((T.setVm vm₁).calling (F0 m pc ls rest) mk (Value.ref a :: As).toArray).heap = H := hT
  rw [hh] at hz hk1
  have hF := va_free hD hS hA isC hC
  have hk2 : ∀ q : Nat, q < H.size → ¬ va_A wc H.size q → T'.heap[q]? = H[q]? := fun q h1 h2 => by rw [e1]; exact hk1 q h1 h2
  rw [← e1] at hP1 hz
  obtain ⟨hP2, hD2⟩ := va_join hP hD isC isR hC hR hn hdis hk2 hF hP1 hD1
  exact ⟨x, u, T', locs ++ L, hp, hP2, hD2, ⟨Nat.le_trans hS.1 hz, fun q h1 h2 => by rw [hk2 q (Nat.lt_of_lt_of_le h1 hS.1) (fun z => h2 (hF q z))]; exact hS.2.1 q h1 h2, fun q hq => by
      rcases List.mem_append.mp hq with h | h
      · exact hS.2.2 q h
      · exact hF _ (hL q h)⟩, X', fun target h => hstep₁ _ fun acts => (hsteps acts).trans h⟩
/-- .. and out of the caller, which has no handlers -/
theorem ax_VT {S S2 : Type} {post : Addr → S → Prop} {ws1 : S → va_W} {post2 : Addr → S2 → Prop} {ws2 : S2 → va_W} {mc ms mc2 ms2 : Nat} {st0 : List Value} (hlocks : meth.locks = false) (hne : c.exceptionTable.isEmpty = true)
    (hr : ∀ T : State, T.heap = H → Stand p l e R s m args below meth c T locs cells slots → ∃ (x : Addr) (u : S) (T' : State) (locs1 : List Loc), post x u ∧ va_P D cl (wr ++ ws1 u) T'.heap ∧ va_D A (wr ++ ws1 u) ∧ va_S A s.heap T'.heap locs1 ∧ Stand p l e R s m args below meth c T' locs1 (cells + mc) (slots + ms) ∧
      ∀ target, Steps p.tables e below ((T'.setTop (F0 m pc ls rest)).pushFrame (.throwing x)) target → Steps p.tables e below (T.setTop (F0 m pc ls st0)) target)
    (hc : cells + mc ≤ mc2) (hs : slots + ms ≤ ms2)
    (fin : ∀ (x : Addr) (u : S) (H1 : Heap), post x u → va_P D cl (wr ++ ws1 u) H1 → va_D A (wr ++ ws1 u) → ∃ u2 : S2, post2 x u2 ∧ va_P D cl (ws2 u2) H1 ∧ va_D A (ws2 u2)) :
    W p l e R s m args below meth c H locs cells slots (MQT below (ax_QT post2 (ax_B cl D A ws2) A) args s mc2 ms2 A) (F0 m pc ls st0) := by
  intro T hT X
  obtain ⟨x, u, T', locs1, hp, hP, hD, hS, X', st⟩ := hr T hT X
  obtain ⟨u2, hp2, hP2, hD2⟩ := fin x u T'.heap hp hP hD
  obtain ⟨a1, a2, a3, a4, a5⟩ := (stand_widen X' hc hs).leaveThrown x (g := F0 m pc ls rest) rfl rfl rfl (covers_of_empty hne _) hlocks
  have hh : (T'.setFrames (.throwing x :: below)).heap = T'.heap := rfl
  exact ⟨_, st _ a1, .threw x, a2, a3, ⟨⟨x, u2, rfl, hp2, by rw [hh]; exact hP2, hD2⟩, hS.F hh⟩, locs1, ⟨⟨x, rfl⟩, a4, a5⟩, hS.2.2⟩
/-- .. and into the caller's handler -/
theorem ax_VC {S : Type} {post : Addr → S → Prop} {ws1 : S → va_W} {mc ms hpc : Nat} {st0 : List Value}
    (hr : ∀ T : State, T.heap = H → Stand p l e R s m args below meth c T locs cells slots → ∃ (x : Addr) (u : S) (T' : State) (locs1 : List Loc), post x u ∧ va_P D cl (wr ++ ws1 u) T'.heap ∧ va_D A (wr ++ ws1 u) ∧ va_S A H0 T'.heap locs1 ∧ Stand p l e R s m args below meth c T' locs1 (cells + mc) (slots + ms) ∧
      ∀ target, Steps p.tables e below ((T'.setTop (F0 m pc ls rest)).pushFrame (.throwing x)) target → Steps p.tables e below (T.setTop (F0 m pc ls st0)) target)
    (hf : ∀ (x : Addr) (u : S) (T' : State) (locs1 : List Loc), post x u → va_P D cl (wr ++ ws1 u) T'.heap → Stand p l e R s m args below meth c T' locs1 (cells + mc) (slots + ms) → ∃ vm' : Vm, s.WarmedH vm' ∧ ax_Fnd e ((T'.setTop (F0 m pc ls rest)).pushFrame (.throwing x)) (F0 m pc ls rest) x (.found hpc) vm')
    (kk : ∀ (x : Addr) (u : S) (H1 : Heap) (locs1 : List Loc), post x u → va_P D cl (wr ++ ws1 u) H1 → va_D A (wr ++ ws1 u) → va_S A H0 H1 locs1 → W p l e R s m args below meth c H1 locs1 (cells + mc) (slots + ms) Q (F0 m hpc ls [.ref x])) :
    W p l e R s m args below meth c H locs cells slots Q (F0 m pc ls st0) := by
  intro T hT X
  obtain ⟨x, u, T', locs1, hp, hP, hD, hS, X', st⟩ := hr T hT X
  obtain ⟨vm', hW, hfn⟩ := hf x u T' locs1 hp hP X'
  obtain ⟨t, a1, b1⟩ := kk x u T'.heap locs1 hp hP hD hS (T'.setVm vm') rfl (X'.noted hW)
  exact ⟨t, st _ (ax_caught (g := F0 m pc ls rest) X'.here hfn a1), b1⟩
end AXW
end
section
/-! FINDING THE HANDLER -/
theorem ax_asgSelf (vm : Vm) (c : ClassId) : vm.assignable c c = true := by
  show vm.assignableAux (255 + 1) c c = true
  rw [Vm.assignableAux]
  simp
section AXX
variable {p : Program} {l : Launch} {e : Env} {R : Room} {s : State} {m : MethodId} {args : Array Value} {below : List Frame} {meth : Method} {c : Code} {T : State} {locs : List Loc} {cells slots : Nat} {pc : Nat} {ls : Array Slot} {rest : List Value}
abbrev ax_tab (c : Code) (hh : List (Nat × Nat × Nat × Nat)) : Prop := c.exceptionTable.toList.map (fun h => (h.startPc, h.endPc, h.handlerPc, h.catchType)) = hh
/-- a table whose first row takes it -/
theorem ax_fnd1 (X : Stand p l e R s m args below meth c T locs cells slots) {s0 e0 h ct : Nat} {tl : List (Nat × Nat × Nat × Nat)} (htab : ax_tab c ((s0, e0, h, ct) :: tl)) (hcov : s0 ≤ pc ∧ pc < e0) (h0 : ct ≠ 0) {own C : String} (hown : s.vm.findClass own = some m.cls) (hlink : (Cond.classLink own ct C).before args s = true)
    {x : Addr} {cell : Cell} (hcell : T.heap[x]? = some cell) (hobj : cell.vm.isStatics = false) (hcls : s.vm.findClass C = some cell.cls) :
    ∃ vm' : Vm, s.WarmedH vm' ∧ ax_Fnd e ((T.setTop (F0 m pc ls rest)).pushFrame (.throwing x)) (F0 m pc ls rest) x (.found h) vm' := by
  have hpl : e.platform.magicAccessors = ({} : Platform).magicAccessors := by rw [X.admits.platform]
  obtain ⟨cc, hfcc, hcl⟩ := Cond.classLink_spec hown hlink e.platform hpl
  cases hcls.symm.trans hfcc
  obtain ⟨hg₁, hwarm₁, hready₁⟩ := State.classEntry (e := e) X.warmed hcl
  obtain ⟨kc, hkc⟩ := Vm.classAt_of_findClass hcls
  obtain ⟨k1, hk1, -⟩ := hwarm₁.alike.2.2 _ _ hkc
  refine ⟨_, hwarm₁, fun Q E d acts => ?_⟩
  cases htl : c.exceptionTable.toList with
  | nil => rw [ax_tab, htl] at htab; cases htab
  | cons y t =>
    rw [ax_tab, htl, List.map_cons] at htab
    obtain ⟨hy, -⟩ := List.cons.inj htab
    have hy1 : y.startPc = s0 := congrArg Prod.fst hy
    have hy2 : y.endPc = e0 := congrArg (fun z => z.2.1) hy
    have hy3 : y.handlerPc = h := congrArg (fun z => z.2.2.1) hy
    have hy4 : y.catchType = ct := congrArg (fun z => z.2.2.2) hy
    subst hy1 hy2 hy3 hy4
    have hm9 : ((T.setTop (F0 m pc ls rest)).pushFrame (.throwing x)).vm.method? (F0 m pc ls rest).method = some meth := X.method'
    rw [W.findHandler_eq hm9 X.code, htl]
    exact ax_goCold (s := (T.setTop (F0 m pc ls rest)).pushFrame (.throwing x)) (f := F0 m pc ls rest) (by simp only [covers, Bool.and_eq_true, decide_eq_true_eq]; exact hcov) h0 hg₁ (X.warmed.alike.symm.trans hwarm₁.alike).size_le (cell := cell) hcell (fun k => VmData.ne_statics_of hobj k) ⟨k1, hk1⟩ ⟨k1, hk1⟩ (ax_asgSelf _ _)
/-- a table whose first row doesn't, and whose second one does -/
theorem ax_fnd2 (X : Stand p l e R s m args below meth c T locs cells slots) {s0 e0 h ct s1 e1 h1 ct1 : Nat} {tl : List (Nat × Nat × Nat × Nat)} (htab : ax_tab c ((s0, e0, h, ct) :: (s1, e1, h1, ct1) :: tl)) (hcov : s0 ≤ pc ∧ pc < e0) (hcov1 : s1 ≤ pc ∧ pc < e1) (h0 : ct ≠ 0) (h01 : ct1 ≠ 0) {own B C : String} (hown : s.vm.findClass own = some m.cls) (hlinkB : (Cond.classLink own ct B).before args s = true) (hlink : (Cond.classLink own ct1 C).before args s = true)
    {x : Addr} {cell : Cell} (hcell : T.heap[x]? = some cell) (hobj : cell.vm.isStatics = false) (hcls : s.vm.findClass C = some cell.cls) (hno : va_Nc C B s) :
    ∃ vm' : Vm, s.WarmedH vm' ∧ ax_Fnd e ((T.setTop (F0 m pc ls rest)).pushFrame (.throwing x)) (F0 m pc ls rest) x (.found h1) vm' := by
  have hpl : e.platform.magicAccessors = ({} : Platform).magicAccessors := by rw [X.admits.platform]
  obtain ⟨cb, hfcb, hclb⟩ := Cond.classLink_spec hown hlinkB e.platform hpl
  obtain ⟨cc, hfcc, hcl⟩ := Cond.classLink_spec hown hlink e.platform hpl
  cases hcls.symm.trans hfcc
  obtain ⟨hg₀, hwarm₀, -⟩ := State.classEntry (e := e) X.warmed hclb
  obtain ⟨hg₁, hwarm₁, -⟩ := State.classEntry (e := e) hwarm₀ hcl
  obtain ⟨kc, hkc⟩ := Vm.classAt_of_findClass hcls
  obtain ⟨kb, hkb⟩ := Vm.classAt_of_findClass hfcb
  obtain ⟨k0, hk0, -⟩ := hwarm₀.alike.2.2 _ _ hkc
  obtain ⟨k2, hk2, -⟩ := hwarm₀.alike.2.2 _ _ hkb
  obtain ⟨k1, hk1, -⟩ := hwarm₁.alike.2.2 _ _ hkc
  have hn0 : s.vm.assignable cell.cls cb = false := by
    obtain ⟨c9, t9, n1, n2, n3⟩ := hno
    cases hcls.symm.trans n1
    cases hfcb.symm.trans n2
    exact n3
  refine ⟨_, hwarm₁, fun Q E d acts => ?_⟩
  cases htl : c.exceptionTable.toList with
  | nil => rw [ax_tab, htl] at htab; cases htab
  | cons y t =>
    rw [ax_tab, htl, List.map_cons] at htab
    obtain ⟨hy, htab2⟩ := List.cons.inj htab
    cases t with
    | nil => cases htab2
    | cons z t2 =>
      rw [List.map_cons] at htab2
      obtain ⟨hz, -⟩ := List.cons.inj htab2
      have hy1 : y.startPc = s0 := congrArg Prod.fst hy
      have hy2 : y.endPc = e0 := congrArg (fun z => z.2.1) hy
      have hy4 : y.catchType = ct := congrArg (fun z => z.2.2.2) hy
      have hz1 : z.startPc = s1 := congrArg Prod.fst hz
      have hz2 : z.endPc = e1 := congrArg (fun z => z.2.1) hz
      have hz3 : z.handlerPc = h1 := congrArg (fun z => z.2.2.1) hz
      have hz4 : z.catchType = ct1 := congrArg (fun z => z.2.2.2) hz
      subst hy1 hy2 hy4 hz1 hz2 hz3 hz4
      have hm9 : ((T.setTop (F0 m pc ls rest)).pushFrame (.throwing x)).vm.method? (F0 m pc ls rest).method = some meth := X.method'
      rw [W.findHandler_eq hm9 X.code, htl]
      rw [ax_goColdNo (s := (T.setTop (F0 m pc ls rest)).pushFrame (.throwing x)) (f := F0 m pc ls rest) (by simp only [covers, Bool.and_eq_true, decide_eq_true_eq]; exact hcov) h0 hg₀ (X.warmed.alike.symm.trans hwarm₀.alike).size_le (cell := cell) hcell (fun k => VmData.ne_statics_of hobj k) ⟨k0, hk0⟩ ⟨k2, hk2⟩ (by rw [hwarm₀.alike.assignable]; exact hn0)]
      exact ax_goCold (s := ((T.setTop (F0 m pc ls rest)).pushFrame (.throwing x)).setVm _) (f := F0 m pc ls rest) (by simp only [covers, Bool.and_eq_true, decide_eq_true_eq]; exact hcov1) h01 hg₁ (hwarm₀.alike.symm.trans hwarm₁.alike).size_le (cell := cell) hcell (fun k => VmData.ne_statics_of hobj k) ⟨k1, hk1⟩ ⟨k1, hk1⟩ (ax_asgSelf _ _)
end AXX
end
section
/-! METHODS WITH HANDLERS THAT RETURN -/
abbrev ax_ww (Z : List Cond) (y : MethodName) (b : ByteArray) (n : Nat) (r : Option FieldType) (hh : List (Nat × Nat × Nat × Nat)) : List Cond := .codeWith y b n r hh :: Z
def CTw {S : Type} (l : Launch) (cl : List vw_C) (D : va_G) (K : State → Prop) (Z : List Cond) (y : MethodName) (b : ByteArray) (n : Nat) (r : Option FieldType) (hh : List (Nat × Nat × Nat × Nat)) (fr lo mc ms : Nat) (As : List Value) (ws : va_W) (post : Option Value → S → Prop) (ws1 : S → va_W) : Prop :=
  ∀ sz : Nat, Met l y (ax_ww Z y b n r hh) ({ frames := fr, cells := mc, slots := ms, locals := lo }) (ax_Pre cl D K As ws sz) (ax_Q post (ax_B cl D (va_A ws sz) ws1) (va_A ws sz)) mc ms (va_A ws sz)
theorem ax_ofw {S : Type} {l : Launch} {cl : List vw_C} {D : va_G} {K : State → Prop} {Z : List Cond} {y : MethodName} {b : ByteArray} {n : Nat} {r : Option FieldType} {hh : List (Nat × Nat × Nat × Nat)} {fr lo mc ms : Nat} {As : List Value} {ws : va_W} {post : Option Value → S → Prop} {ws1 : S → va_W}
    (hy : plainName y.cls = true) (hn : (lg_sl As).length ≤ n)
    (body : ∀ (p : Program) (e : Env) (s : State) (m : MethodId) (below : List Frame) (meth : Method) (c : Code) (A : Nat → Prop) (ls : Array Slot), ax_At p s m meth c As.toArray Z y b n r → ax_tab c hh → K s → va_P D cl ws s.heap → va_D A ws → va_S A s.heap s.heap [] → (∀ q : Nat, s.heap.size ≤ q → A q) → lv_has ls n (lv_args 0 As) →
      W p l e ({ frames := fr, cells := mc, slots := ms, locals := lo }) s m As.toArray below meth c s.heap [] 0 0 (MQ below (ax_Q post (ax_B cl D A ws1) A) As.toArray s mc ms A) (F0 m 0 ls [])) :
    CTw l cl D K Z y b n r hh fr lo mc ms As ws post ws1 := by
  intro sz
  refine va_MetW (cc := b) (maxL := n) (ret := r) (hh := hh) hy rfl ?_
  intro p e s m args below meth c s₁ B hml hv
  obtain ⟨rfl, hsz, hP, hK, hD0⟩ := hv
  subst hsz
  have hD := hD0.self (sz := s.heap.size)
  have hts0 := atoms_spec (ws := ax_ww Z y b n r hh) B.pre
  have htab : ax_tab c hh := by
    obtain ⟨m9, meth9, c9, hn9, hm9, hc9, -, -, ht9, -⟩ := Cond.codeWith_spec (hts0 _ List.mem_cons_self)
    cases B.named.symm.trans hn9
    cases B.method.symm.trans hm9
    cases (Stand.of_body B).code.symm.trans hc9
    exact ht9
  rw [lg_entry_eq]
  exact body p e s m below meth c _ _ ⟨B.exec, B.bytes, B.returns, hml, findClass_of_methodNamed B.named, fun w h => hts0 w (List.mem_cons_of_mem _ h), B.notSynchronized, (name_of_methodNamed B.named B.method).1⟩ htab hK hP hD va_S.rf (fun q h => Or.inr h) (lv_entry As hn)
section AXY
variable {p : Program} {l : Launch} {e : Env} {R : Room} {s : State} {m : MethodId} {args : Array Value} {below : List Frame} {meth : Method} {c : Code} {H : Heap} {locs : List Loc} {cells slots : Nat} {Q : State → Prop}
variable {cl : List vw_C} {D : va_G} {K : State → Prop} {tys : List (ClassId × FieldType)} {Z : List Cond} {A : Nat → Prop} {ws wc wr : va_W} {H0 : Heap} {cc : ByteArray} {pc : Nat} {ls : Array Slot} {rest : List Value}
theorem ax_goodw {y : MethodName} {b : ByteArray} {n : Nat} {r : Option FieldType} {hh : List (Nat × Nat × Nat × Nat)} (hZ : ax_good Z) (h : Cond.codeWith y b n r hh ∈ Z) : GoodIn Z (ax_ww Z y b n r hh) := fun w hw => by
  rcases List.mem_cons.mp hw with rfl | h2
  · exact ⟨h, (hZ _ h).2⟩
  · exact hZ w h2
/-- invokevirtual of a method with handlers -/
theorem ax_VW {S : Type} {post : Option Value → S → Prop} {ws1 : S → va_W} {y : MethodName} {b : ByteArray} {hh : List (Nat × Nat × Nat × Nat)} {n fr lo mc ms nL index k ci q0 N : Nat} {Tt : u_T} {fs : List Value} {ret : Option FieldType} {As st0 : List Value} {a : Nat} {own : String} (hst : st0 = As.reverse ++ .ref a :: rest)
    (hx : p.tables.exec = Jvm.exec) (hb : c.code = cc) (hml : c.maxLocals = nL) (hown : s.vm.findClass own = some m.cls) (hts : ∀ w ∈ Z, w.before args s = true) (hZ : ax_good Z) (kp : ax_bl K)
    (C : CTw l cl D K Z y b n ret hh fr lo mc ms (.ref a :: As) wc post ws1) (w1 : Cond.methodLink own index y ∈ Z) (w2 : Cond.instanceMethod y ∈ Z) (w3 : Cond.initialized y.cls ∈ Z) (w4 : Cond.codeWith y b n ret hh ∈ Z) (w5 : Cond.selects y.cls y y ∈ Z)
    (hd : y.cls ≠ "java/lang/invoke/MethodHandle" ∧ y.cls ≠ "java/lang/invoke/VarHandle" ∧ (parseMethodDescriptor y.desc).map (fun d => d.parameters.length) = some k) (hk : As.length = k) (hfr : fr + 1 ≤ R.frames) (hlo : 8 + (n + 11) + lo ≤ R.locals) (hls : ls.size = nL) (hrest : (rest.map fun v => v.category).sum ≤ 8)
    (hK : ∀ U : State, U.heap = H → s.WarmedH U.vm → K U) (hk9 : va_K D cl tys s) (hP : va_P D cl ws H) (hD : va_D A ws) (hS : va_S A H0 H locs) (hA : ∀ q, H0.size ≤ q → A q) (hci : cl[ci]? = some (y.cls, Tt, N)) (hcq : wc[q0]? = some (a, .inr (ci, fs))) (isC isR : List Nat) (hCf : isC.filterMap (fun i => ws[i]?) = wc) (hCn : va_nd isC = true) (hC : isC.map (fun i => ws[i]?) = wc.map some) (hR : isR.map (fun i => ws[i]?) = wr.map some) (hn : va_nd isR = true) (hdis : ∀ i ∈ isR, i ∉ isC)
    (hc : cells + mc ≤ R.cells) (hs : slots + ms ≤ R.slots) (hdg : decode cc pc = .ok (.invokevirtual index, 3))
    (kk : ∀ (v : Option Value) (u : S) (H1 : Heap) (locs1 : List Loc), post v u → va_P D cl (wr ++ ws1 u) H1 → va_D A (wr ++ ws1 u) → va_S A H0 H1 locs1 → W p l e R s m args below meth c H1 locs1 (cells + mc) (slots + ms) Q (F0 m (pc + 3) ls (v.toList ++ rest))) :
    W p l e R s m args below meth c H locs cells slots Q (F0 m pc ls st0) := by
  have hPc := hP.sub isC hCf
  have hDc := hD.sub isC hCn hC
  obtain ⟨cellB, hcB, hoB, hclB⟩ := va_recv hk9 hPc hci hcq
  obtain ⟨mk, methM, hnamed, hmethM, hstM, habM⟩ := Cond.instanceMethod_spec (hts _ w2)
  obtain ⟨m9, methM', cM, hn9, hmethM', -, -, -, -, -, -, hsigM⟩ := Cond.codeWith_spec (hts _ w4)
  cases hnamed.symm.trans hn9
  cases hmethM.symm.trans hmethM'
  obtain ⟨c2, r2, m2, q1, q2, q3, q4, kP, hkP, hkPi⟩ := Cond.selects_spec (hts _ w5)
  cases hclB.symm.trans q1
  cases (State.methodFound?_of_named hnamed ⟨hd.1, hd.2.1⟩).symm.trans q2
  cases hnamed.symm.trans q3
  have hlen : As.length = methM.sig.parameters.length := by
    have h2 := hd.2.2
    rw [hsigM] at h2
    exact hk.trans (Option.some.inj h2).symm
  have hB : Back l R p e below s args y 3 8 (PreOf R mc ms (ax_Pre cl D K (.ref a :: As) wc H.size)) (PostOf (ax_Q post (ax_B cl D (va_A wc H.size) ws1) (va_A wc H.size)) mc ms (va_A wc H.size)) :=
    va_backW (hh := hh) (bytes := b) (maxL := n) (ret := ret) (C H.size) (ax_blind kp) rfl rfl hfr hlo (pay_in hts (ax_goodw hZ w4)) List.mem_cons_self (fun a' U hW => word_at hW (Or.inl (by first | rfl | simp [Cond.onTables, Cond.keeps, Cond.steady])) (hts _ w3))
  refine ax_back (mc := mc) (ms := ms) (post := post) (ws1 := ws1) (wc := wc) (a := (Value.ref a :: As).toArray) ?_ hP hD hS hA isC isR hC hR hn hdis kk
  intro T hT X
  have hselP : selectMethod e.platform s.vm cellB.cls mk = .method mk := by rw [Launch.admits_selectMethod X.admits]; exact q4
  obtain ⟨vm₁, X₁, hstep₁⟩ := X.invokevirtual hx hown (hts _ w1) hnamed hmethM hstM hkP hkPi ⟨hd.1, hd.2.1⟩ (a := a) (cell := cellB) (by rw [hT]; exact hcB)
    (fun z h => by rw [h] at hoB; cases hoB) hselP hmethM habM hkP hkPi (g := F0 m pc ls st0) rfl (argsL := As) (rest := rest) hlen hst (by rw [hb]; exact hdg)
  obtain ⟨v, ⟨U', l2, c2, s2⟩, X', ⟨g', mk', t, L, e1, e2, hq, h1, hL, h2, h3⟩, hsteps⟩ := hB m meth c ⟨T.setVm vm₁, locs, cells, slots⟩ (F0 m pc ls rest) (.invokevirtual index) mk (Value.ref a :: As).toArray X₁ rfl (hls.trans hml.symm) (by rw [hb]; exact hdg) (lv_room hrest) (X₁.named hnamed)
    ⟨hc, hs, ⟨rfl, by show T.heap.size = _; rw [hT], by show va_P D cl wc T.heap; rw [hT]; exact hPc, hK (T.setVm vm₁) hT X₁.warmed, hDc.weaken (fun _ _ _ _ => trivial)⟩⟩
  dsimp only [Pt.U, Pt.locs, Pt.cells, Pt.slots] at X' e1 e2 h1 h2 h3 hsteps
  subst h1; subst h2; subst h3
  exact ⟨v, (T.setVm vm₁).calling g' mk' (Value.ref a :: As).toArray, t, U', L, hT, X', hL, e1, e2, hq, fun target h => hstep₁ _ fun acts => by rw [doInvoke_state]; exact hsteps.trans h⟩
/-- invokestatic of a method with handlers -/
theorem ax_StW {S : Type} {post : Option Value → S → Prop} {ws1 : S → va_W} {y : MethodName} {b : ByteArray} {hh : List (Nat × Nat × Nat × Nat)} {n fr lo mc ms nL index k : Nat} {ret : Option FieldType} {As st0 : List Value} {own : String} (hst : st0 = As.reverse ++ rest)
    (hx : p.tables.exec = Jvm.exec) (hb : c.code = cc) (hml : c.maxLocals = nL) (hown : s.vm.findClass own = some m.cls) {Zb : List Cond} (htb : ∀ w ∈ Zb, w.before args s = true) (hG : GoodIn Zb (ax_ww Z y b n ret hh)) (kp : ax_bl K)
    (C : CTw l cl D K Z y b n ret hh fr lo mc ms As wc post ws1) (w1 : (Cond.methodLink own index y).before args s = true) (w2 : (Cond.static y).before args s = true) (w3 : (Cond.initialized y.cls).before args s = true)
    (hd : y.cls ≠ "java/lang/invoke/MethodHandle" ∧ y.cls ≠ "java/lang/invoke/VarHandle" ∧ (parseMethodDescriptor y.desc).map (fun d => d.parameters.length) = some k) (hk : As.length = k) (hfr : fr + 1 ≤ R.frames) (hlo : 8 + (n + 11) + lo ≤ R.locals) (hls : ls.size = nL) (hrest : (rest.map fun v => v.category).sum ≤ 8)
    (hK : ∀ U : State, U.heap = H → s.WarmedH U.vm → K U) (hP : va_P D cl ws H) (hD : va_D A ws) (hS : va_S A H0 H locs) (hA : ∀ q, H0.size ≤ q → A q) (isC isR : List Nat) (hCf : isC.filterMap (fun i => ws[i]?) = wc) (hCn : va_nd isC = true) (hC : isC.map (fun i => ws[i]?) = wc.map some) (hR : isR.map (fun i => ws[i]?) = wr.map some) (hn : va_nd isR = true) (hdis : ∀ i ∈ isR, i ∉ isC)
    (hc : cells + mc ≤ R.cells) (hs : slots + ms ≤ R.slots) (hdg : decode cc pc = .ok (.invokestatic index, 3))
    (kk : ∀ (v : Option Value) (u : S) (H1 : Heap) (locs1 : List Loc), post v u → va_P D cl (wr ++ ws1 u) H1 → va_D A (wr ++ ws1 u) → va_S A H0 H1 locs1 → W p l e R s m args below meth c H1 locs1 (cells + mc) (slots + ms) Q (F0 m (pc + 3) ls (v.toList ++ rest))) :
    W p l e R s m args below meth c H locs cells slots Q (F0 m pc ls st0) := by
  have hPc := hP.sub isC hCf
  have hDc := hD.sub isC hCn hC
  have hcode := htb _ (hG _ List.mem_cons_self).1
  obtain ⟨mk, methM, cM, hnamed, hmethM, -, -, -, -, -, -, hsigM⟩ := Cond.codeWith_spec hcode
  have hstatic : methM.isStatic = true := Cond.static_spec hnamed hmethM w2
  obtain ⟨kP, hkP, -⟩ := className_of_methodNamed hnamed
  have hinitP : kP.init = .initialized := Cond.initialized_spec (findClass_of_methodNamed hnamed) hkP w3
  have hlen : As.length = methM.sig.parameters.length := by
    have h2 := hd.2.2
    rw [hsigM] at h2
    exact hk.trans (Option.some.inj h2).symm
  have hB : Back l R p e below s args y 3 8 (PreOf R mc ms (ax_Pre cl D K As wc H.size)) (PostOf (ax_Q post (ax_B cl D (va_A wc H.size) ws1) (va_A wc H.size)) mc ms (va_A wc H.size)) :=
    va_backW (hh := hh) (bytes := b) (maxL := n) (ret := ret) (C H.size) (ax_blind kp) rfl rfl hfr hlo (pay_in htb hG) List.mem_cons_self (fun a' U hW => word_at hW (Or.inl (by first | rfl | simp [Cond.onTables, Cond.keeps, Cond.steady])) w3)
  refine ax_back (mc := mc) (ms := ms) (post := post) (ws1 := ws1) (wc := wc) (a := As.toArray) ?_ hP hD hS hA isC isR hC hR hn hdis kk
  intro T hT X
  obtain ⟨vm₁, X₁, hstep₁⟩ := X.invokestatic hx hown w1 hnamed hmethM hstatic hkP hinitP ⟨hd.1, hd.2.1⟩ (g := F0 m pc ls st0) rfl (argsL := As) (rest := rest) hlen hst (by rw [hb]; exact hdg)
  obtain ⟨v, ⟨U', l2, c2, s2⟩, X', ⟨g', mk', t, L, e1, e2, hq, h1, hL, h2, h3⟩, hsteps⟩ := hB m meth c ⟨T.setVm vm₁, locs, cells, slots⟩ (F0 m pc ls rest) (.invokestatic index) mk As.toArray X₁ rfl (hls.trans hml.symm) (by rw [hb]; exact hdg) (lv_room hrest) (X₁.named hnamed)
    ⟨hc, hs, ⟨rfl, by show T.heap.size = _; rw [hT], by show va_P D cl wc T.heap; rw [hT]; exact hPc, hK (T.setVm vm₁) hT X₁.warmed, hDc.weaken (fun _ _ _ _ => trivial)⟩⟩
  dsimp only [Pt.U, Pt.locs, Pt.cells, Pt.slots] at X' e1 e2 h1 h2 h3 hsteps
  subst h1; subst h2; subst h3
  exact ⟨v, (T.setVm vm₁).calling g' mk' As.toArray, t, U', L, hT, X', hL, e1, e2, hq, fun target h => hstep₁ _ fun acts => by rw [doInvoke_state]; exact hsteps.trans h⟩
end AXY
end
section
theorem d_MX_init_0 : decode b_MX_init 0 = .ok (.aload_n 0, 1) := by decide +kernel
theorem d_MX_init_1 : decode b_MX_init 1 = .ok (.invokespecial 3, 3) := by decide +kernel
theorem d_MX_init_4 : decode b_MX_init 4 = .ok (.aload_n 0, 1) := by decide +kernel
theorem d_MX_init_5 : decode b_MX_init 5 = .ok (.new 9, 3) := by decide +kernel
theorem d_MX_init_8 : decode b_MX_init 8 = .ok (.dup, 1) := by decide +kernel
theorem d_MX_init_9 : decode b_MX_init 9 = .ok (.invokespecial 11, 3) := by decide +kernel
theorem d_MX_init_12 : decode b_MX_init 12 = .ok (.putfield 12, 3) := by decide +kernel
theorem d_MX_init_15 : decode b_MX_init 15 = .ok (.aload_n 0, 1) := by decide +kernel
theorem d_MX_init_16 : decode b_MX_init 16 = .ok (.new 18, 3) := by decide +kernel
theorem d_MX_init_19 : decode b_MX_init 19 = .ok (.dup, 1) := by decide +kernel
theorem d_MX_init_20 : decode b_MX_init 20 = .ok (.iconst 4, 1) := by decide +kernel
theorem d_MX_init_21 : decode b_MX_init 21 = .ok (.invokespecial 20, 3) := by decide +kernel
theorem d_MX_init_24 : decode b_MX_init 24 = .ok (.putfield 23, 3) := by decide +kernel
theorem d_MX_init_27 : decode b_MX_init 27 = .ok (.aload_n 0, 1) := by decide +kernel
theorem d_MX_init_28 : decode b_MX_init 28 = .ok (.new 18, 3) := by decide +kernel
theorem d_MX_init_31 : decode b_MX_init 31 = .ok (.dup, 1) := by decide +kernel
theorem d_MX_init_32 : decode b_MX_init 32 = .ok (.iconst 4, 1) := by decide +kernel
theorem d_MX_init_33 : decode b_MX_init 33 = .ok (.invokespecial 20, 3) := by decide +kernel
theorem d_MX_init_36 : decode b_MX_init 36 = .ok (.putfield 27, 3) := by decide +kernel
theorem d_MX_init_39 : decode b_MX_init 39 = .ok (.aload_n 0, 1) := by decide +kernel
theorem d_MX_init_40 : decode b_MX_init 40 = .ok (.new 18, 3) := by decide +kernel
theorem d_MX_init_43 : decode b_MX_init 43 = .ok (.dup, 1) := by decide +kernel
theorem d_MX_init_44 : decode b_MX_init 44 = .ok (.iconst 4, 1) := by decide +kernel
theorem d_MX_init_45 : decode b_MX_init 45 = .ok (.invokespecial 20, 3) := by decide +kernel
theorem d_MX_init_48 : decode b_MX_init 48 = .ok (.putfield 30, 3) := by decide +kernel
theorem d_MX_init_51 : decode b_MX_init 51 = .ok (.aload_n 0, 1) := by decide +kernel
theorem d_MX_init_52 : decode b_MX_init 52 = .ok (.new 18, 3) := by decide +kernel
theorem d_MX_init_55 : decode b_MX_init 55 = .ok (.dup, 1) := by decide +kernel
theorem d_MX_init_56 : decode b_MX_init 56 = .ok (.iconst 4, 1) := by decide +kernel
theorem d_MX_init_57 : decode b_MX_init 57 = .ok (.invokespecial 20, 3) := by decide +kernel
theorem d_MX_init_60 : decode b_MX_init 60 = .ok (.putfield 33, 3) := by decide +kernel
theorem d_MX_init_63 : decode b_MX_init 63 = .ok (.aload_n 0, 1) := by decide +kernel
theorem d_MX_init_64 : decode b_MX_init 64 = .ok (.new 18, 3) := by decide +kernel
theorem d_MX_init_67 : decode b_MX_init 67 = .ok (.dup, 1) := by decide +kernel
theorem d_MX_init_68 : decode b_MX_init 68 = .ok (.iconst 4, 1) := by decide +kernel
theorem d_MX_init_69 : decode b_MX_init 69 = .ok (.invokespecial 20, 3) := by decide +kernel
theorem d_MX_init_72 : decode b_MX_init 72 = .ok (.putfield 36, 3) := by decide +kernel
theorem d_MX_init_75 : decode b_MX_init 75 = .ok (.aload_n 0, 1) := by decide +kernel
theorem d_MX_init_76 : decode b_MX_init 76 = .ok (.new 39, 3) := by decide +kernel
theorem d_MX_init_79 : decode b_MX_init 79 = .ok (.dup, 1) := by decide +kernel
theorem d_MX_init_80 : decode b_MX_init 80 = .ok (.iconst 4, 1) := by decide +kernel
theorem d_MX_init_81 : decode b_MX_init 81 = .ok (.invokespecial 41, 3) := by decide +kernel
theorem d_MX_init_84 : decode b_MX_init 84 = .ok (.putfield 42, 3) := by decide +kernel
theorem d_MX_init_87 : decode b_MX_init 87 = .ok (.aload_n 0, 1) := by decide +kernel
theorem d_MX_init_88 : decode b_MX_init 88 = .ok (.new 18, 3) := by decide +kernel
theorem d_MX_init_91 : decode b_MX_init 91 = .ok (.dup, 1) := by decide +kernel
theorem d_MX_init_92 : decode b_MX_init 92 = .ok (.iconst 4, 1) := by decide +kernel
theorem d_MX_init_93 : decode b_MX_init 93 = .ok (.invokespecial 20, 3) := by decide +kernel
theorem d_MX_init_96 : decode b_MX_init 96 = .ok (.putfield 46, 3) := by decide +kernel
theorem d_MX_init_99 : decode b_MX_init 99 = .ok (.aload_n 0, 1) := by decide +kernel
theorem d_MX_init_100 : decode b_MX_init 100 = .ok (.new 18, 3) := by decide +kernel
theorem d_MX_init_103 : decode b_MX_init 103 = .ok (.dup, 1) := by decide +kernel
theorem d_MX_init_104 : decode b_MX_init 104 = .ok (.iconst 4, 1) := by decide +kernel
theorem d_MX_init_105 : decode b_MX_init 105 = .ok (.invokespecial 20, 3) := by decide +kernel
theorem d_MX_init_108 : decode b_MX_init 108 = .ok (.putfield 49, 3) := by decide +kernel
theorem d_MX_init_111 : decode b_MX_init 111 = .ok (.aload_n 0, 1) := by decide +kernel
theorem d_MX_init_112 : decode b_MX_init 112 = .ok (.bipush 100, 2) := by decide +kernel
theorem d_MX_init_114 : decode b_MX_init 114 = .ok (.anewarray 52, 3) := by decide +kernel
theorem d_MX_init_117 : decode b_MX_init 117 = .ok (.putfield 54, 3) := by decide +kernel
theorem d_MX_init_120 : decode b_MX_init 120 = .ok (.return_, 1) := by decide +kernel
set_option maxHeartbeats 4000000 in
set_option maxRecDepth 100000 in
theorem c_MX_init (l : Launch) (dC : Nat → ClassId) (dI : Nat → Nat → Nat) (ca : Nat → ClassId) (h0 : Nat) : CT l classes (dC, dI) (mK dC dI ca) wm y_MX_init b_MX_init 1 none 2 33 19 166 [.ref h0] [(h0, .inr (6, [.null, .int 0, .int 0, .null, .null, .null, .null, .null, .null, .null, .null, .null, .int 0, .int 0, .null]))] (fun (v : Option Value) (_ : Nat × Nat × Nat × Nat × Nat × Nat × Nat × Nat × Nat × Nat × Nat × Nat × Nat × Nat × Nat × Nat × Nat × Nat × Nat) => v = none) (fun (u : Nat × Nat × Nat × Nat × Nat × Nat × Nat × Nat × Nat × Nat × Nat × Nat × Nat × Nat × Nat × Nat × Nat × Nat × Nat) => match u with | (q_1, q_2, q_3, q_4, q_5, q_6, q_7, q_8, q_9, q_10, q_11, q_12, q_13, q_14, q_15, q_16, q_17, q_18, q_19) => [(h0, .inr (6, [.ref q_1, .int 0, .int 0, .ref q_3, .ref q_5, .ref q_7, .ref q_9, .ref q_11, .ref q_13, .ref q_15, .ref q_17, .ref q_19, .int 0, .int 0, .null])), (q_1, .inr (2, [.ref q_2, .int 0])), (q_2, .inl (ca 0, 16, .inl (fun _ => 0))), (q_3, .inr (3, [.ref q_4, .int 0])), (q_4, .inl (ca 1, 4, .inl (fun _ => 0))), (q_5, .inr (3, [.ref q_6, .int 0])), (q_6, .inl (ca 1, 4, .inl (fun _ => 0))), (q_7, .inr (3, [.ref q_8, .int 0])), (q_8, .inl (ca 1, 4, .inl (fun _ => 0))), (q_9, .inr (3, [.ref q_10, .int 0])), (q_10, .inl (ca 1, 4, .inl (fun _ => 0))), (q_11, .inr (3, [.ref q_12, .int 0])), (q_12, .inl (ca 1, 4, .inl (fun _ => 0))), (q_13, .inr (4, [.ref q_14, .int 0])), (q_14, .inl (ca 2, 4, .inr (.inl (fun _ => 0)))), (q_15, .inr (3, [.ref q_16, .int 0])), (q_16, .inl (ca 1, 4, .inl (fun _ => 0))), (q_17, .inr (3, [.ref q_18, .int 0])), (q_18, .inl (ca 1, 4, .inl (fun _ => 0)))]) := by
  refine ax_of (by decide) (Nat.le_of_ble_eq_true rfl) ?_
  intro p e s m below meth c A ls hAt hK hP hD hS hA hl
  obtain ⟨hx, hb, hr, hml, hown, hts, hlocks, hin⟩ := hAt
  have hin : meth.name = "<init>" := hin
  have hl : lv_has ls 1 [(0, .ref h0)] := hl
  refine lv_aload_n hx hb d_MX_init_0 rfl (lv_at hl 0 rfl) ?_
  refine W.objInit hx hb hown (hts _ xm_219) (hts _ xm_8) (hts _ xm_9) rfl (by rw [hml]; exact hl.1) rfl d_MX_init_1 (Nat.le_of_ble_eq_true rfl) (Nat.le_of_ble_eq_true rfl) ?_
  refine W.eq (g2 := F0 m 4 ls []) rfl ?_
  refine lv_aload_n hx hb d_MX_init_4 rfl (lv_at hl 0 rfl) ?_
  refine va_new (ci := 2) (fs := [.null, .int 0]) (C := R_MB) (T := F_MB) (N := 2) hx hb hts i_MB t_MB t_MB_ok hown (hts _ xm_220) (hts _ xm_26) (hts _ xm_2) hK.1 hP hD hS hA rfl (by decide +kernel) (Nat.le_of_ble_eq_true rfl) (Nat.le_of_ble_eq_true rfl) d_MX_init_5 (fun q_1 H hP hD hS => ?_)
  have hP : va_P (dC, dI) classes [(h0, .inr (6, [.null, .int 0, .int 0, .null, .null, .null, .null, .null, .null, .null, .null, .null, .int 0, .int 0, .null])), (q_1, .inr (2, [.null, .int 0]))] H := hP
  have hD : va_D A [(h0, .inr (6, [.null, .int 0, .int 0, .null, .null, .null, .null, .null, .null, .null, .null, .null, .int 0, .int 0, .null])), (q_1, .inr (2, [.null, .int 0]))] := hD
  refine W.widen (k := 1) (n := 2) (Nat.le_of_ble_eq_true rfl) (Nat.le_of_ble_eq_true rfl) ?_
  refine lv_dup hx hb d_MX_init_8 rfl ?_
  refine ax_IN (k := 0) (As := []) (rest := [.ref q_1, .ref h0]) (wr := [(h0, .inr (6, [.null, .int 0, .int 0, .null, .null, .null, .null, .null, .null, .null, .null, .null, .int 0, .int 0, .null]))]) rfl hx hb hml hown hts g_wm (mK_bl dC dI ca) (c_MB_init l dC dI ca q_1) rfl (hK.2.1 _ zm_25) xm_27 xm_2 xm_28 (by decide +kernel) rfl (Nat.le_of_ble_eq_true rfl) (Nat.le_of_ble_eq_true rfl) hl.1 (Nat.le_of_ble_eq_true rfl) (mK_up hK) hP hD hS hA [1] [0] rfl (by decide) rfl rfl (by decide) (by decide) (Nat.le_of_ble_eq_true rfl) (Nat.le_of_ble_eq_true rfl) d_MX_init_9 (fun v q_2 H locs hp hP hD hS => ?_)
  obtain rfl : v = none := hp
  have hP : va_P (dC, dI) classes [(h0, .inr (6, [.null, .int 0, .int 0, .null, .null, .null, .null, .null, .null, .null, .null, .null, .int 0, .int 0, .null])), (q_1, .inr (2, [.ref q_2, .int 0])), (q_2, .inl (ca 0, 16, .inl (fun _ => 0)))] H := hP
  have hD : va_D A [(h0, .inr (6, [.null, .int 0, .int 0, .null, .null, .null, .null, .null, .null, .null, .null, .null, .int 0, .int 0, .null])), (q_1, .inr (2, [.ref q_2, .int 0])), (q_2, .inl (ca 0, 16, .inl (fun _ => 0)))] := hD
  refine W.eq (g2 := F0 m 12 ls [.ref q_1, .ref h0]) rfl ?_
  refine W.widen (k := 2) (n := 18) (Nat.le_of_ble_eq_true rfl) (Nat.le_of_ble_eq_true rfl) ?_
  refine va_putF (D := (dC, dI)) (ci := 6) (v := .ref q_1) (ty := .object "SourceBackModel$Bytes") (C := R_MX) (T := F_MX) (N := 15) hx hb hts i_MX t_MX t_MX_ok n_MX hown hK.1 hP hD hS 0 rfl rfl 0 (by decide) (hts _ xm_226) (fun _ h9 => h9) rfl hin rfl (by decide +kernel) rfl rfl (Nat.le_of_ble_eq_true rfl) d_MX_init_12 (fun H locs hP hD hS => ?_)
  have hP : va_P (dC, dI) classes [(h0, .inr (6, [.ref q_1, .int 0, .int 0, .null, .null, .null, .null, .null, .null, .null, .null, .null, .int 0, .int 0, .null])), (q_1, .inr (2, [.ref q_2, .int 0])), (q_2, .inl (ca 0, 16, .inl (fun _ => 0)))] H := hP
  have hD : va_D A [(h0, .inr (6, [.ref q_1, .int 0, .int 0, .null, .null, .null, .null, .null, .null, .null, .null, .null, .int 0, .int 0, .null])), (q_1, .inr (2, [.ref q_2, .int 0])), (q_2, .inl (ca 0, 16, .inl (fun _ => 0)))] := hD
  refine lv_aload_n hx hb d_MX_init_15 rfl (lv_at hl 0 rfl) ?_
  refine va_new (ci := 3) (fs := [.null, .int 0]) (C := R_MI) (T := F_MI) (N := 2) hx hb hts i_MI t_MI t_MI_ok hown (hts _ xm_221) (hts _ xm_33) (hts _ xm_3) hK.1 hP hD hS hA rfl (by decide +kernel) (Nat.le_of_ble_eq_true rfl) (Nat.le_of_ble_eq_true rfl) d_MX_init_16 (fun q_3 H hP hD hS => ?_)
  have hP : va_P (dC, dI) classes [(h0, .inr (6, [.ref q_1, .int 0, .int 0, .null, .null, .null, .null, .null, .null, .null, .null, .null, .int 0, .int 0, .null])), (q_1, .inr (2, [.ref q_2, .int 0])), (q_2, .inl (ca 0, 16, .inl (fun _ => 0))), (q_3, .inr (3, [.null, .int 0]))] H := hP
  have hD : va_D A [(h0, .inr (6, [.ref q_1, .int 0, .int 0, .null, .null, .null, .null, .null, .null, .null, .null, .null, .int 0, .int 0, .null])), (q_1, .inr (2, [.ref q_2, .int 0])), (q_2, .inl (ca 0, 16, .inl (fun _ => 0))), (q_3, .inr (3, [.null, .int 0]))] := hD
  refine W.widen (k := 3) (n := 20) (Nat.le_of_ble_eq_true rfl) (Nat.le_of_ble_eq_true rfl) ?_
  refine lv_dup hx hb d_MX_init_19 rfl ?_
  refine lv_iconst (v := 4) hx hb d_MX_init_20 (by decide) ?_
  refine ax_I (k := 1) (As := [.int 4]) (rest := [.ref q_3, .ref h0]) (wr := [(h0, .inr (6, [.ref q_1, .int 0, .int 0, .null, .null, .null, .null, .null, .null, .null, .null, .null, .int 0, .int 0, .null])), (q_1, .inr (2, [.ref q_2, .int 0])), (q_2, .inl (ca 0, 16, .inl (fun _ => 0)))]) rfl hx hb hml hown hts g_wm (mK_bl dC dI ca) (c_MI_init l dC dI ca q_3) rfl xm_222 xm_35 xm_3 xm_36 (by decide +kernel) rfl (Nat.le_of_ble_eq_true rfl) (Nat.le_of_ble_eq_true rfl) hl.1 (Nat.le_of_ble_eq_true rfl) (mK_up hK) hP hD hS hA [3] [0, 1, 2] rfl (by decide) rfl rfl (by decide) (by decide) (Nat.le_of_ble_eq_true rfl) (Nat.le_of_ble_eq_true rfl) d_MX_init_21 (fun v q_4 H locs hp hP hD hS => ?_)
  obtain rfl : v = none := hp
  have hP : va_P (dC, dI) classes [(h0, .inr (6, [.ref q_1, .int 0, .int 0, .null, .null, .null, .null, .null, .null, .null, .null, .null, .int 0, .int 0, .null])), (q_1, .inr (2, [.ref q_2, .int 0])), (q_2, .inl (ca 0, 16, .inl (fun _ => 0))), (q_3, .inr (3, [.ref q_4, .int 0])), (q_4, .inl (ca 1, 4, .inl (fun _ => 0)))] H := hP
  have hD : va_D A [(h0, .inr (6, [.ref q_1, .int 0, .int 0, .null, .null, .null, .null, .null, .null, .null, .null, .null, .int 0, .int 0, .null])), (q_1, .inr (2, [.ref q_2, .int 0])), (q_2, .inl (ca 0, 16, .inl (fun _ => 0))), (q_3, .inr (3, [.ref q_4, .int 0])), (q_4, .inl (ca 1, 4, .inl (fun _ => 0)))] := hD
  refine W.eq (g2 := F0 m 24 ls [.ref q_3, .ref h0]) rfl ?_
  refine W.widen (k := 4) (n := 24) (Nat.le_of_ble_eq_true rfl) (Nat.le_of_ble_eq_true rfl) ?_
  refine va_putF (D := (dC, dI)) (ci := 6) (v := .ref q_3) (ty := .object "SourceBackModel$Ints") (C := R_MX) (T := F_MX) (N := 15) hx hb hts i_MX t_MX t_MX_ok n_MX hown hK.1 hP hD hS 0 rfl rfl 3 (by decide) (hts _ xm_227) (fun _ h9 => h9) rfl hin rfl (by decide +kernel) rfl rfl (Nat.le_of_ble_eq_true rfl) d_MX_init_24 (fun H locs hP hD hS => ?_)
  have hP : va_P (dC, dI) classes [(h0, .inr (6, [.ref q_1, .int 0, .int 0, .ref q_3, .null, .null, .null, .null, .null, .null, .null, .null, .int 0, .int 0, .null])), (q_1, .inr (2, [.ref q_2, .int 0])), (q_2, .inl (ca 0, 16, .inl (fun _ => 0))), (q_3, .inr (3, [.ref q_4, .int 0])), (q_4, .inl (ca 1, 4, .inl (fun _ => 0)))] H := hP
  have hD : va_D A [(h0, .inr (6, [.ref q_1, .int 0, .int 0, .ref q_3, .null, .null, .null, .null, .null, .null, .null, .null, .int 0, .int 0, .null])), (q_1, .inr (2, [.ref q_2, .int 0])), (q_2, .inl (ca 0, 16, .inl (fun _ => 0))), (q_3, .inr (3, [.ref q_4, .int 0])), (q_4, .inl (ca 1, 4, .inl (fun _ => 0)))] := hD
  refine lv_aload_n hx hb d_MX_init_27 rfl (lv_at hl 0 rfl) ?_
  refine va_new (ci := 3) (fs := [.null, .int 0]) (C := R_MI) (T := F_MI) (N := 2) hx hb hts i_MI t_MI t_MI_ok hown (hts _ xm_221) (hts _ xm_33) (hts _ xm_3) hK.1 hP hD hS hA rfl (by decide +kernel) (Nat.le_of_ble_eq_true rfl) (Nat.le_of_ble_eq_true rfl) d_MX_init_28 (fun q_5 H hP hD hS => ?_)
  have hP : va_P (dC, dI) classes [(h0, .inr (6, [.ref q_1, .int 0, .int 0, .ref q_3, .null, .null, .null, .null, .null, .null, .null, .null, .int 0, .int 0, .null])), (q_1, .inr (2, [.ref q_2, .int 0])), (q_2, .inl (ca 0, 16, .inl (fun _ => 0))), (q_3, .inr (3, [.ref q_4, .int 0])), (q_4, .inl (ca 1, 4, .inl (fun _ => 0))), (q_5, .inr (3, [.null, .int 0]))] H := hP
  have hD : va_D A [(h0, .inr (6, [.ref q_1, .int 0, .int 0, .ref q_3, .null, .null, .null, .null, .null, .null, .null, .null, .int 0, .int 0, .null])), (q_1, .inr (2, [.ref q_2, .int 0])), (q_2, .inl (ca 0, 16, .inl (fun _ => 0))), (q_3, .inr (3, [.ref q_4, .int 0])), (q_4, .inl (ca 1, 4, .inl (fun _ => 0))), (q_5, .inr (3, [.null, .int 0]))] := hD
  refine W.widen (k := 5) (n := 26) (Nat.le_of_ble_eq_true rfl) (Nat.le_of_ble_eq_true rfl) ?_
  refine lv_dup hx hb d_MX_init_31 rfl ?_
  refine lv_iconst (v := 4) hx hb d_MX_init_32 (by decide) ?_
  refine ax_I (k := 1) (As := [.int 4]) (rest := [.ref q_5, .ref h0]) (wr := [(h0, .inr (6, [.ref q_1, .int 0, .int 0, .ref q_3, .null, .null, .null, .null, .null, .null, .null, .null, .int 0, .int 0, .null])), (q_1, .inr (2, [.ref q_2, .int 0])), (q_2, .inl (ca 0, 16, .inl (fun _ => 0))), (q_3, .inr (3, [.ref q_4, .int 0])), (q_4, .inl (ca 1, 4, .inl (fun _ => 0)))]) rfl hx hb hml hown hts g_wm (mK_bl dC dI ca) (c_MI_init l dC dI ca q_5) rfl xm_222 xm_35 xm_3 xm_36 (by decide +kernel) rfl (Nat.le_of_ble_eq_true rfl) (Nat.le_of_ble_eq_true rfl) hl.1 (Nat.le_of_ble_eq_true rfl) (mK_up hK) hP hD hS hA [5] [0, 1, 2, 3, 4] rfl (by decide) rfl rfl (by decide) (by decide) (Nat.le_of_ble_eq_true rfl) (Nat.le_of_ble_eq_true rfl) d_MX_init_33 (fun v q_6 H locs hp hP hD hS => ?_)
  obtain rfl : v = none := hp
  have hP : va_P (dC, dI) classes [(h0, .inr (6, [.ref q_1, .int 0, .int 0, .ref q_3, .null, .null, .null, .null, .null, .null, .null, .null, .int 0, .int 0, .null])), (q_1, .inr (2, [.ref q_2, .int 0])), (q_2, .inl (ca 0, 16, .inl (fun _ => 0))), (q_3, .inr (3, [.ref q_4, .int 0])), (q_4, .inl (ca 1, 4, .inl (fun _ => 0))), (q_5, .inr (3, [.ref q_6, .int 0])), (q_6, .inl (ca 1, 4, .inl (fun _ => 0)))] H := hP
  have hD : va_D A [(h0, .inr (6, [.ref q_1, .int 0, .int 0, .ref q_3, .null, .null, .null, .null, .null, .null, .null, .null, .int 0, .int 0, .null])), (q_1, .inr (2, [.ref q_2, .int 0])), (q_2, .inl (ca 0, 16, .inl (fun _ => 0))), (q_3, .inr (3, [.ref q_4, .int 0])), (q_4, .inl (ca 1, 4, .inl (fun _ => 0))), (q_5, .inr (3, [.ref q_6, .int 0])), (q_6, .inl (ca 1, 4, .inl (fun _ => 0)))] := hD
  refine W.eq (g2 := F0 m 36 ls [.ref q_5, .ref h0]) rfl ?_
  refine W.widen (k := 6) (n := 30) (Nat.le_of_ble_eq_true rfl) (Nat.le_of_ble_eq_true rfl) ?_
  refine va_putF (D := (dC, dI)) (ci := 6) (v := .ref q_5) (ty := .object "SourceBackModel$Ints") (C := R_MX) (T := F_MX) (N := 15) hx hb hts i_MX t_MX t_MX_ok n_MX hown hK.1 hP hD hS 0 rfl rfl 4 (by decide) (hts _ xm_228) (fun _ h9 => h9) rfl hin rfl (by decide +kernel) rfl rfl (Nat.le_of_ble_eq_true rfl) d_MX_init_36 (fun H locs hP hD hS => ?_)
  have hP : va_P (dC, dI) classes [(h0, .inr (6, [.ref q_1, .int 0, .int 0, .ref q_3, .ref q_5, .null, .null, .null, .null, .null, .null, .null, .int 0, .int 0, .null])), (q_1, .inr (2, [.ref q_2, .int 0])), (q_2, .inl (ca 0, 16, .inl (fun _ => 0))), (q_3, .inr (3, [.ref q_4, .int 0])), (q_4, .inl (ca 1, 4, .inl (fun _ => 0))), (q_5, .inr (3, [.ref q_6, .int 0])), (q_6, .inl (ca 1, 4, .inl (fun _ => 0)))] H := hP
  have hD : va_D A [(h0, .inr (6, [.ref q_1, .int 0, .int 0, .ref q_3, .ref q_5, .null, .null, .null, .null, .null, .null, .null, .int 0, .int 0, .null])), (q_1, .inr (2, [.ref q_2, .int 0])), (q_2, .inl (ca 0, 16, .inl (fun _ => 0))), (q_3, .inr (3, [.ref q_4, .int 0])), (q_4, .inl (ca 1, 4, .inl (fun _ => 0))), (q_5, .inr (3, [.ref q_6, .int 0])), (q_6, .inl (ca 1, 4, .inl (fun _ => 0)))] := hD
  refine lv_aload_n hx hb d_MX_init_39 rfl (lv_at hl 0 rfl) ?_
  refine va_new (ci := 3) (fs := [.null, .int 0]) (C := R_MI) (T := F_MI) (N := 2) hx hb hts i_MI t_MI t_MI_ok hown (hts _ xm_221) (hts _ xm_33) (hts _ xm_3) hK.1 hP hD hS hA rfl (by decide +kernel) (Nat.le_of_ble_eq_true rfl) (Nat.le_of_ble_eq_true rfl) d_MX_init_40 (fun q_7 H hP hD hS => ?_)
  have hP : va_P (dC, dI) classes [(h0, .inr (6, [.ref q_1, .int 0, .int 0, .ref q_3, .ref q_5, .null, .null, .null, .null, .null, .null, .null, .int 0, .int 0, .null])), (q_1, .inr (2, [.ref q_2, .int 0])), (q_2, .inl (ca 0, 16, .inl (fun _ => 0))), (q_3, .inr (3, [.ref q_4, .int 0])), (q_4, .inl (ca 1, 4, .inl (fun _ => 0))), (q_5, .inr (3, [.ref q_6, .int 0])), (q_6, .inl (ca 1, 4, .inl (fun _ => 0))), (q_7, .inr (3, [.null, .int 0]))] H := hP
  have hD : va_D A [(h0, .inr (6, [.ref q_1, .int 0, .int 0, .ref q_3, .ref q_5, .null, .null, .null, .null, .null, .null, .null, .int 0, .int 0, .null])), (q_1, .inr (2, [.ref q_2, .int 0])), (q_2, .inl (ca 0, 16, .inl (fun _ => 0))), (q_3, .inr (3, [.ref q_4, .int 0])), (q_4, .inl (ca 1, 4, .inl (fun _ => 0))), (q_5, .inr (3, [.ref q_6, .int 0])), (q_6, .inl (ca 1, 4, .inl (fun _ => 0))), (q_7, .inr (3, [.null, .int 0]))] := hD
  refine W.widen (k := 7) (n := 32) (Nat.le_of_ble_eq_true rfl) (Nat.le_of_ble_eq_true rfl) ?_
  refine lv_dup hx hb d_MX_init_43 rfl ?_
  refine lv_iconst (v := 4) hx hb d_MX_init_44 (by decide) ?_
  refine ax_I (k := 1) (As := [.int 4]) (rest := [.ref q_7, .ref h0]) (wr := [(h0, .inr (6, [.ref q_1, .int 0, .int 0, .ref q_3, .ref q_5, .null, .null, .null, .null, .null, .null, .null, .int 0, .int 0, .null])), (q_1, .inr (2, [.ref q_2, .int 0])), (q_2, .inl (ca 0, 16, .inl (fun _ => 0))), (q_3, .inr (3, [.ref q_4, .int 0])), (q_4, .inl (ca 1, 4, .inl (fun _ => 0))), (q_5, .inr (3, [.ref q_6, .int 0])), (q_6, .inl (ca 1, 4, .inl (fun _ => 0)))]) rfl hx hb hml hown hts g_wm (mK_bl dC dI ca) (c_MI_init l dC dI ca q_7) rfl xm_222 xm_35 xm_3 xm_36 (by decide +kernel) rfl (Nat.le_of_ble_eq_true rfl) (Nat.le_of_ble_eq_true rfl) hl.1 (Nat.le_of_ble_eq_true rfl) (mK_up hK) hP hD hS hA [7] [0, 1, 2, 3, 4, 5, 6] rfl (by decide) rfl rfl (by decide) (by decide) (Nat.le_of_ble_eq_true rfl) (Nat.le_of_ble_eq_true rfl) d_MX_init_45 (fun v q_8 H locs hp hP hD hS => ?_)
  obtain rfl : v = none := hp
  have hP : va_P (dC, dI) classes [(h0, .inr (6, [.ref q_1, .int 0, .int 0, .ref q_3, .ref q_5, .null, .null, .null, .null, .null, .null, .null, .int 0, .int 0, .null])), (q_1, .inr (2, [.ref q_2, .int 0])), (q_2, .inl (ca 0, 16, .inl (fun _ => 0))), (q_3, .inr (3, [.ref q_4, .int 0])), (q_4, .inl (ca 1, 4, .inl (fun _ => 0))), (q_5, .inr (3, [.ref q_6, .int 0])), (q_6, .inl (ca 1, 4, .inl (fun _ => 0))), (q_7, .inr (3, [.ref q_8, .int 0])), (q_8, .inl (ca 1, 4, .inl (fun _ => 0)))] H := hP
  have hD : va_D A [(h0, .inr (6, [.ref q_1, .int 0, .int 0, .ref q_3, .ref q_5, .null, .null, .null, .null, .null, .null, .null, .int 0, .int 0, .null])), (q_1, .inr (2, [.ref q_2, .int 0])), (q_2, .inl (ca 0, 16, .inl (fun _ => 0))), (q_3, .inr (3, [.ref q_4, .int 0])), (q_4, .inl (ca 1, 4, .inl (fun _ => 0))), (q_5, .inr (3, [.ref q_6, .int 0])), (q_6, .inl (ca 1, 4, .inl (fun _ => 0))), (q_7, .inr (3, [.ref q_8, .int 0])), (q_8, .inl (ca 1, 4, .inl (fun _ => 0)))] := hD
  refine W.eq (g2 := F0 m 48 ls [.ref q_7, .ref h0]) rfl ?_
  refine W.widen (k := 8) (n := 36) (Nat.le_of_ble_eq_true rfl) (Nat.le_of_ble_eq_true rfl) ?_
  refine va_putF (D := (dC, dI)) (ci := 6) (v := .ref q_7) (ty := .object "SourceBackModel$Ints") (C := R_MX) (T := F_MX) (N := 15) hx hb hts i_MX t_MX t_MX_ok n_MX hown hK.1 hP hD hS 0 rfl rfl 5 (by decide) (hts _ xm_229) (fun _ h9 => h9) rfl hin rfl (by decide +kernel) rfl rfl (Nat.le_of_ble_eq_true rfl) d_MX_init_48 (fun H locs hP hD hS => ?_)
  have hP : va_P (dC, dI) classes [(h0, .inr (6, [.ref q_1, .int 0, .int 0, .ref q_3, .ref q_5, .ref q_7, .null, .null, .null, .null, .null, .null, .int 0, .int 0, .null])), (q_1, .inr (2, [.ref q_2, .int 0])), (q_2, .inl (ca 0, 16, .inl (fun _ => 0))), (q_3, .inr (3, [.ref q_4, .int 0])), (q_4, .inl (ca 1, 4, .inl (fun _ => 0))), (q_5, .inr (3, [.ref q_6, .int 0])), (q_6, .inl (ca 1, 4, .inl (fun _ => 0))), (q_7, .inr (3, [.ref q_8, .int 0])), (q_8, .inl (ca 1, 4, .inl (fun _ => 0)))] H := hP
  have hD : va_D A [(h0, .inr (6, [.ref q_1, .int 0, .int 0, .ref q_3, .ref q_5, .ref q_7, .null, .null, .null, .null, .null, .null, .int 0, .int 0, .null])), (q_1, .inr (2, [.ref q_2, .int 0])), (q_2, .inl (ca 0, 16, .inl (fun _ => 0))), (q_3, .inr (3, [.ref q_4, .int 0])), (q_4, .inl (ca 1, 4, .inl (fun _ => 0))), (q_5, .inr (3, [.ref q_6, .int 0])), (q_6, .inl (ca 1, 4, .inl (fun _ => 0))), (q_7, .inr (3, [.ref q_8, .int 0])), (q_8, .inl (ca 1, 4, .inl (fun _ => 0)))] := hD
  refine lv_aload_n hx hb d_MX_init_51 rfl (lv_at hl 0 rfl) ?_
  refine va_new (ci := 3) (fs := [.null, .int 0]) (C := R_MI) (T := F_MI) (N := 2) hx hb hts i_MI t_MI t_MI_ok hown (hts _ xm_221) (hts _ xm_33) (hts _ xm_3) hK.1 hP hD hS hA rfl (by decide +kernel) (Nat.le_of_ble_eq_true rfl) (Nat.le_of_ble_eq_true rfl) d_MX_init_52 (fun q_9 H hP hD hS => ?_)
  have hP : va_P (dC, dI) classes [(h0, .inr (6, [.ref q_1, .int 0, .int 0, .ref q_3, .ref q_5, .ref q_7, .null, .null, .null, .null, .null, .null, .int 0, .int 0, .null])), (q_1, .inr (2, [.ref q_2, .int 0])), (q_2, .inl (ca 0, 16, .inl (fun _ => 0))), (q_3, .inr (3, [.ref q_4, .int 0])), (q_4, .inl (ca 1, 4, .inl (fun _ => 0))), (q_5, .inr (3, [.ref q_6, .int 0])), (q_6, .inl (ca 1, 4, .inl (fun _ => 0))), (q_7, .inr (3, [.ref q_8, .int 0])), (q_8, .inl (ca 1, 4, .inl (fun _ => 0))), (q_9, .inr (3, [.null, .int 0]))] H := hP
  have hD : va_D A [(h0, .inr (6, [.ref q_1, .int 0, .int 0, .ref q_3, .ref q_5, .ref q_7, .null, .null, .null, .null, .null, .null, .int 0, .int 0, .null])), (q_1, .inr (2, [.ref q_2, .int 0])), (q_2, .inl (ca 0, 16, .inl (fun _ => 0))), (q_3, .inr (3, [.ref q_4, .int 0])), (q_4, .inl (ca 1, 4, .inl (fun _ => 0))), (q_5, .inr (3, [.ref q_6, .int 0])), (q_6, .inl (ca 1, 4, .inl (fun _ => 0))), (q_7, .inr (3, [.ref q_8, .int 0])), (q_8, .inl (ca 1, 4, .inl (fun _ => 0))), (q_9, .inr (3, [.null, .int 0]))] := hD
  refine W.widen (k := 9) (n := 38) (Nat.le_of_ble_eq_true rfl) (Nat.le_of_ble_eq_true rfl) ?_
  refine lv_dup hx hb d_MX_init_55 rfl ?_
  refine lv_iconst (v := 4) hx hb d_MX_init_56 (by decide) ?_
  refine ax_I (k := 1) (As := [.int 4]) (rest := [.ref q_9, .ref h0]) (wr := [(h0, .inr (6, [.ref q_1, .int 0, .int 0, .ref q_3, .ref q_5, .ref q_7, .null, .null, .null, .null, .null, .null, .int 0, .int 0, .null])), (q_1, .inr (2, [.ref q_2, .int 0])), (q_2, .inl (ca 0, 16, .inl (fun _ => 0))), (q_3, .inr (3, [.ref q_4, .int 0])), (q_4, .inl (ca 1, 4, .inl (fun _ => 0))), (q_5, .inr (3, [.ref q_6, .int 0])), (q_6, .inl (ca 1, 4, .inl (fun _ => 0))), (q_7, .inr (3, [.ref q_8, .int 0])), (q_8, .inl (ca 1, 4, .inl (fun _ => 0)))]) rfl hx hb hml hown hts g_wm (mK_bl dC dI ca) (c_MI_init l dC dI ca q_9) rfl xm_222 xm_35 xm_3 xm_36 (by decide +kernel) rfl (Nat.le_of_ble_eq_true rfl) (Nat.le_of_ble_eq_true rfl) hl.1 (Nat.le_of_ble_eq_true rfl) (mK_up hK) hP hD hS hA [9] [0, 1, 2, 3, 4, 5, 6, 7, 8] rfl (by decide) rfl rfl (by decide) (by decide) (Nat.le_of_ble_eq_true rfl) (Nat.le_of_ble_eq_true rfl) d_MX_init_57 (fun v q_10 H locs hp hP hD hS => ?_)
  obtain rfl : v = none := hp
  have hP : va_P (dC, dI) classes [(h0, .inr (6, [.ref q_1, .int 0, .int 0, .ref q_3, .ref q_5, .ref q_7, .null, .null, .null, .null, .null, .null, .int 0, .int 0, .null])), (q_1, .inr (2, [.ref q_2, .int 0])), (q_2, .inl (ca 0, 16, .inl (fun _ => 0))), (q_3, .inr (3, [.ref q_4, .int 0])), (q_4, .inl (ca 1, 4, .inl (fun _ => 0))), (q_5, .inr (3, [.ref q_6, .int 0])), (q_6, .inl (ca 1, 4, .inl (fun _ => 0))), (q_7, .inr (3, [.ref q_8, .int 0])), (q_8, .inl (ca 1, 4, .inl (fun _ => 0))), (q_9, .inr (3, [.ref q_10, .int 0])), (q_10, .inl (ca 1, 4, .inl (fun _ => 0)))] H := hP
  have hD : va_D A [(h0, .inr (6, [.ref q_1, .int 0, .int 0, .ref q_3, .ref q_5, .ref q_7, .null, .null, .null, .null, .null, .null, .int 0, .int 0, .null])), (q_1, .inr (2, [.ref q_2, .int 0])), (q_2, .inl (ca 0, 16, .inl (fun _ => 0))), (q_3, .inr (3, [.ref q_4, .int 0])), (q_4, .inl (ca 1, 4, .inl (fun _ => 0))), (q_5, .inr (3, [.ref q_6, .int 0])), (q_6, .inl (ca 1, 4, .inl (fun _ => 0))), (q_7, .inr (3, [.ref q_8, .int 0])), (q_8, .inl (ca 1, 4, .inl (fun _ => 0))), (q_9, .inr (3, [.ref q_10, .int 0])), (q_10, .inl (ca 1, 4, .inl (fun _ => 0)))] := hD
  refine W.eq (g2 := F0 m 60 ls [.ref q_9, .ref h0]) rfl ?_
  refine W.widen (k := 10) (n := 42) (Nat.le_of_ble_eq_true rfl) (Nat.le_of_ble_eq_true rfl) ?_
  refine va_putF (D := (dC, dI)) (ci := 6) (v := .ref q_9) (ty := .object "SourceBackModel$Ints") (C := R_MX) (T := F_MX) (N := 15) hx hb hts i_MX t_MX t_MX_ok n_MX hown hK.1 hP hD hS 0 rfl rfl 6 (by decide) (hts _ xm_230) (fun _ h9 => h9) rfl hin rfl (by decide +kernel) rfl rfl (Nat.le_of_ble_eq_true rfl) d_MX_init_60 (fun H locs hP hD hS => ?_)
  have hP : va_P (dC, dI) classes [(h0, .inr (6, [.ref q_1, .int 0, .int 0, .ref q_3, .ref q_5, .ref q_7, .ref q_9, .null, .null, .null, .null, .null, .int 0, .int 0, .null])), (q_1, .inr (2, [.ref q_2, .int 0])), (q_2, .inl (ca 0, 16, .inl (fun _ => 0))), (q_3, .inr (3, [.ref q_4, .int 0])), (q_4, .inl (ca 1, 4, .inl (fun _ => 0))), (q_5, .inr (3, [.ref q_6, .int 0])), (q_6, .inl (ca 1, 4, .inl (fun _ => 0))), (q_7, .inr (3, [.ref q_8, .int 0])), (q_8, .inl (ca 1, 4, .inl (fun _ => 0))), (q_9, .inr (3, [.ref q_10, .int 0])), (q_10, .inl (ca 1, 4, .inl (fun _ => 0)))] H := hP
  have hD : va_D A [(h0, .inr (6, [.ref q_1, .int 0, .int 0, .ref q_3, .ref q_5, .ref q_7, .ref q_9, .null, .null, .null, .null, .null, .int 0, .int 0, .null])), (q_1, .inr (2, [.ref q_2, .int 0])), (q_2, .inl (ca 0, 16, .inl (fun _ => 0))), (q_3, .inr (3, [.ref q_4, .int 0])), (q_4, .inl (ca 1, 4, .inl (fun _ => 0))), (q_5, .inr (3, [.ref q_6, .int 0])), (q_6, .inl (ca 1, 4, .inl (fun _ => 0))), (q_7, .inr (3, [.ref q_8, .int 0])), (q_8, .inl (ca 1, 4, .inl (fun _ => 0))), (q_9, .inr (3, [.ref q_10, .int 0])), (q_10, .inl (ca 1, 4, .inl (fun _ => 0)))] := hD
  refine lv_aload_n hx hb d_MX_init_63 rfl (lv_at hl 0 rfl) ?_
  refine va_new (ci := 3) (fs := [.null, .int 0]) (C := R_MI) (T := F_MI) (N := 2) hx hb hts i_MI t_MI t_MI_ok hown (hts _ xm_221) (hts _ xm_33) (hts _ xm_3) hK.1 hP hD hS hA rfl (by decide +kernel) (Nat.le_of_ble_eq_true rfl) (Nat.le_of_ble_eq_true rfl) d_MX_init_64 (fun q_11 H hP hD hS => ?_)
  have hP : va_P (dC, dI) classes [(h0, .inr (6, [.ref q_1, .int 0, .int 0, .ref q_3, .ref q_5, .ref q_7, .ref q_9, .null, .null, .null, .null, .null, .int 0, .int 0, .null])), (q_1, .inr (2, [.ref q_2, .int 0])), (q_2, .inl (ca 0, 16, .inl (fun _ => 0))), (q_3, .inr (3, [.ref q_4, .int 0])), (q_4, .inl (ca 1, 4, .inl (fun _ => 0))), (q_5, .inr (3, [.ref q_6, .int 0])), (q_6, .inl (ca 1, 4, .inl (fun _ => 0))), (q_7, .inr (3, [.ref q_8, .int 0])), (q_8, .inl (ca 1, 4, .inl (fun _ => 0))), (q_9, .inr (3, [.ref q_10, .int 0])), (q_10, .inl (ca 1, 4, .inl (fun _ => 0))), (q_11, .inr (3, [.null, .int 0]))] H := hP
  have hD : va_D A [(h0, .inr (6, [.ref q_1, .int 0, .int 0, .ref q_3, .ref q_5, .ref q_7, .ref q_9, .null, .null, .null, .null, .null, .int 0, .int 0, .null])), (q_1, .inr (2, [.ref q_2, .int 0])), (q_2, .inl (ca 0, 16, .inl (fun _ => 0))), (q_3, .inr (3, [.ref q_4, .int 0])), (q_4, .inl (ca 1, 4, .inl (fun _ => 0))), (q_5, .inr (3, [.ref q_6, .int 0])), (q_6, .inl (ca 1, 4, .inl (fun _ => 0))), (q_7, .inr (3, [.ref q_8, .int 0])), (q_8, .inl (ca 1, 4, .inl (fun _ => 0))), (q_9, .inr (3, [.ref q_10, .int 0])), (q_10, .inl (ca 1, 4, .inl (fun _ => 0))), (q_11, .inr (3, [.null, .int 0]))] := hD
  refine W.widen (k := 11) (n := 44) (Nat.le_of_ble_eq_true rfl) (Nat.le_of_ble_eq_true rfl) ?_
  refine lv_dup hx hb d_MX_init_67 rfl ?_
  refine lv_iconst (v := 4) hx hb d_MX_init_68 (by decide) ?_
  refine ax_I (k := 1) (As := [.int 4]) (rest := [.ref q_11, .ref h0]) (wr := [(h0, .inr (6, [.ref q_1, .int 0, .int 0, .ref q_3, .ref q_5, .ref q_7, .ref q_9, .null, .null, .null, .null, .null, .int 0, .int 0, .null])), (q_1, .inr (2, [.ref q_2, .int 0])), (q_2, .inl (ca 0, 16, .inl (fun _ => 0))), (q_3, .inr (3, [.ref q_4, .int 0])), (q_4, .inl (ca 1, 4, .inl (fun _ => 0))), (q_5, .inr (3, [.ref q_6, .int 0])), (q_6, .inl (ca 1, 4, .inl (fun _ => 0))), (q_7, .inr (3, [.ref q_8, .int 0])), (q_8, .inl (ca 1, 4, .inl (fun _ => 0))), (q_9, .inr (3, [.ref q_10, .int 0])), (q_10, .inl (ca 1, 4, .inl (fun _ => 0)))]) rfl hx hb hml hown hts g_wm (mK_bl dC dI ca) (c_MI_init l dC dI ca q_11) rfl xm_222 xm_35 xm_3 xm_36 (by decide +kernel) rfl (Nat.le_of_ble_eq_true rfl) (Nat.le_of_ble_eq_true rfl) hl.1 (Nat.le_of_ble_eq_true rfl) (mK_up hK) hP hD hS hA [11] [0, 1, 2, 3, 4, 5, 6, 7, 8, 9, 10] rfl (by decide) rfl rfl (by decide) (by decide) (Nat.le_of_ble_eq_true rfl) (Nat.le_of_ble_eq_true rfl) d_MX_init_69 (fun v q_12 H locs hp hP hD hS => ?_)
  obtain rfl : v = none := hp
  have hP : va_P (dC, dI) classes [(h0, .inr (6, [.ref q_1, .int 0, .int 0, .ref q_3, .ref q_5, .ref q_7, .ref q_9, .null, .null, .null, .null, .null, .int 0, .int 0, .null])), (q_1, .inr (2, [.ref q_2, .int 0])), (q_2, .inl (ca 0, 16, .inl (fun _ => 0))), (q_3, .inr (3, [.ref q_4, .int 0])), (q_4, .inl (ca 1, 4, .inl (fun _ => 0))), (q_5, .inr (3, [.ref q_6, .int 0])), (q_6, .inl (ca 1, 4, .inl (fun _ => 0))), (q_7, .inr (3, [.ref q_8, .int 0])), (q_8, .inl (ca 1, 4, .inl (fun _ => 0))), (q_9, .inr (3, [.ref q_10, .int 0])), (q_10, .inl (ca 1, 4, .inl (fun _ => 0))), (q_11, .inr (3, [.ref q_12, .int 0])), (q_12, .inl (ca 1, 4, .inl (fun _ => 0)))] H := hP
  have hD : va_D A [(h0, .inr (6, [.ref q_1, .int 0, .int 0, .ref q_3, .ref q_5, .ref q_7, .ref q_9, .null, .null, .null, .null, .null, .int 0, .int 0, .null])), (q_1, .inr (2, [.ref q_2, .int 0])), (q_2, .inl (ca 0, 16, .inl (fun _ => 0))), (q_3, .inr (3, [.ref q_4, .int 0])), (q_4, .inl (ca 1, 4, .inl (fun _ => 0))), (q_5, .inr (3, [.ref q_6, .int 0])), (q_6, .inl (ca 1, 4, .inl (fun _ => 0))), (q_7, .inr (3, [.ref q_8, .int 0])), (q_8, .inl (ca 1, 4, .inl (fun _ => 0))), (q_9, .inr (3, [.ref q_10, .int 0])), (q_10, .inl (ca 1, 4, .inl (fun _ => 0))), (q_11, .inr (3, [.ref q_12, .int 0])), (q_12, .inl (ca 1, 4, .inl (fun _ => 0)))] := hD
  refine W.eq (g2 := F0 m 72 ls [.ref q_11, .ref h0]) rfl ?_
  refine W.widen (k := 12) (n := 48) (Nat.le_of_ble_eq_true rfl) (Nat.le_of_ble_eq_true rfl) ?_
  refine va_putF (D := (dC, dI)) (ci := 6) (v := .ref q_11) (ty := .object "SourceBackModel$Ints") (C := R_MX) (T := F_MX) (N := 15) hx hb hts i_MX t_MX t_MX_ok n_MX hown hK.1 hP hD hS 0 rfl rfl 7 (by decide) (hts _ xm_231) (fun _ h9 => h9) rfl hin rfl (by decide +kernel) rfl rfl (Nat.le_of_ble_eq_true rfl) d_MX_init_72 (fun H locs hP hD hS => ?_)
  have hP : va_P (dC, dI) classes [(h0, .inr (6, [.ref q_1, .int 0, .int 0, .ref q_3, .ref q_5, .ref q_7, .ref q_9, .ref q_11, .null, .null, .null, .null, .int 0, .int 0, .null])), (q_1, .inr (2, [.ref q_2, .int 0])), (q_2, .inl (ca 0, 16, .inl (fun _ => 0))), (q_3, .inr (3, [.ref q_4, .int 0])), (q_4, .inl (ca 1, 4, .inl (fun _ => 0))), (q_5, .inr (3, [.ref q_6, .int 0])), (q_6, .inl (ca 1, 4, .inl (fun _ => 0))), (q_7, .inr (3, [.ref q_8, .int 0])), (q_8, .inl (ca 1, 4, .inl (fun _ => 0))), (q_9, .inr (3, [.ref q_10, .int 0])), (q_10, .inl (ca 1, 4, .inl (fun _ => 0))), (q_11, .inr (3, [.ref q_12, .int 0])), (q_12, .inl (ca 1, 4, .inl (fun _ => 0)))] H := hP
  have hD : va_D A [(h0, .inr (6, [.ref q_1, .int 0, .int 0, .ref q_3, .ref q_5, .ref q_7, .ref q_9, .ref q_11, .null, .null, .null, .null, .int 0, .int 0, .null])), (q_1, .inr (2, [.ref q_2, .int 0])), (q_2, .inl (ca 0, 16, .inl (fun _ => 0))), (q_3, .inr (3, [.ref q_4, .int 0])), (q_4, .inl (ca 1, 4, .inl (fun _ => 0))), (q_5, .inr (3, [.ref q_6, .int 0])), (q_6, .inl (ca 1, 4, .inl (fun _ => 0))), (q_7, .inr (3, [.ref q_8, .int 0])), (q_8, .inl (ca 1, 4, .inl (fun _ => 0))), (q_9, .inr (3, [.ref q_10, .int 0])), (q_10, .inl (ca 1, 4, .inl (fun _ => 0))), (q_11, .inr (3, [.ref q_12, .int 0])), (q_12, .inl (ca 1, 4, .inl (fun _ => 0)))] := hD
  refine lv_aload_n hx hb d_MX_init_75 rfl (lv_at hl 0 rfl) ?_
  refine va_new (ci := 4) (fs := [.null, .int 0]) (C := R_ML) (T := F_ML) (N := 2) hx hb hts i_ML t_ML t_ML_ok hown (hts _ xm_223) (hts _ xm_50) (hts _ xm_5) hK.1 hP hD hS hA rfl (by decide +kernel) (Nat.le_of_ble_eq_true rfl) (Nat.le_of_ble_eq_true rfl) d_MX_init_76 (fun q_13 H hP hD hS => ?_)
  have hP : va_P (dC, dI) classes [(h0, .inr (6, [.ref q_1, .int 0, .int 0, .ref q_3, .ref q_5, .ref q_7, .ref q_9, .ref q_11, .null, .null, .null, .null, .int 0, .int 0, .null])), (q_1, .inr (2, [.ref q_2, .int 0])), (q_2, .inl (ca 0, 16, .inl (fun _ => 0))), (q_3, .inr (3, [.ref q_4, .int 0])), (q_4, .inl (ca 1, 4, .inl (fun _ => 0))), (q_5, .inr (3, [.ref q_6, .int 0])), (q_6, .inl (ca 1, 4, .inl (fun _ => 0))), (q_7, .inr (3, [.ref q_8, .int 0])), (q_8, .inl (ca 1, 4, .inl (fun _ => 0))), (q_9, .inr (3, [.ref q_10, .int 0])), (q_10, .inl (ca 1, 4, .inl (fun _ => 0))), (q_11, .inr (3, [.ref q_12, .int 0])), (q_12, .inl (ca 1, 4, .inl (fun _ => 0))), (q_13, .inr (4, [.null, .int 0]))] H := hP
  have hD : va_D A [(h0, .inr (6, [.ref q_1, .int 0, .int 0, .ref q_3, .ref q_5, .ref q_7, .ref q_9, .ref q_11, .null, .null, .null, .null, .int 0, .int 0, .null])), (q_1, .inr (2, [.ref q_2, .int 0])), (q_2, .inl (ca 0, 16, .inl (fun _ => 0))), (q_3, .inr (3, [.ref q_4, .int 0])), (q_4, .inl (ca 1, 4, .inl (fun _ => 0))), (q_5, .inr (3, [.ref q_6, .int 0])), (q_6, .inl (ca 1, 4, .inl (fun _ => 0))), (q_7, .inr (3, [.ref q_8, .int 0])), (q_8, .inl (ca 1, 4, .inl (fun _ => 0))), (q_9, .inr (3, [.ref q_10, .int 0])), (q_10, .inl (ca 1, 4, .inl (fun _ => 0))), (q_11, .inr (3, [.ref q_12, .int 0])), (q_12, .inl (ca 1, 4, .inl (fun _ => 0))), (q_13, .inr (4, [.null, .int 0]))] := hD
  refine W.widen (k := 13) (n := 50) (Nat.le_of_ble_eq_true rfl) (Nat.le_of_ble_eq_true rfl) ?_
  refine lv_dup hx hb d_MX_init_79 rfl ?_
  refine lv_iconst (v := 4) hx hb d_MX_init_80 (by decide) ?_
  refine ax_I (k := 1) (As := [.int 4]) (rest := [.ref q_13, .ref h0]) (wr := [(h0, .inr (6, [.ref q_1, .int 0, .int 0, .ref q_3, .ref q_5, .ref q_7, .ref q_9, .ref q_11, .null, .null, .null, .null, .int 0, .int 0, .null])), (q_1, .inr (2, [.ref q_2, .int 0])), (q_2, .inl (ca 0, 16, .inl (fun _ => 0))), (q_3, .inr (3, [.ref q_4, .int 0])), (q_4, .inl (ca 1, 4, .inl (fun _ => 0))), (q_5, .inr (3, [.ref q_6, .int 0])), (q_6, .inl (ca 1, 4, .inl (fun _ => 0))), (q_7, .inr (3, [.ref q_8, .int 0])), (q_8, .inl (ca 1, 4, .inl (fun _ => 0))), (q_9, .inr (3, [.ref q_10, .int 0])), (q_10, .inl (ca 1, 4, .inl (fun _ => 0))), (q_11, .inr (3, [.ref q_12, .int 0])), (q_12, .inl (ca 1, 4, .inl (fun _ => 0)))]) rfl hx hb hml hown hts g_wm (mK_bl dC dI ca) (c_ML_init l dC dI ca q_13) rfl xm_224 xm_52 xm_5 xm_53 (by decide +kernel) rfl (Nat.le_of_ble_eq_true rfl) (Nat.le_of_ble_eq_true rfl) hl.1 (Nat.le_of_ble_eq_true rfl) (mK_up hK) hP hD hS hA [13] [0, 1, 2, 3, 4, 5, 6, 7, 8, 9, 10, 11, 12] rfl (by decide) rfl rfl (by decide) (by decide) (Nat.le_of_ble_eq_true rfl) (Nat.le_of_ble_eq_true rfl) d_MX_init_81 (fun v q_14 H locs hp hP hD hS => ?_)
  obtain rfl : v = none := hp
  have hP : va_P (dC, dI) classes [(h0, .inr (6, [.ref q_1, .int 0, .int 0, .ref q_3, .ref q_5, .ref q_7, .ref q_9, .ref q_11, .null, .null, .null, .null, .int 0, .int 0, .null])), (q_1, .inr (2, [.ref q_2, .int 0])), (q_2, .inl (ca 0, 16, .inl (fun _ => 0))), (q_3, .inr (3, [.ref q_4, .int 0])), (q_4, .inl (ca 1, 4, .inl (fun _ => 0))), (q_5, .inr (3, [.ref q_6, .int 0])), (q_6, .inl (ca 1, 4, .inl (fun _ => 0))), (q_7, .inr (3, [.ref q_8, .int 0])), (q_8, .inl (ca 1, 4, .inl (fun _ => 0))), (q_9, .inr (3, [.ref q_10, .int 0])), (q_10, .inl (ca 1, 4, .inl (fun _ => 0))), (q_11, .inr (3, [.ref q_12, .int 0])), (q_12, .inl (ca 1, 4, .inl (fun _ => 0))), (q_13, .inr (4, [.ref q_14, .int 0])), (q_14, .inl (ca 2, 4, .inr (.inl (fun _ => 0))))] H := hP
  have hD : va_D A [(h0, .inr (6, [.ref q_1, .int 0, .int 0, .ref q_3, .ref q_5, .ref q_7, .ref q_9, .ref q_11, .null, .null, .null, .null, .int 0, .int 0, .null])), (q_1, .inr (2, [.ref q_2, .int 0])), (q_2, .inl (ca 0, 16, .inl (fun _ => 0))), (q_3, .inr (3, [.ref q_4, .int 0])), (q_4, .inl (ca 1, 4, .inl (fun _ => 0))), (q_5, .inr (3, [.ref q_6, .int 0])), (q_6, .inl (ca 1, 4, .inl (fun _ => 0))), (q_7, .inr (3, [.ref q_8, .int 0])), (q_8, .inl (ca 1, 4, .inl (fun _ => 0))), (q_9, .inr (3, [.ref q_10, .int 0])), (q_10, .inl (ca 1, 4, .inl (fun _ => 0))), (q_11, .inr (3, [.ref q_12, .int 0])), (q_12, .inl (ca 1, 4, .inl (fun _ => 0))), (q_13, .inr (4, [.ref q_14, .int 0])), (q_14, .inl (ca 2, 4, .inr (.inl (fun _ => 0))))] := hD
  refine W.eq (g2 := F0 m 84 ls [.ref q_13, .ref h0]) rfl ?_
  refine W.widen (k := 14) (n := 54) (Nat.le_of_ble_eq_true rfl) (Nat.le_of_ble_eq_true rfl) ?_
  refine va_putF (D := (dC, dI)) (ci := 6) (v := .ref q_13) (ty := .object "SourceBackModel$Longs") (C := R_MX) (T := F_MX) (N := 15) hx hb hts i_MX t_MX t_MX_ok n_MX hown hK.1 hP hD hS 0 rfl rfl 8 (by decide) (hts _ xm_232) (fun _ h9 => h9) rfl hin rfl (by decide +kernel) rfl rfl (Nat.le_of_ble_eq_true rfl) d_MX_init_84 (fun H locs hP hD hS => ?_)
  have hP : va_P (dC, dI) classes [(h0, .inr (6, [.ref q_1, .int 0, .int 0, .ref q_3, .ref q_5, .ref q_7, .ref q_9, .ref q_11, .ref q_13, .null, .null, .null, .int 0, .int 0, .null])), (q_1, .inr (2, [.ref q_2, .int 0])), (q_2, .inl (ca 0, 16, .inl (fun _ => 0))), (q_3, .inr (3, [.ref q_4, .int 0])), (q_4, .inl (ca 1, 4, .inl (fun _ => 0))), (q_5, .inr (3, [.ref q_6, .int 0])), (q_6, .inl (ca 1, 4, .inl (fun _ => 0))), (q_7, .inr (3, [.ref q_8, .int 0])), (q_8, .inl (ca 1, 4, .inl (fun _ => 0))), (q_9, .inr (3, [.ref q_10, .int 0])), (q_10, .inl (ca 1, 4, .inl (fun _ => 0))), (q_11, .inr (3, [.ref q_12, .int 0])), (q_12, .inl (ca 1, 4, .inl (fun _ => 0))), (q_13, .inr (4, [.ref q_14, .int 0])), (q_14, .inl (ca 2, 4, .inr (.inl (fun _ => 0))))] H := hP
  have hD : va_D A [(h0, .inr (6, [.ref q_1, .int 0, .int 0, .ref q_3, .ref q_5, .ref q_7, .ref q_9, .ref q_11, .ref q_13, .null, .null, .null, .int 0, .int 0, .null])), (q_1, .inr (2, [.ref q_2, .int 0])), (q_2, .inl (ca 0, 16, .inl (fun _ => 0))), (q_3, .inr (3, [.ref q_4, .int 0])), (q_4, .inl (ca 1, 4, .inl (fun _ => 0))), (q_5, .inr (3, [.ref q_6, .int 0])), (q_6, .inl (ca 1, 4, .inl (fun _ => 0))), (q_7, .inr (3, [.ref q_8, .int 0])), (q_8, .inl (ca 1, 4, .inl (fun _ => 0))), (q_9, .inr (3, [.ref q_10, .int 0])), (q_10, .inl (ca 1, 4, .inl (fun _ => 0))), (q_11, .inr (3, [.ref q_12, .int 0])), (q_12, .inl (ca 1, 4, .inl (fun _ => 0))), (q_13, .inr (4, [.ref q_14, .int 0])), (q_14, .inl (ca 2, 4, .inr (.inl (fun _ => 0))))] := hD
  refine lv_aload_n hx hb d_MX_init_87 rfl (lv_at hl 0 rfl) ?_
  refine va_new (ci := 3) (fs := [.null, .int 0]) (C := R_MI) (T := F_MI) (N := 2) hx hb hts i_MI t_MI t_MI_ok hown (hts _ xm_221) (hts _ xm_33) (hts _ xm_3) hK.1 hP hD hS hA rfl (by decide +kernel) (Nat.le_of_ble_eq_true rfl) (Nat.le_of_ble_eq_true rfl) d_MX_init_88 (fun q_15 H hP hD hS => ?_)
  have hP : va_P (dC, dI) classes [(h0, .inr (6, [.ref q_1, .int 0, .int 0, .ref q_3, .ref q_5, .ref q_7, .ref q_9, .ref q_11, .ref q_13, .null, .null, .null, .int 0, .int 0, .null])), (q_1, .inr (2, [.ref q_2, .int 0])), (q_2, .inl (ca 0, 16, .inl (fun _ => 0))), (q_3, .inr (3, [.ref q_4, .int 0])), (q_4, .inl (ca 1, 4, .inl (fun _ => 0))), (q_5, .inr (3, [.ref q_6, .int 0])), (q_6, .inl (ca 1, 4, .inl (fun _ => 0))), (q_7, .inr (3, [.ref q_8, .int 0])), (q_8, .inl (ca 1, 4, .inl (fun _ => 0))), (q_9, .inr (3, [.ref q_10, .int 0])), (q_10, .inl (ca 1, 4, .inl (fun _ => 0))), (q_11, .inr (3, [.ref q_12, .int 0])), (q_12, .inl (ca 1, 4, .inl (fun _ => 0))), (q_13, .inr (4, [.ref q_14, .int 0])), (q_14, .inl (ca 2, 4, .inr (.inl (fun _ => 0)))), (q_15, .inr (3, [.null, .int 0]))] H := hP
  have hD : va_D A [(h0, .inr (6, [.ref q_1, .int 0, .int 0, .ref q_3, .ref q_5, .ref q_7, .ref q_9, .ref q_11, .ref q_13, .null, .null, .null, .int 0, .int 0, .null])), (q_1, .inr (2, [.ref q_2, .int 0])), (q_2, .inl (ca 0, 16, .inl (fun _ => 0))), (q_3, .inr (3, [.ref q_4, .int 0])), (q_4, .inl (ca 1, 4, .inl (fun _ => 0))), (q_5, .inr (3, [.ref q_6, .int 0])), (q_6, .inl (ca 1, 4, .inl (fun _ => 0))), (q_7, .inr (3, [.ref q_8, .int 0])), (q_8, .inl (ca 1, 4, .inl (fun _ => 0))), (q_9, .inr (3, [.ref q_10, .int 0])), (q_10, .inl (ca 1, 4, .inl (fun _ => 0))), (q_11, .inr (3, [.ref q_12, .int 0])), (q_12, .inl (ca 1, 4, .inl (fun _ => 0))), (q_13, .inr (4, [.ref q_14, .int 0])), (q_14, .inl (ca 2, 4, .inr (.inl (fun _ => 0)))), (q_15, .inr (3, [.null, .int 0]))] := hD
  refine W.widen (k := 15) (n := 56) (Nat.le_of_ble_eq_true rfl) (Nat.le_of_ble_eq_true rfl) ?_
  refine lv_dup hx hb d_MX_init_91 rfl ?_
  refine lv_iconst (v := 4) hx hb d_MX_init_92 (by decide) ?_
  refine ax_I (k := 1) (As := [.int 4]) (rest := [.ref q_15, .ref h0]) (wr := [(h0, .inr (6, [.ref q_1, .int 0, .int 0, .ref q_3, .ref q_5, .ref q_7, .ref q_9, .ref q_11, .ref q_13, .null, .null, .null, .int 0, .int 0, .null])), (q_1, .inr (2, [.ref q_2, .int 0])), (q_2, .inl (ca 0, 16, .inl (fun _ => 0))), (q_3, .inr (3, [.ref q_4, .int 0])), (q_4, .inl (ca 1, 4, .inl (fun _ => 0))), (q_5, .inr (3, [.ref q_6, .int 0])), (q_6, .inl (ca 1, 4, .inl (fun _ => 0))), (q_7, .inr (3, [.ref q_8, .int 0])), (q_8, .inl (ca 1, 4, .inl (fun _ => 0))), (q_9, .inr (3, [.ref q_10, .int 0])), (q_10, .inl (ca 1, 4, .inl (fun _ => 0))), (q_11, .inr (3, [.ref q_12, .int 0])), (q_12, .inl (ca 1, 4, .inl (fun _ => 0))), (q_13, .inr (4, [.ref q_14, .int 0])), (q_14, .inl (ca 2, 4, .inr (.inl (fun _ => 0))))]) rfl hx hb hml hown hts g_wm (mK_bl dC dI ca) (c_MI_init l dC dI ca q_15) rfl xm_222 xm_35 xm_3 xm_36 (by decide +kernel) rfl (Nat.le_of_ble_eq_true rfl) (Nat.le_of_ble_eq_true rfl) hl.1 (Nat.le_of_ble_eq_true rfl) (mK_up hK) hP hD hS hA [15] [0, 1, 2, 3, 4, 5, 6, 7, 8, 9, 10, 11, 12, 13, 14] rfl (by decide) rfl rfl (by decide) (by decide) (Nat.le_of_ble_eq_true rfl) (Nat.le_of_ble_eq_true rfl) d_MX_init_93 (fun v q_16 H locs hp hP hD hS => ?_)
  obtain rfl : v = none := hp
  have hP : va_P (dC, dI) classes [(h0, .inr (6, [.ref q_1, .int 0, .int 0, .ref q_3, .ref q_5, .ref q_7, .ref q_9, .ref q_11, .ref q_13, .null, .null, .null, .int 0, .int 0, .null])), (q_1, .inr (2, [.ref q_2, .int 0])), (q_2, .inl (ca 0, 16, .inl (fun _ => 0))), (q_3, .inr (3, [.ref q_4, .int 0])), (q_4, .inl (ca 1, 4, .inl (fun _ => 0))), (q_5, .inr (3, [.ref q_6, .int 0])), (q_6, .inl (ca 1, 4, .inl (fun _ => 0))), (q_7, .inr (3, [.ref q_8, .int 0])), (q_8, .inl (ca 1, 4, .inl (fun _ => 0))), (q_9, .inr (3, [.ref q_10, .int 0])), (q_10, .inl (ca 1, 4, .inl (fun _ => 0))), (q_11, .inr (3, [.ref q_12, .int 0])), (q_12, .inl (ca 1, 4, .inl (fun _ => 0))), (q_13, .inr (4, [.ref q_14, .int 0])), (q_14, .inl (ca 2, 4, .inr (.inl (fun _ => 0)))), (q_15, .inr (3, [.ref q_16, .int 0])), (q_16, .inl (ca 1, 4, .inl (fun _ => 0)))] H := hP
  have hD : va_D A [(h0, .inr (6, [.ref q_1, .int 0, .int 0, .ref q_3, .ref q_5, .ref q_7, .ref q_9, .ref q_11, .ref q_13, .null, .null, .null, .int 0, .int 0, .null])), (q_1, .inr (2, [.ref q_2, .int 0])), (q_2, .inl (ca 0, 16, .inl (fun _ => 0))), (q_3, .inr (3, [.ref q_4, .int 0])), (q_4, .inl (ca 1, 4, .inl (fun _ => 0))), (q_5, .inr (3, [.ref q_6, .int 0])), (q_6, .inl (ca 1, 4, .inl (fun _ => 0))), (q_7, .inr (3, [.ref q_8, .int 0])), (q_8, .inl (ca 1, 4, .inl (fun _ => 0))), (q_9, .inr (3, [.ref q_10, .int 0])), (q_10, .inl (ca 1, 4, .inl (fun _ => 0))), (q_11, .inr (3, [.ref q_12, .int 0])), (q_12, .inl (ca 1, 4, .inl (fun _ => 0))), (q_13, .inr (4, [.ref q_14, .int 0])), (q_14, .inl (ca 2, 4, .inr (.inl (fun _ => 0)))), (q_15, .inr (3, [.ref q_16, .int 0])), (q_16, .inl (ca 1, 4, .inl (fun _ => 0)))] := hD
  refine W.eq (g2 := F0 m 96 ls [.ref q_15, .ref h0]) rfl ?_
  refine W.widen (k := 16) (n := 60) (Nat.le_of_ble_eq_true rfl) (Nat.le_of_ble_eq_true rfl) ?_
  refine va_putF (D := (dC, dI)) (ci := 6) (v := .ref q_15) (ty := .object "SourceBackModel$Ints") (C := R_MX) (T := F_MX) (N := 15) hx hb hts i_MX t_MX t_MX_ok n_MX hown hK.1 hP hD hS 0 rfl rfl 9 (by decide) (hts _ xm_233) (fun _ h9 => h9) rfl hin rfl (by decide +kernel) rfl rfl (Nat.le_of_ble_eq_true rfl) d_MX_init_96 (fun H locs hP hD hS => ?_)
  have hP : va_P (dC, dI) classes [(h0, .inr (6, [.ref q_1, .int 0, .int 0, .ref q_3, .ref q_5, .ref q_7, .ref q_9, .ref q_11, .ref q_13, .ref q_15, .null, .null, .int 0, .int 0, .null])), (q_1, .inr (2, [.ref q_2, .int 0])), (q_2, .inl (ca 0, 16, .inl (fun _ => 0))), (q_3, .inr (3, [.ref q_4, .int 0])), (q_4, .inl (ca 1, 4, .inl (fun _ => 0))), (q_5, .inr (3, [.ref q_6, .int 0])), (q_6, .inl (ca 1, 4, .inl (fun _ => 0))), (q_7, .inr (3, [.ref q_8, .int 0])), (q_8, .inl (ca 1, 4, .inl (fun _ => 0))), (q_9, .inr (3, [.ref q_10, .int 0])), (q_10, .inl (ca 1, 4, .inl (fun _ => 0))), (q_11, .inr (3, [.ref q_12, .int 0])), (q_12, .inl (ca 1, 4, .inl (fun _ => 0))), (q_13, .inr (4, [.ref q_14, .int 0])), (q_14, .inl (ca 2, 4, .inr (.inl (fun _ => 0)))), (q_15, .inr (3, [.ref q_16, .int 0])), (q_16, .inl (ca 1, 4, .inl (fun _ => 0)))] H := hP
  have hD : va_D A [(h0, .inr (6, [.ref q_1, .int 0, .int 0, .ref q_3, .ref q_5, .ref q_7, .ref q_9, .ref q_11, .ref q_13, .ref q_15, .null, .null, .int 0, .int 0, .null])), (q_1, .inr (2, [.ref q_2, .int 0])), (q_2, .inl (ca 0, 16, .inl (fun _ => 0))), (q_3, .inr (3, [.ref q_4, .int 0])), (q_4, .inl (ca 1, 4, .inl (fun _ => 0))), (q_5, .inr (3, [.ref q_6, .int 0])), (q_6, .inl (ca 1, 4, .inl (fun _ => 0))), (q_7, .inr (3, [.ref q_8, .int 0])), (q_8, .inl (ca 1, 4, .inl (fun _ => 0))), (q_9, .inr (3, [.ref q_10, .int 0])), (q_10, .inl (ca 1, 4, .inl (fun _ => 0))), (q_11, .inr (3, [.ref q_12, .int 0])), (q_12, .inl (ca 1, 4, .inl (fun _ => 0))), (q_13, .inr (4, [.ref q_14, .int 0])), (q_14, .inl (ca 2, 4, .inr (.inl (fun _ => 0)))), (q_15, .inr (3, [.ref q_16, .int 0])), (q_16, .inl (ca 1, 4, .inl (fun _ => 0)))] := hD
  refine lv_aload_n hx hb d_MX_init_99 rfl (lv_at hl 0 rfl) ?_
  refine va_new (ci := 3) (fs := [.null, .int 0]) (C := R_MI) (T := F_MI) (N := 2) hx hb hts i_MI t_MI t_MI_ok hown (hts _ xm_221) (hts _ xm_33) (hts _ xm_3) hK.1 hP hD hS hA rfl (by decide +kernel) (Nat.le_of_ble_eq_true rfl) (Nat.le_of_ble_eq_true rfl) d_MX_init_100 (fun q_17 H hP hD hS => ?_)
  have hP : va_P (dC, dI) classes [(h0, .inr (6, [.ref q_1, .int 0, .int 0, .ref q_3, .ref q_5, .ref q_7, .ref q_9, .ref q_11, .ref q_13, .ref q_15, .null, .null, .int 0, .int 0, .null])), (q_1, .inr (2, [.ref q_2, .int 0])), (q_2, .inl (ca 0, 16, .inl (fun _ => 0))), (q_3, .inr (3, [.ref q_4, .int 0])), (q_4, .inl (ca 1, 4, .inl (fun _ => 0))), (q_5, .inr (3, [.ref q_6, .int 0])), (q_6, .inl (ca 1, 4, .inl (fun _ => 0))), (q_7, .inr (3, [.ref q_8, .int 0])), (q_8, .inl (ca 1, 4, .inl (fun _ => 0))), (q_9, .inr (3, [.ref q_10, .int 0])), (q_10, .inl (ca 1, 4, .inl (fun _ => 0))), (q_11, .inr (3, [.ref q_12, .int 0])), (q_12, .inl (ca 1, 4, .inl (fun _ => 0))), (q_13, .inr (4, [.ref q_14, .int 0])), (q_14, .inl (ca 2, 4, .inr (.inl (fun _ => 0)))), (q_15, .inr (3, [.ref q_16, .int 0])), (q_16, .inl (ca 1, 4, .inl (fun _ => 0))), (q_17, .inr (3, [.null, .int 0]))] H := hP
  have hD : va_D A [(h0, .inr (6, [.ref q_1, .int 0, .int 0, .ref q_3, .ref q_5, .ref q_7, .ref q_9, .ref q_11, .ref q_13, .ref q_15, .null, .null, .int 0, .int 0, .null])), (q_1, .inr (2, [.ref q_2, .int 0])), (q_2, .inl (ca 0, 16, .inl (fun _ => 0))), (q_3, .inr (3, [.ref q_4, .int 0])), (q_4, .inl (ca 1, 4, .inl (fun _ => 0))), (q_5, .inr (3, [.ref q_6, .int 0])), (q_6, .inl (ca 1, 4, .inl (fun _ => 0))), (q_7, .inr (3, [.ref q_8, .int 0])), (q_8, .inl (ca 1, 4, .inl (fun _ => 0))), (q_9, .inr (3, [.ref q_10, .int 0])), (q_10, .inl (ca 1, 4, .inl (fun _ => 0))), (q_11, .inr (3, [.ref q_12, .int 0])), (q_12, .inl (ca 1, 4, .inl (fun _ => 0))), (q_13, .inr (4, [.ref q_14, .int 0])), (q_14, .inl (ca 2, 4, .inr (.inl (fun _ => 0)))), (q_15, .inr (3, [.ref q_16, .int 0])), (q_16, .inl (ca 1, 4, .inl (fun _ => 0))), (q_17, .inr (3, [.null, .int 0]))] := hD
  refine W.widen (k := 17) (n := 62) (Nat.le_of_ble_eq_true rfl) (Nat.le_of_ble_eq_true rfl) ?_
  refine lv_dup hx hb d_MX_init_103 rfl ?_
  refine lv_iconst (v := 4) hx hb d_MX_init_104 (by decide) ?_
  refine ax_I (k := 1) (As := [.int 4]) (rest := [.ref q_17, .ref h0]) (wr := [(h0, .inr (6, [.ref q_1, .int 0, .int 0, .ref q_3, .ref q_5, .ref q_7, .ref q_9, .ref q_11, .ref q_13, .ref q_15, .null, .null, .int 0, .int 0, .null])), (q_1, .inr (2, [.ref q_2, .int 0])), (q_2, .inl (ca 0, 16, .inl (fun _ => 0))), (q_3, .inr (3, [.ref q_4, .int 0])), (q_4, .inl (ca 1, 4, .inl (fun _ => 0))), (q_5, .inr (3, [.ref q_6, .int 0])), (q_6, .inl (ca 1, 4, .inl (fun _ => 0))), (q_7, .inr (3, [.ref q_8, .int 0])), (q_8, .inl (ca 1, 4, .inl (fun _ => 0))), (q_9, .inr (3, [.ref q_10, .int 0])), (q_10, .inl (ca 1, 4, .inl (fun _ => 0))), (q_11, .inr (3, [.ref q_12, .int 0])), (q_12, .inl (ca 1, 4, .inl (fun _ => 0))), (q_13, .inr (4, [.ref q_14, .int 0])), (q_14, .inl (ca 2, 4, .inr (.inl (fun _ => 0)))), (q_15, .inr (3, [.ref q_16, .int 0])), (q_16, .inl (ca 1, 4, .inl (fun _ => 0)))]) rfl hx hb hml hown hts g_wm (mK_bl dC dI ca) (c_MI_init l dC dI ca q_17) rfl xm_222 xm_35 xm_3 xm_36 (by decide +kernel) rfl (Nat.le_of_ble_eq_true rfl) (Nat.le_of_ble_eq_true rfl) hl.1 (Nat.le_of_ble_eq_true rfl) (mK_up hK) hP hD hS hA [17] [0, 1, 2, 3, 4, 5, 6, 7, 8, 9, 10, 11, 12, 13, 14, 15, 16] rfl (by decide) rfl rfl (by decide) (by decide) (Nat.le_of_ble_eq_true rfl) (Nat.le_of_ble_eq_true rfl) d_MX_init_105 (fun v q_18 H locs hp hP hD hS => ?_)
  obtain rfl : v = none := hp
  have hP : va_P (dC, dI) classes [(h0, .inr (6, [.ref q_1, .int 0, .int 0, .ref q_3, .ref q_5, .ref q_7, .ref q_9, .ref q_11, .ref q_13, .ref q_15, .null, .null, .int 0, .int 0, .null])), (q_1, .inr (2, [.ref q_2, .int 0])), (q_2, .inl (ca 0, 16, .inl (fun _ => 0))), (q_3, .inr (3, [.ref q_4, .int 0])), (q_4, .inl (ca 1, 4, .inl (fun _ => 0))), (q_5, .inr (3, [.ref q_6, .int 0])), (q_6, .inl (ca 1, 4, .inl (fun _ => 0))), (q_7, .inr (3, [.ref q_8, .int 0])), (q_8, .inl (ca 1, 4, .inl (fun _ => 0))), (q_9, .inr (3, [.ref q_10, .int 0])), (q_10, .inl (ca 1, 4, .inl (fun _ => 0))), (q_11, .inr (3, [.ref q_12, .int 0])), (q_12, .inl (ca 1, 4, .inl (fun _ => 0))), (q_13, .inr (4, [.ref q_14, .int 0])), (q_14, .inl (ca 2, 4, .inr (.inl (fun _ => 0)))), (q_15, .inr (3, [.ref q_16, .int 0])), (q_16, .inl (ca 1, 4, .inl (fun _ => 0))), (q_17, .inr (3, [.ref q_18, .int 0])), (q_18, .inl (ca 1, 4, .inl (fun _ => 0)))] H := hP
  have hD : va_D A [(h0, .inr (6, [.ref q_1, .int 0, .int 0, .ref q_3, .ref q_5, .ref q_7, .ref q_9, .ref q_11, .ref q_13, .ref q_15, .null, .null, .int 0, .int 0, .null])), (q_1, .inr (2, [.ref q_2, .int 0])), (q_2, .inl (ca 0, 16, .inl (fun _ => 0))), (q_3, .inr (3, [.ref q_4, .int 0])), (q_4, .inl (ca 1, 4, .inl (fun _ => 0))), (q_5, .inr (3, [.ref q_6, .int 0])), (q_6, .inl (ca 1, 4, .inl (fun _ => 0))), (q_7, .inr (3, [.ref q_8, .int 0])), (q_8, .inl (ca 1, 4, .inl (fun _ => 0))), (q_9, .inr (3, [.ref q_10, .int 0])), (q_10, .inl (ca 1, 4, .inl (fun _ => 0))), (q_11, .inr (3, [.ref q_12, .int 0])), (q_12, .inl (ca 1, 4, .inl (fun _ => 0))), (q_13, .inr (4, [.ref q_14, .int 0])), (q_14, .inl (ca 2, 4, .inr (.inl (fun _ => 0)))), (q_15, .inr (3, [.ref q_16, .int 0])), (q_16, .inl (ca 1, 4, .inl (fun _ => 0))), (q_17, .inr (3, [.ref q_18, .int 0])), (q_18, .inl (ca 1, 4, .inl (fun _ => 0)))] := hD
  refine W.eq (g2 := F0 m 108 ls [.ref q_17, .ref h0]) rfl ?_
  refine W.widen (k := 18) (n := 66) (Nat.le_of_ble_eq_true rfl) (Nat.le_of_ble_eq_true rfl) ?_
  refine va_putF (D := (dC, dI)) (ci := 6) (v := .ref q_17) (ty := .object "SourceBackModel$Ints") (C := R_MX) (T := F_MX) (N := 15) hx hb hts i_MX t_MX t_MX_ok n_MX hown hK.1 hP hD hS 0 rfl rfl 10 (by decide) (hts _ xm_234) (fun _ h9 => h9) rfl hin rfl (by decide +kernel) rfl rfl (Nat.le_of_ble_eq_true rfl) d_MX_init_108 (fun H locs hP hD hS => ?_)
  have hP : va_P (dC, dI) classes [(h0, .inr (6, [.ref q_1, .int 0, .int 0, .ref q_3, .ref q_5, .ref q_7, .ref q_9, .ref q_11, .ref q_13, .ref q_15, .ref q_17, .null, .int 0, .int 0, .null])), (q_1, .inr (2, [.ref q_2, .int 0])), (q_2, .inl (ca 0, 16, .inl (fun _ => 0))), (q_3, .inr (3, [.ref q_4, .int 0])), (q_4, .inl (ca 1, 4, .inl (fun _ => 0))), (q_5, .inr (3, [.ref q_6, .int 0])), (q_6, .inl (ca 1, 4, .inl (fun _ => 0))), (q_7, .inr (3, [.ref q_8, .int 0])), (q_8, .inl (ca 1, 4, .inl (fun _ => 0))), (q_9, .inr (3, [.ref q_10, .int 0])), (q_10, .inl (ca 1, 4, .inl (fun _ => 0))), (q_11, .inr (3, [.ref q_12, .int 0])), (q_12, .inl (ca 1, 4, .inl (fun _ => 0))), (q_13, .inr (4, [.ref q_14, .int 0])), (q_14, .inl (ca 2, 4, .inr (.inl (fun _ => 0)))), (q_15, .inr (3, [.ref q_16, .int 0])), (q_16, .inl (ca 1, 4, .inl (fun _ => 0))), (q_17, .inr (3, [.ref q_18, .int 0])), (q_18, .inl (ca 1, 4, .inl (fun _ => 0)))] H := hP
  have hD : va_D A [(h0, .inr (6, [.ref q_1, .int 0, .int 0, .ref q_3, .ref q_5, .ref q_7, .ref q_9, .ref q_11, .ref q_13, .ref q_15, .ref q_17, .null, .int 0, .int 0, .null])), (q_1, .inr (2, [.ref q_2, .int 0])), (q_2, .inl (ca 0, 16, .inl (fun _ => 0))), (q_3, .inr (3, [.ref q_4, .int 0])), (q_4, .inl (ca 1, 4, .inl (fun _ => 0))), (q_5, .inr (3, [.ref q_6, .int 0])), (q_6, .inl (ca 1, 4, .inl (fun _ => 0))), (q_7, .inr (3, [.ref q_8, .int 0])), (q_8, .inl (ca 1, 4, .inl (fun _ => 0))), (q_9, .inr (3, [.ref q_10, .int 0])), (q_10, .inl (ca 1, 4, .inl (fun _ => 0))), (q_11, .inr (3, [.ref q_12, .int 0])), (q_12, .inl (ca 1, 4, .inl (fun _ => 0))), (q_13, .inr (4, [.ref q_14, .int 0])), (q_14, .inl (ca 2, 4, .inr (.inl (fun _ => 0)))), (q_15, .inr (3, [.ref q_16, .int 0])), (q_16, .inl (ca 1, 4, .inl (fun _ => 0))), (q_17, .inr (3, [.ref q_18, .int 0])), (q_18, .inl (ca 1, 4, .inl (fun _ => 0)))] := hD
  refine lv_aload_n hx hb d_MX_init_111 rfl (lv_at hl 0 rfl) ?_
  refine lv_bipush (v := 100) hx hb d_MX_init_112 (by decide +kernel) ?_
  refine ax_newq (n := 100) (N' := 100) hx hb hown (hts _ xm_225) (hK.2.2 _ (List.mem_of_getElem? (i := 2) rfl)) hK.1 hP hD hS hA (by decide +kernel) (by decide +kernel) (by decide +kernel) (Nat.le_of_ble_eq_true rfl) (Nat.le_of_ble_eq_true rfl) d_MX_init_114 (fun q_19 H hP hD hS => ?_)
  have hP : va_P (dC, dI) classes [(h0, .inr (6, [.ref q_1, .int 0, .int 0, .ref q_3, .ref q_5, .ref q_7, .ref q_9, .ref q_11, .ref q_13, .ref q_15, .ref q_17, .null, .int 0, .int 0, .null])), (q_1, .inr (2, [.ref q_2, .int 0])), (q_2, .inl (ca 0, 16, .inl (fun _ => 0))), (q_3, .inr (3, [.ref q_4, .int 0])), (q_4, .inl (ca 1, 4, .inl (fun _ => 0))), (q_5, .inr (3, [.ref q_6, .int 0])), (q_6, .inl (ca 1, 4, .inl (fun _ => 0))), (q_7, .inr (3, [.ref q_8, .int 0])), (q_8, .inl (ca 1, 4, .inl (fun _ => 0))), (q_9, .inr (3, [.ref q_10, .int 0])), (q_10, .inl (ca 1, 4, .inl (fun _ => 0))), (q_11, .inr (3, [.ref q_12, .int 0])), (q_12, .inl (ca 1, 4, .inl (fun _ => 0))), (q_13, .inr (4, [.ref q_14, .int 0])), (q_14, .inl (ca 2, 4, .inr (.inl (fun _ => 0)))), (q_15, .inr (3, [.ref q_16, .int 0])), (q_16, .inl (ca 1, 4, .inl (fun _ => 0))), (q_17, .inr (3, [.ref q_18, .int 0])), (q_18, .inl (ca 1, 4, .inl (fun _ => 0)))] H := hP
  have hD : va_D A [(h0, .inr (6, [.ref q_1, .int 0, .int 0, .ref q_3, .ref q_5, .ref q_7, .ref q_9, .ref q_11, .ref q_13, .ref q_15, .ref q_17, .null, .int 0, .int 0, .null])), (q_1, .inr (2, [.ref q_2, .int 0])), (q_2, .inl (ca 0, 16, .inl (fun _ => 0))), (q_3, .inr (3, [.ref q_4, .int 0])), (q_4, .inl (ca 1, 4, .inl (fun _ => 0))), (q_5, .inr (3, [.ref q_6, .int 0])), (q_6, .inl (ca 1, 4, .inl (fun _ => 0))), (q_7, .inr (3, [.ref q_8, .int 0])), (q_8, .inl (ca 1, 4, .inl (fun _ => 0))), (q_9, .inr (3, [.ref q_10, .int 0])), (q_10, .inl (ca 1, 4, .inl (fun _ => 0))), (q_11, .inr (3, [.ref q_12, .int 0])), (q_12, .inl (ca 1, 4, .inl (fun _ => 0))), (q_13, .inr (4, [.ref q_14, .int 0])), (q_14, .inl (ca 2, 4, .inr (.inl (fun _ => 0)))), (q_15, .inr (3, [.ref q_16, .int 0])), (q_16, .inl (ca 1, 4, .inl (fun _ => 0))), (q_17, .inr (3, [.ref q_18, .int 0])), (q_18, .inl (ca 1, 4, .inl (fun _ => 0)))] := hD
  refine W.widen (k := 19) (n := 166) (Nat.le_of_ble_eq_true rfl) (Nat.le_of_ble_eq_true rfl) ?_
  refine va_putF (D := (dC, dI)) (ci := 6) (v := .ref q_19) (ty := .array (.object "SourceBackModel$Member")) (C := R_MX) (T := F_MX) (N := 15) hx hb hts i_MX t_MX t_MX_ok n_MX hown hK.1 hP hD hS 0 rfl rfl 11 (by decide) (hts _ xm_235) (fun _ h9 => h9) rfl hin rfl (by decide +kernel) rfl rfl (Nat.le_of_ble_eq_true rfl) d_MX_init_117 (fun H locs hP hD hS => ?_)
  have hP : va_P (dC, dI) classes [(h0, .inr (6, [.ref q_1, .int 0, .int 0, .ref q_3, .ref q_5, .ref q_7, .ref q_9, .ref q_11, .ref q_13, .ref q_15, .ref q_17, .ref q_19, .int 0, .int 0, .null])), (q_1, .inr (2, [.ref q_2, .int 0])), (q_2, .inl (ca 0, 16, .inl (fun _ => 0))), (q_3, .inr (3, [.ref q_4, .int 0])), (q_4, .inl (ca 1, 4, .inl (fun _ => 0))), (q_5, .inr (3, [.ref q_6, .int 0])), (q_6, .inl (ca 1, 4, .inl (fun _ => 0))), (q_7, .inr (3, [.ref q_8, .int 0])), (q_8, .inl (ca 1, 4, .inl (fun _ => 0))), (q_9, .inr (3, [.ref q_10, .int 0])), (q_10, .inl (ca 1, 4, .inl (fun _ => 0))), (q_11, .inr (3, [.ref q_12, .int 0])), (q_12, .inl (ca 1, 4, .inl (fun _ => 0))), (q_13, .inr (4, [.ref q_14, .int 0])), (q_14, .inl (ca 2, 4, .inr (.inl (fun _ => 0)))), (q_15, .inr (3, [.ref q_16, .int 0])), (q_16, .inl (ca 1, 4, .inl (fun _ => 0))), (q_17, .inr (3, [.ref q_18, .int 0])), (q_18, .inl (ca 1, 4, .inl (fun _ => 0)))] H := hP
  have hD : va_D A [(h0, .inr (6, [.ref q_1, .int 0, .int 0, .ref q_3, .ref q_5, .ref q_7, .ref q_9, .ref q_11, .ref q_13, .ref q_15, .ref q_17, .ref q_19, .int 0, .int 0, .null])), (q_1, .inr (2, [.ref q_2, .int 0])), (q_2, .inl (ca 0, 16, .inl (fun _ => 0))), (q_3, .inr (3, [.ref q_4, .int 0])), (q_4, .inl (ca 1, 4, .inl (fun _ => 0))), (q_5, .inr (3, [.ref q_6, .int 0])), (q_6, .inl (ca 1, 4, .inl (fun _ => 0))), (q_7, .inr (3, [.ref q_8, .int 0])), (q_8, .inl (ca 1, 4, .inl (fun _ => 0))), (q_9, .inr (3, [.ref q_10, .int 0])), (q_10, .inl (ca 1, 4, .inl (fun _ => 0))), (q_11, .inr (3, [.ref q_12, .int 0])), (q_12, .inl (ca 1, 4, .inl (fun _ => 0))), (q_13, .inr (4, [.ref q_14, .int 0])), (q_14, .inl (ca 2, 4, .inr (.inl (fun _ => 0)))), (q_15, .inr (3, [.ref q_16, .int 0])), (q_16, .inl (ca 1, 4, .inl (fun _ => 0))), (q_17, .inr (3, [.ref q_18, .int 0])), (q_18, .inl (ca 1, 4, .inl (fun _ => 0)))] := hD
  exact ax_vret hx hb hr hlocks hP hD hS (q_1, q_2, q_3, q_4, q_5, q_6, q_7, q_8, q_9, q_10, q_11, q_12, q_13, q_14, q_15, q_16, q_17, q_18, q_19) rfl [0, 1, 2, 3, 4, 5, 6, 7, 8, 9, 10, 11, 12, 13, 14, 15, 16, 17, 18] rfl (by decide) rfl (Nat.le_of_ble_eq_true rfl) (Nat.le_of_ble_eq_true rfl) d_MX_init_120
theorem d_MI_add_0 : decode b_MI_add 0 = .ok (.aload_n 0, 1) := by decide +kernel
theorem d_MI_add_1 : decode b_MI_add 1 = .ok (.getfield 13, 3) := by decide +kernel
theorem d_MI_add_4 : decode b_MI_add 4 = .ok (.aload_n 0, 1) := by decide +kernel
theorem d_MI_add_5 : decode b_MI_add 5 = .ok (.getfield 7, 3) := by decide +kernel
theorem d_MI_add_8 : decode b_MI_add 8 = .ok (.arraylength, 1) := by decide +kernel
theorem d_MI_add_9 : decode b_MI_add 9 = .ok (.if_icmp .ne 42, 3) := by decide +kernel
theorem d_MI_add_51 : decode b_MI_add 51 = .ok (.aload_n 0, 1) := by decide +kernel
theorem d_MI_add_52 : decode b_MI_add 52 = .ok (.getfield 7, 3) := by decide +kernel
theorem d_MI_add_55 : decode b_MI_add 55 = .ok (.aload_n 0, 1) := by decide +kernel
theorem d_MI_add_56 : decode b_MI_add 56 = .ok (.getfield 13, 3) := by decide +kernel
theorem d_MI_add_59 : decode b_MI_add 59 = .ok (.iload_n 1, 1) := by decide +kernel
theorem d_MI_add_60 : decode b_MI_add 60 = .ok (.iastore, 1) := by decide +kernel
theorem d_MI_add_61 : decode b_MI_add 61 = .ok (.aload_n 0, 1) := by decide +kernel
theorem d_MI_add_62 : decode b_MI_add 62 = .ok (.dup, 1) := by decide +kernel
theorem d_MI_add_63 : decode b_MI_add 63 = .ok (.getfield 13, 3) := by decide +kernel
theorem d_MI_add_66 : decode b_MI_add 66 = .ok (.iconst 1, 1) := by decide +kernel
theorem d_MI_add_67 : decode b_MI_add 67 = .ok (.iadd, 1) := by decide +kernel
theorem d_MI_add_68 : decode b_MI_add 68 = .ok (.putfield 13, 3) := by decide +kernel
theorem d_MI_add_71 : decode b_MI_add 71 = .ok (.return_, 1) := by decide +kernel
set_option maxHeartbeats 4000000 in
set_option maxRecDepth 100000 in
theorem c_MI_add (l : Launch) (dC : Nat → ClassId) (dI : Nat → Nat → Nat) (ca : Nat → ClassId) (h0 qa : Nat) (x : Int32) : CT l classes (dC, dI) (mK dC dI ca) wm y_MI_add b_MI_add 4 none 0 0 0 0 [.ref h0, .int x] [(h0, .inr (3, [.ref qa, .int 0])), (qa, .inl (ca 1, 4, .inl (fun _ => 0)))] (fun (v : Option Value) (u : Nat → Int32) => v = none) (fun (u : Nat → Int32) => [(h0, .inr (3, [.ref qa, .int 1])), (qa, .inl (ca 1, 4, .inl u))]) := by
  refine ax_of (by decide) (Nat.le_of_ble_eq_true rfl) ?_
  intro p e s m below meth c A ls hAt hK hP hD hS hA hl
  obtain ⟨hx, hb, hr, hml, hown, hts, hlocks, hin⟩ := hAt
  have hl : lv_has ls 4 [(0, .ref h0), (1, .int x)] := hl
  refine lv_aload_n hx hb d_MI_add_0 rfl (lv_at hl 0 rfl) ?_
  refine va_get (D := (dC, dI)) (ci := 3) (v := .int 0) (C := R_MI) (T := F_MI) (N := 2) hx hb hts i_MI hown hK.1 hP 0 rfl rfl 1 (by decide) (hts _ xm_39) (fun _ h9 => h9) rfl d_MI_add_1 ?_
  refine lv_aload_n hx hb d_MI_add_4 rfl (lv_at hl 0 rfl) ?_
  refine va_get (D := (dC, dI)) (ci := 3) (v := .ref qa) (C := R_MI) (T := F_MI) (N := 2) hx hb hts i_MI hown hK.1 hP 0 rfl rfl 0 (by decide) (hts _ xm_38) (fun _ h9 => h9) rfl d_MI_add_5 ?_
  refine va_alen hx hb hK.1 hP 1 1 rfl rfl (v := 4) rfl d_MI_add_8 ?_
  refine lv_icmp_ne (tgt := 51) hx hb d_MI_add_9 (by decide) (fun _ => ?_) (fun h => absurd h (by decide))
  refine lv_aload_n hx hb d_MI_add_51 rfl (lv_at hl 0 rfl) ?_
  refine va_get (D := (dC, dI)) (ci := 3) (v := .ref qa) (C := R_MI) (T := F_MI) (N := 2) hx hb hts i_MI hown hK.1 hP 0 rfl rfl 0 (by decide) (hts _ xm_38) (fun _ h9 => h9) rfl d_MI_add_52 ?_
  refine lv_aload_n hx hb d_MI_add_55 rfl (lv_at hl 0 rfl) ?_
  refine va_get (D := (dC, dI)) (ci := 3) (v := .int 0) (C := R_MI) (T := F_MI) (N := 2) hx hb hts i_MI hown hK.1 hP 0 rfl rfl 1 (by decide) (hts _ xm_39) (fun _ h9 => h9) rfl d_MI_add_56 ?_
  refine lv_iload_n hx hb d_MI_add_59 rfl (lv_at hl 1 rfl) ?_
  refine va_iast hx hb hK.1 hP hD hS 1 1 rfl rfl (by unfold vp_in; decide) d_MI_add_60 (fun H locs hP hD hS => ?_)
  obtain ⟨f_1, e9⟩ : ∃ z, z = upd (fun _ => 0) ((0 : Int32).toNatClampNeg) x := ⟨_, rfl⟩
  rw [← e9] at hP hD
  have hP : va_P (dC, dI) classes [(h0, .inr (3, [.ref qa, .int 0])), (qa, .inl (ca 1, 4, .inl f_1))] H := hP
  have hD : va_D A [(h0, .inr (3, [.ref qa, .int 0])), (qa, .inl (ca 1, 4, .inl f_1))] := hD
  refine lv_aload_n hx hb d_MI_add_61 rfl (lv_at hl 0 rfl) ?_
  refine lv_dup hx hb d_MI_add_62 rfl ?_
  refine va_get (D := (dC, dI)) (ci := 3) (v := .int 0) (C := R_MI) (T := F_MI) (N := 2) hx hb hts i_MI hown hK.1 hP 0 rfl rfl 1 (by decide) (hts _ xm_39) (fun _ h9 => h9) rfl d_MI_add_63 ?_
  refine lv_iconst (v := 1) hx hb d_MI_add_66 (by decide) ?_
  refine lv_iadd hx hb d_MI_add_67 ?_
  refine lv_topi (fun z e9 => ?_)
  obtain rfl : z = 1 := by rw [e9]; decide
  refine va_put (D := (dC, dI)) (ci := 3) (v := .int 1) (ty := .int) (C := R_MI) (T := F_MI) (N := 2) hx hb hts i_MI t_MI t_MI_ok n_MI hown hK.1 hP hD hS 0 rfl rfl 1 (by decide) (hts _ xm_39) (fun _ h9 => h9) rfl (by decide +kernel) rfl rfl (Nat.le_of_ble_eq_true rfl) d_MI_add_68 (fun H locs hP hD hS => ?_)
  have hP : va_P (dC, dI) classes [(h0, .inr (3, [.ref qa, .int 1])), (qa, .inl (ca 1, 4, .inl f_1))] H := hP
  have hD : va_D A [(h0, .inr (3, [.ref qa, .int 1])), (qa, .inl (ca 1, 4, .inl f_1))] := hD
  exact ax_vret hx hb hr hlocks hP hD hS f_1 rfl [0, 1] rfl (by decide) rfl (Nat.le_of_ble_eq_true rfl) (Nat.le_of_ble_eq_true rfl) d_MI_add_71
theorem d_ML_add_0 : decode b_ML_add 0 = .ok (.aload_n 0, 1) := by decide +kernel
theorem d_ML_add_1 : decode b_ML_add 1 = .ok (.getfield 13, 3) := by decide +kernel
theorem d_ML_add_4 : decode b_ML_add 4 = .ok (.aload_n 0, 1) := by decide +kernel
theorem d_ML_add_5 : decode b_ML_add 5 = .ok (.getfield 7, 3) := by decide +kernel
theorem d_ML_add_8 : decode b_ML_add 8 = .ok (.arraylength, 1) := by decide +kernel
theorem d_ML_add_9 : decode b_ML_add 9 = .ok (.if_icmp .ne 46, 3) := by decide +kernel
theorem d_ML_add_55 : decode b_ML_add 55 = .ok (.aload_n 0, 1) := by decide +kernel
theorem d_ML_add_56 : decode b_ML_add 56 = .ok (.getfield 7, 3) := by decide +kernel
theorem d_ML_add_59 : decode b_ML_add 59 = .ok (.aload_n 0, 1) := by decide +kernel
theorem d_ML_add_60 : decode b_ML_add 60 = .ok (.getfield 13, 3) := by decide +kernel
theorem d_ML_add_63 : decode b_ML_add 63 = .ok (.lload_n 1, 1) := by decide +kernel
theorem d_ML_add_64 : decode b_ML_add 64 = .ok (.lastore, 1) := by decide +kernel
theorem d_ML_add_65 : decode b_ML_add 65 = .ok (.aload_n 0, 1) := by decide +kernel
theorem d_ML_add_66 : decode b_ML_add 66 = .ok (.dup, 1) := by decide +kernel
theorem d_ML_add_67 : decode b_ML_add 67 = .ok (.getfield 13, 3) := by decide +kernel
theorem d_ML_add_70 : decode b_ML_add 70 = .ok (.iconst 1, 1) := by decide +kernel
theorem d_ML_add_71 : decode b_ML_add 71 = .ok (.iadd, 1) := by decide +kernel
theorem d_ML_add_72 : decode b_ML_add 72 = .ok (.putfield 13, 3) := by decide +kernel
theorem d_ML_add_75 : decode b_ML_add 75 = .ok (.return_, 1) := by decide +kernel
set_option maxHeartbeats 4000000 in
set_option maxRecDepth 100000 in
theorem c_ML_add (l : Launch) (dC : Nat → ClassId) (dI : Nat → Nat → Nat) (ca : Nat → ClassId) (h0 qa : Nat) (x : Int64) : CT l classes (dC, dI) (mK dC dI ca) wm y_ML_add b_ML_add 5 none 0 0 0 0 [.ref h0, .long x] [(h0, .inr (4, [.ref qa, .int 0])), (qa, .inl (ca 2, 4, .inr (.inl (fun _ => 0))))] (fun (v : Option Value) (u : Nat → Int64) => v = none) (fun (u : Nat → Int64) => [(h0, .inr (4, [.ref qa, .int 1])), (qa, .inl (ca 2, 4, .inr (.inl u)))]) := by
  refine ax_of (by decide) (Nat.le_of_ble_eq_true rfl) ?_
  intro p e s m below meth c A ls hAt hK hP hD hS hA hl
  obtain ⟨hx, hb, hr, hml, hown, hts, hlocks, hin⟩ := hAt
  have hl : lv_has ls 5 [(0, .ref h0), (1, .long x)] := hl
  refine lv_aload_n hx hb d_ML_add_0 rfl (lv_at hl 0 rfl) ?_
  refine va_get (D := (dC, dI)) (ci := 4) (v := .int 0) (C := R_ML) (T := F_ML) (N := 2) hx hb hts i_ML hown hK.1 hP 0 rfl rfl 1 (by decide) (hts _ xm_56) (fun _ h9 => h9) rfl d_ML_add_1 ?_
  refine lv_aload_n hx hb d_ML_add_4 rfl (lv_at hl 0 rfl) ?_
  refine va_get (D := (dC, dI)) (ci := 4) (v := .ref qa) (C := R_ML) (T := F_ML) (N := 2) hx hb hts i_ML hown hK.1 hP 0 rfl rfl 0 (by decide) (hts _ xm_55) (fun _ h9 => h9) rfl d_ML_add_5 ?_
  refine va_alen hx hb hK.1 hP 1 2 rfl rfl (v := 4) rfl d_ML_add_8 ?_
  refine lv_icmp_ne (tgt := 55) hx hb d_ML_add_9 (by decide) (fun _ => ?_) (fun h => absurd h (by decide))
  refine lv_aload_n hx hb d_ML_add_55 rfl (lv_at hl 0 rfl) ?_
  refine va_get (D := (dC, dI)) (ci := 4) (v := .ref qa) (C := R_ML) (T := F_ML) (N := 2) hx hb hts i_ML hown hK.1 hP 0 rfl rfl 0 (by decide) (hts _ xm_55) (fun _ h9 => h9) rfl d_ML_add_56 ?_
  refine lv_aload_n hx hb d_ML_add_59 rfl (lv_at hl 0 rfl) ?_
  refine va_get (D := (dC, dI)) (ci := 4) (v := .int 0) (C := R_ML) (T := F_ML) (N := 2) hx hb hts i_ML hown hK.1 hP 0 rfl rfl 1 (by decide) (hts _ xm_56) (fun _ h9 => h9) rfl d_ML_add_60 ?_
  refine lv_lload_n hx hb d_ML_add_63 rfl (lv_at hl 1 rfl) ?_
  refine va_last hx hb hK.1 hP hD hS 1 2 rfl rfl (by unfold vp_in; decide) d_ML_add_64 (fun H locs hP hD hS => ?_)
  obtain ⟨f_1, e9⟩ : ∃ z, z = vp_updL (fun _ => 0) ((0 : Int32).toNatClampNeg) x := ⟨_, rfl⟩
  rw [← e9] at hP hD
  have hP : va_P (dC, dI) classes [(h0, .inr (4, [.ref qa, .int 0])), (qa, .inl (ca 2, 4, .inr (.inl f_1)))] H := hP
  have hD : va_D A [(h0, .inr (4, [.ref qa, .int 0])), (qa, .inl (ca 2, 4, .inr (.inl f_1)))] := hD
  refine lv_aload_n hx hb d_ML_add_65 rfl (lv_at hl 0 rfl) ?_
  refine lv_dup hx hb d_ML_add_66 rfl ?_
  refine va_get (D := (dC, dI)) (ci := 4) (v := .int 0) (C := R_ML) (T := F_ML) (N := 2) hx hb hts i_ML hown hK.1 hP 0 rfl rfl 1 (by decide) (hts _ xm_56) (fun _ h9 => h9) rfl d_ML_add_67 ?_
  refine lv_iconst (v := 1) hx hb d_ML_add_70 (by decide) ?_
  refine lv_iadd hx hb d_ML_add_71 ?_
  refine lv_topi (fun z e9 => ?_)
  obtain rfl : z = 1 := by rw [e9]; decide
  refine va_put (D := (dC, dI)) (ci := 4) (v := .int 1) (ty := .int) (C := R_ML) (T := F_ML) (N := 2) hx hb hts i_ML t_ML t_ML_ok n_ML hown hK.1 hP hD hS 0 rfl rfl 1 (by decide) (hts _ xm_56) (fun _ h9 => h9) rfl (by decide +kernel) rfl rfl (Nat.le_of_ble_eq_true rfl) d_ML_add_72 (fun H locs hP hD hS => ?_)
  have hP : va_P (dC, dI) classes [(h0, .inr (4, [.ref qa, .int 1])), (qa, .inl (ca 2, 4, .inr (.inl f_1)))] H := hP
  have hD : va_D A [(h0, .inr (4, [.ref qa, .int 1])), (qa, .inl (ca 2, 4, .inr (.inl f_1)))] := hD
  exact ax_vret hx hb hr hlocks hP hD hS f_1 rfl [0, 1] rfl (by decide) rfl (Nat.le_of_ble_eq_true rfl) (Nat.le_of_ble_eq_true rfl) d_ML_add_75
end
section
theorem d_MX_add_0 : decode b_MX_add 0 = .ok (.aload_n 0, 1) := by decide +kernel
theorem d_MX_add_1 : decode b_MX_add 1 = .ok (.getfield 23, 3) := by decide +kernel
theorem d_MX_add_4 : decode b_MX_add 4 = .ok (.iload_n 1, 1) := by decide +kernel
theorem d_MX_add_5 : decode b_MX_add 5 = .ok (.invokevirtual 75, 3) := by decide +kernel
theorem d_MX_add_8 : decode b_MX_add 8 = .ok (.aload_n 0, 1) := by decide +kernel
theorem d_MX_add_9 : decode b_MX_add 9 = .ok (.getfield 27, 3) := by decide +kernel
theorem d_MX_add_12 : decode b_MX_add 12 = .ok (.iconst (-1), 1) := by decide +kernel
theorem d_MX_add_13 : decode b_MX_add 13 = .ok (.invokevirtual 75, 3) := by decide +kernel
theorem d_MX_add_16 : decode b_MX_add 16 = .ok (.aload_n 0, 1) := by decide +kernel
theorem d_MX_add_17 : decode b_MX_add 17 = .ok (.getfield 30, 3) := by decide +kernel
theorem d_MX_add_20 : decode b_MX_add 20 = .ok (.iconst 0, 1) := by decide +kernel
theorem d_MX_add_21 : decode b_MX_add 21 = .ok (.invokevirtual 75, 3) := by decide +kernel
theorem d_MX_add_24 : decode b_MX_add 24 = .ok (.aload_n 0, 1) := by decide +kernel
theorem d_MX_add_25 : decode b_MX_add 25 = .ok (.getfield 33, 3) := by decide +kernel
theorem d_MX_add_28 : decode b_MX_add 28 = .ok (.iconst 0, 1) := by decide +kernel
theorem d_MX_add_29 : decode b_MX_add 29 = .ok (.invokevirtual 75, 3) := by decide +kernel
theorem d_MX_add_32 : decode b_MX_add 32 = .ok (.aload_n 0, 1) := by decide +kernel
theorem d_MX_add_33 : decode b_MX_add 33 = .ok (.getfield 36, 3) := by decide +kernel
theorem d_MX_add_36 : decode b_MX_add 36 = .ok (.iconst 0, 1) := by decide +kernel
theorem d_MX_add_37 : decode b_MX_add 37 = .ok (.invokevirtual 75, 3) := by decide +kernel
theorem d_MX_add_40 : decode b_MX_add 40 = .ok (.aload_n 0, 1) := by decide +kernel
theorem d_MX_add_41 : decode b_MX_add 41 = .ok (.getfield 42, 3) := by decide +kernel
theorem d_MX_add_44 : decode b_MX_add 44 = .ok (.lconst 0, 1) := by decide +kernel
theorem d_MX_add_45 : decode b_MX_add 45 = .ok (.invokevirtual 77, 3) := by decide +kernel
theorem d_MX_add_48 : decode b_MX_add 48 = .ok (.aload_n 0, 1) := by decide +kernel
theorem d_MX_add_49 : decode b_MX_add 49 = .ok (.getfield 23, 3) := by decide +kernel
theorem d_MX_add_52 : decode b_MX_add 52 = .ok (.getfield 62, 3) := by decide +kernel
theorem d_MX_add_55 : decode b_MX_add 55 = .ok (.iconst 1, 1) := by decide +kernel
theorem d_MX_add_56 : decode b_MX_add 56 = .ok (.isub, 1) := by decide +kernel
theorem d_MX_add_57 : decode b_MX_add 57 = .ok (.ireturn, 1) := by decide +kernel
set_option maxHeartbeats 4000000 in
set_option maxRecDepth 100000 in
theorem c_MX_add (l : Launch) (dC : Nat → ClassId) (dI : Nat → Nat → Nat) (ca : Nat → ClassId) (h0 b1 b2 b3 b4 b5 b6 b7 b8 b9 b10 b11 b12 b13 b14 b15 b16 b17 b18 b19 : Nat) : CT l classes (dC, dI) (mK dC dI ca) wm y_MX_add b_MX_add 2 (some (.int)) 1 24 0 0 [.ref h0, .int 0] [(h0, .inr (6, [.ref b1, .int 0, .int 0, .ref b3, .ref b5, .ref b7, .ref b9, .ref b11, .ref b13, .ref b15, .ref b17, .ref b19, .int 0, .int 0, .null])), (b1, .inr (2, [.ref b2, .int 0])), (b2, .inl (ca 0, 16, .inl (fun _ => 0))), (b3, .inr (3, [.ref b4, .int 0])), (b4, .inl (ca 1, 4, .inl (fun _ => 0))), (b5, .inr (3, [.ref b6, .int 0])), (b6, .inl (ca 1, 4, .inl (fun _ => 0))), (b7, .inr (3, [.ref b8, .int 0])), (b8, .inl (ca 1, 4, .inl (fun _ => 0))), (b9, .inr (3, [.ref b10, .int 0])), (b10, .inl (ca 1, 4, .inl (fun _ => 0))), (b11, .inr (3, [.ref b12, .int 0])), (b12, .inl (ca 1, 4, .inl (fun _ => 0))), (b13, .inr (4, [.ref b14, .int 0])), (b14, .inl (ca 2, 4, .inr (.inl (fun _ => 0)))), (b15, .inr (3, [.ref b16, .int 0])), (b16, .inl (ca 1, 4, .inl (fun _ => 0))), (b17, .inr (3, [.ref b18, .int 0])), (b18, .inl (ca 1, 4, .inl (fun _ => 0)))] (fun (v : Option Value) (_ : Unit) => v = some (.int 0)) (fun (_ : Unit) => [(h0, .inr (6, [.ref b1, .int 0, .int 0, .ref b3, .ref b5, .ref b7, .ref b9, .ref b11, .ref b13, .ref b15, .ref b17, .ref b19, .int 0, .int 0, .null]))]) := by
  refine ax_of (by decide) (Nat.le_of_ble_eq_true rfl) ?_
  intro p e s m below meth c A ls hAt hK hP hD hS hA hl
  obtain ⟨hx, hb, hr, hml, hown, hts, hlocks, hin⟩ := hAt
  have hl : lv_has ls 2 [(0, .ref h0), (1, .int 0)] := hl
  refine lv_aload_n hx hb d_MX_add_0 rfl (lv_at hl 0 rfl) ?_
  refine va_get (D := (dC, dI)) (ci := 6) (v := .ref b3) (C := R_MX) (T := F_MX) (N := 15) hx hb hts i_MX hown hK.1 hP 0 rfl rfl 3 (by decide) (hts _ xm_227) (fun _ h9 => h9) rfl d_MX_add_1 ?_
  refine lv_iload_n hx hb d_MX_add_4 rfl (lv_at hl 1 rfl) ?_
  refine ax_V (ci := 3) (q0 := 0) (k := 1) (As := [.int 0]) (rest := []) (wr := [(h0, .inr (6, [.ref b1, .int 0, .int 0, .ref b3, .ref b5, .ref b7, .ref b9, .ref b11, .ref b13, .ref b15, .ref b17, .ref b19, .int 0, .int 0, .null])), (b1, .inr (2, [.ref b2, .int 0])), (b2, .inl (ca 0, 16, .inl (fun _ => 0))), (b5, .inr (3, [.ref b6, .int 0])), (b6, .inl (ca 1, 4, .inl (fun _ => 0))), (b7, .inr (3, [.ref b8, .int 0])), (b8, .inl (ca 1, 4, .inl (fun _ => 0))), (b9, .inr (3, [.ref b10, .int 0])), (b10, .inl (ca 1, 4, .inl (fun _ => 0))), (b11, .inr (3, [.ref b12, .int 0])), (b12, .inl (ca 1, 4, .inl (fun _ => 0))), (b13, .inr (4, [.ref b14, .int 0])), (b14, .inl (ca 2, 4, .inr (.inl (fun _ => 0)))), (b15, .inr (3, [.ref b16, .int 0])), (b16, .inl (ca 1, 4, .inl (fun _ => 0))), (b17, .inr (3, [.ref b18, .int 0])), (b18, .inl (ca 1, 4, .inl (fun _ => 0)))]) rfl hx hb hml hown hts g_wm (mK_bl dC dI ca) (c_MI_add l dC dI ca b3 b4 0) xm_208 xm_209 xm_3 xm_211 xm_210 (by decide +kernel) rfl (Nat.le_of_ble_eq_true rfl) (Nat.le_of_ble_eq_true rfl) hl.1 (Nat.le_of_ble_eq_true rfl) (mK_up hK) hK.1 hP hD hS hA rfl rfl [3, 4] [0, 1, 2, 5, 6, 7, 8, 9, 10, 11, 12, 13, 14, 15, 16, 17, 18] rfl (by decide) rfl rfl (by decide) (by decide) (Nat.le_of_ble_eq_true rfl) (Nat.le_of_ble_eq_true rfl) d_MX_add_5 (fun v f_1 H locs hp hP hD hS => ?_)
  obtain rfl : v = none := hp
  have hP : va_P (dC, dI) classes [(h0, .inr (6, [.ref b1, .int 0, .int 0, .ref b3, .ref b5, .ref b7, .ref b9, .ref b11, .ref b13, .ref b15, .ref b17, .ref b19, .int 0, .int 0, .null])), (b1, .inr (2, [.ref b2, .int 0])), (b2, .inl (ca 0, 16, .inl (fun _ => 0))), (b5, .inr (3, [.ref b6, .int 0])), (b6, .inl (ca 1, 4, .inl (fun _ => 0))), (b7, .inr (3, [.ref b8, .int 0])), (b8, .inl (ca 1, 4, .inl (fun _ => 0))), (b9, .inr (3, [.ref b10, .int 0])), (b10, .inl (ca 1, 4, .inl (fun _ => 0))), (b11, .inr (3, [.ref b12, .int 0])), (b12, .inl (ca 1, 4, .inl (fun _ => 0))), (b13, .inr (4, [.ref b14, .int 0])), (b14, .inl (ca 2, 4, .inr (.inl (fun _ => 0)))), (b15, .inr (3, [.ref b16, .int 0])), (b16, .inl (ca 1, 4, .inl (fun _ => 0))), (b17, .inr (3, [.ref b18, .int 0])), (b18, .inl (ca 1, 4, .inl (fun _ => 0))), (b3, .inr (3, [.ref b4, .int 1])), (b4, .inl (ca 1, 4, .inl f_1))] H := hP
  have hD : va_D A [(h0, .inr (6, [.ref b1, .int 0, .int 0, .ref b3, .ref b5, .ref b7, .ref b9, .ref b11, .ref b13, .ref b15, .ref b17, .ref b19, .int 0, .int 0, .null])), (b1, .inr (2, [.ref b2, .int 0])), (b2, .inl (ca 0, 16, .inl (fun _ => 0))), (b5, .inr (3, [.ref b6, .int 0])), (b6, .inl (ca 1, 4, .inl (fun _ => 0))), (b7, .inr (3, [.ref b8, .int 0])), (b8, .inl (ca 1, 4, .inl (fun _ => 0))), (b9, .inr (3, [.ref b10, .int 0])), (b10, .inl (ca 1, 4, .inl (fun _ => 0))), (b11, .inr (3, [.ref b12, .int 0])), (b12, .inl (ca 1, 4, .inl (fun _ => 0))), (b13, .inr (4, [.ref b14, .int 0])), (b14, .inl (ca 2, 4, .inr (.inl (fun _ => 0)))), (b15, .inr (3, [.ref b16, .int 0])), (b16, .inl (ca 1, 4, .inl (fun _ => 0))), (b17, .inr (3, [.ref b18, .int 0])), (b18, .inl (ca 1, 4, .inl (fun _ => 0))), (b3, .inr (3, [.ref b4, .int 1])), (b4, .inl (ca 1, 4, .inl f_1))] := hD
  refine W.eq (g2 := F0 m 8 ls []) rfl ?_
  refine lv_aload_n hx hb d_MX_add_8 rfl (lv_at hl 0 rfl) ?_
  refine va_get (D := (dC, dI)) (ci := 6) (v := .ref b5) (C := R_MX) (T := F_MX) (N := 15) hx hb hts i_MX hown hK.1 hP 0 rfl rfl 4 (by decide) (hts _ xm_228) (fun _ h9 => h9) rfl d_MX_add_9 ?_
  refine lv_iconst (v := (-1)) hx hb d_MX_add_12 (by decide) ?_
  refine ax_V (ci := 3) (q0 := 0) (k := 1) (As := [.int (-1)]) (rest := []) (wr := [(h0, .inr (6, [.ref b1, .int 0, .int 0, .ref b3, .ref b5, .ref b7, .ref b9, .ref b11, .ref b13, .ref b15, .ref b17, .ref b19, .int 0, .int 0, .null])), (b1, .inr (2, [.ref b2, .int 0])), (b2, .inl (ca 0, 16, .inl (fun _ => 0))), (b7, .inr (3, [.ref b8, .int 0])), (b8, .inl (ca 1, 4, .inl (fun _ => 0))), (b9, .inr (3, [.ref b10, .int 0])), (b10, .inl (ca 1, 4, .inl (fun _ => 0))), (b11, .inr (3, [.ref b12, .int 0])), (b12, .inl (ca 1, 4, .inl (fun _ => 0))), (b13, .inr (4, [.ref b14, .int 0])), (b14, .inl (ca 2, 4, .inr (.inl (fun _ => 0)))), (b15, .inr (3, [.ref b16, .int 0])), (b16, .inl (ca 1, 4, .inl (fun _ => 0))), (b17, .inr (3, [.ref b18, .int 0])), (b18, .inl (ca 1, 4, .inl (fun _ => 0))), (b3, .inr (3, [.ref b4, .int 1])), (b4, .inl (ca 1, 4, .inl f_1))]) rfl hx hb hml hown hts g_wm (mK_bl dC dI ca) (c_MI_add l dC dI ca b5 b6 (-1)) xm_208 xm_209 xm_3 xm_211 xm_210 (by decide +kernel) rfl (Nat.le_of_ble_eq_true rfl) (Nat.le_of_ble_eq_true rfl) hl.1 (Nat.le_of_ble_eq_true rfl) (mK_up hK) hK.1 hP hD hS hA rfl rfl [3, 4] [0, 1, 2, 5, 6, 7, 8, 9, 10, 11, 12, 13, 14, 15, 16, 17, 18] rfl (by decide) rfl rfl (by decide) (by decide) (Nat.le_of_ble_eq_true rfl) (Nat.le_of_ble_eq_true rfl) d_MX_add_13 (fun v f_2 H locs hp hP hD hS => ?_)
  obtain rfl : v = none := hp
  have hP : va_P (dC, dI) classes [(h0, .inr (6, [.ref b1, .int 0, .int 0, .ref b3, .ref b5, .ref b7, .ref b9, .ref b11, .ref b13, .ref b15, .ref b17, .ref b19, .int 0, .int 0, .null])), (b1, .inr (2, [.ref b2, .int 0])), (b2, .inl (ca 0, 16, .inl (fun _ => 0))), (b7, .inr (3, [.ref b8, .int 0])), (b8, .inl (ca 1, 4, .inl (fun _ => 0))), (b9, .inr (3, [.ref b10, .int 0])), (b10, .inl (ca 1, 4, .inl (fun _ => 0))), (b11, .inr (3, [.ref b12, .int 0])), (b12, .inl (ca 1, 4, .inl (fun _ => 0))), (b13, .inr (4, [.ref b14, .int 0])), (b14, .inl (ca 2, 4, .inr (.inl (fun _ => 0)))), (b15, .inr (3, [.ref b16, .int 0])), (b16, .inl (ca 1, 4, .inl (fun _ => 0))), (b17, .inr (3, [.ref b18, .int 0])), (b18, .inl (ca 1, 4, .inl (fun _ => 0))), (b3, .inr (3, [.ref b4, .int 1])), (b4, .inl (ca 1, 4, .inl f_1)), (b5, .inr (3, [.ref b6, .int 1])), (b6, .inl (ca 1, 4, .inl f_2))] H := hP
  have hD : va_D A [(h0, .inr (6, [.ref b1, .int 0, .int 0, .ref b3, .ref b5, .ref b7, .ref b9, .ref b11, .ref b13, .ref b15, .ref b17, .ref b19, .int 0, .int 0, .null])), (b1, .inr (2, [.ref b2, .int 0])), (b2, .inl (ca 0, 16, .inl (fun _ => 0))), (b7, .inr (3, [.ref b8, .int 0])), (b8, .inl (ca 1, 4, .inl (fun _ => 0))), (b9, .inr (3, [.ref b10, .int 0])), (b10, .inl (ca 1, 4, .inl (fun _ => 0))), (b11, .inr (3, [.ref b12, .int 0])), (b12, .inl (ca 1, 4, .inl (fun _ => 0))), (b13, .inr (4, [.ref b14, .int 0])), (b14, .inl (ca 2, 4, .inr (.inl (fun _ => 0)))), (b15, .inr (3, [.ref b16, .int 0])), (b16, .inl (ca 1, 4, .inl (fun _ => 0))), (b17, .inr (3, [.ref b18, .int 0])), (b18, .inl (ca 1, 4, .inl (fun _ => 0))), (b3, .inr (3, [.ref b4, .int 1])), (b4, .inl (ca 1, 4, .inl f_1)), (b5, .inr (3, [.ref b6, .int 1])), (b6, .inl (ca 1, 4, .inl f_2))] := hD
  refine W.eq (g2 := F0 m 16 ls []) rfl ?_
  refine lv_aload_n hx hb d_MX_add_16 rfl (lv_at hl 0 rfl) ?_
  refine va_get (D := (dC, dI)) (ci := 6) (v := .ref b7) (C := R_MX) (T := F_MX) (N := 15) hx hb hts i_MX hown hK.1 hP 0 rfl rfl 5 (by decide) (hts _ xm_229) (fun _ h9 => h9) rfl d_MX_add_17 ?_
  refine lv_iconst (v := 0) hx hb d_MX_add_20 (by decide) ?_
  refine ax_V (ci := 3) (q0 := 0) (k := 1) (As := [.int 0]) (rest := []) (wr := [(h0, .inr (6, [.ref b1, .int 0, .int 0, .ref b3, .ref b5, .ref b7, .ref b9, .ref b11, .ref b13, .ref b15, .ref b17, .ref b19, .int 0, .int 0, .null])), (b1, .inr (2, [.ref b2, .int 0])), (b2, .inl (ca 0, 16, .inl (fun _ => 0))), (b9, .inr (3, [.ref b10, .int 0])), (b10, .inl (ca 1, 4, .inl (fun _ => 0))), (b11, .inr (3, [.ref b12, .int 0])), (b12, .inl (ca 1, 4, .inl (fun _ => 0))), (b13, .inr (4, [.ref b14, .int 0])), (b14, .inl (ca 2, 4, .inr (.inl (fun _ => 0)))), (b15, .inr (3, [.ref b16, .int 0])), (b16, .inl (ca 1, 4, .inl (fun _ => 0))), (b17, .inr (3, [.ref b18, .int 0])), (b18, .inl (ca 1, 4, .inl (fun _ => 0))), (b3, .inr (3, [.ref b4, .int 1])), (b4, .inl (ca 1, 4, .inl f_1)), (b5, .inr (3, [.ref b6, .int 1])), (b6, .inl (ca 1, 4, .inl f_2))]) rfl hx hb hml hown hts g_wm (mK_bl dC dI ca) (c_MI_add l dC dI ca b7 b8 0) xm_208 xm_209 xm_3 xm_211 xm_210 (by decide +kernel) rfl (Nat.le_of_ble_eq_true rfl) (Nat.le_of_ble_eq_true rfl) hl.1 (Nat.le_of_ble_eq_true rfl) (mK_up hK) hK.1 hP hD hS hA rfl rfl [3, 4] [0, 1, 2, 5, 6, 7, 8, 9, 10, 11, 12, 13, 14, 15, 16, 17, 18] rfl (by decide) rfl rfl (by decide) (by decide) (Nat.le_of_ble_eq_true rfl) (Nat.le_of_ble_eq_true rfl) d_MX_add_21 (fun v f_3 H locs hp hP hD hS => ?_)
  obtain rfl : v = none := hp
  have hP : va_P (dC, dI) classes [(h0, .inr (6, [.ref b1, .int 0, .int 0, .ref b3, .ref b5, .ref b7, .ref b9, .ref b11, .ref b13, .ref b15, .ref b17, .ref b19, .int 0, .int 0, .null])), (b1, .inr (2, [.ref b2, .int 0])), (b2, .inl (ca 0, 16, .inl (fun _ => 0))), (b9, .inr (3, [.ref b10, .int 0])), (b10, .inl (ca 1, 4, .inl (fun _ => 0))), (b11, .inr (3, [.ref b12, .int 0])), (b12, .inl (ca 1, 4, .inl (fun _ => 0))), (b13, .inr (4, [.ref b14, .int 0])), (b14, .inl (ca 2, 4, .inr (.inl (fun _ => 0)))), (b15, .inr (3, [.ref b16, .int 0])), (b16, .inl (ca 1, 4, .inl (fun _ => 0))), (b17, .inr (3, [.ref b18, .int 0])), (b18, .inl (ca 1, 4, .inl (fun _ => 0))), (b3, .inr (3, [.ref b4, .int 1])), (b4, .inl (ca 1, 4, .inl f_1)), (b5, .inr (3, [.ref b6, .int 1])), (b6, .inl (ca 1, 4, .inl f_2)), (b7, .inr (3, [.ref b8, .int 1])), (b8, .inl (ca 1, 4, .inl f_3))] H := hP
  have hD : va_D A [(h0, .inr (6, [.ref b1, .int 0, .int 0, .ref b3, .ref b5, .ref b7, .ref b9, .ref b11, .ref b13, .ref b15, .ref b17, .ref b19, .int 0, .int 0, .null])), (b1, .inr (2, [.ref b2, .int 0])), (b2, .inl (ca 0, 16, .inl (fun _ => 0))), (b9, .inr (3, [.ref b10, .int 0])), (b10, .inl (ca 1, 4, .inl (fun _ => 0))), (b11, .inr (3, [.ref b12, .int 0])), (b12, .inl (ca 1, 4, .inl (fun _ => 0))), (b13, .inr (4, [.ref b14, .int 0])), (b14, .inl (ca 2, 4, .inr (.inl (fun _ => 0)))), (b15, .inr (3, [.ref b16, .int 0])), (b16, .inl (ca 1, 4, .inl (fun _ => 0))), (b17, .inr (3, [.ref b18, .int 0])), (b18, .inl (ca 1, 4, .inl (fun _ => 0))), (b3, .inr (3, [.ref b4, .int 1])), (b4, .inl (ca 1, 4, .inl f_1)), (b5, .inr (3, [.ref b6, .int 1])), (b6, .inl (ca 1, 4, .inl f_2)), (b7, .inr (3, [.ref b8, .int 1])), (b8, .inl (ca 1, 4, .inl f_3))] := hD
  refine W.eq (g2 := F0 m 24 ls []) rfl ?_
  refine lv_aload_n hx hb d_MX_add_24 rfl (lv_at hl 0 rfl) ?_
  refine va_get (D := (dC, dI)) (ci := 6) (v := .ref b9) (C := R_MX) (T := F_MX) (N := 15) hx hb hts i_MX hown hK.1 hP 0 rfl rfl 6 (by decide) (hts _ xm_230) (fun _ h9 => h9) rfl d_MX_add_25 ?_
  refine lv_iconst (v := 0) hx hb d_MX_add_28 (by decide) ?_
  refine ax_V (ci := 3) (q0 := 0) (k := 1) (As := [.int 0]) (rest := []) (wr := [(h0, .inr (6, [.ref b1, .int 0, .int 0, .ref b3, .ref b5, .ref b7, .ref b9, .ref b11, .ref b13, .ref b15, .ref b17, .ref b19, .int 0, .int 0, .null])), (b1, .inr (2, [.ref b2, .int 0])), (b2, .inl (ca 0, 16, .inl (fun _ => 0))), (b11, .inr (3, [.ref b12, .int 0])), (b12, .inl (ca 1, 4, .inl (fun _ => 0))), (b13, .inr (4, [.ref b14, .int 0])), (b14, .inl (ca 2, 4, .inr (.inl (fun _ => 0)))), (b15, .inr (3, [.ref b16, .int 0])), (b16, .inl (ca 1, 4, .inl (fun _ => 0))), (b17, .inr (3, [.ref b18, .int 0])), (b18, .inl (ca 1, 4, .inl (fun _ => 0))), (b3, .inr (3, [.ref b4, .int 1])), (b4, .inl (ca 1, 4, .inl f_1)), (b5, .inr (3, [.ref b6, .int 1])), (b6, .inl (ca 1, 4, .inl f_2)), (b7, .inr (3, [.ref b8, .int 1])), (b8, .inl (ca 1, 4, .inl f_3))]) rfl hx hb hml hown hts g_wm (mK_bl dC dI ca) (c_MI_add l dC dI ca b9 b10 0) xm_208 xm_209 xm_3 xm_211 xm_210 (by decide +kernel) rfl (Nat.le_of_ble_eq_true rfl) (Nat.le_of_ble_eq_true rfl) hl.1 (Nat.le_of_ble_eq_true rfl) (mK_up hK) hK.1 hP hD hS hA rfl rfl [3, 4] [0, 1, 2, 5, 6, 7, 8, 9, 10, 11, 12, 13, 14, 15, 16, 17, 18] rfl (by decide) rfl rfl (by decide) (by decide) (Nat.le_of_ble_eq_true rfl) (Nat.le_of_ble_eq_true rfl) d_MX_add_29 (fun v f_4 H locs hp hP hD hS => ?_)
  obtain rfl : v = none := hp
  have hP : va_P (dC, dI) classes [(h0, .inr (6, [.ref b1, .int 0, .int 0, .ref b3, .ref b5, .ref b7, .ref b9, .ref b11, .ref b13, .ref b15, .ref b17, .ref b19, .int 0, .int 0, .null])), (b1, .inr (2, [.ref b2, .int 0])), (b2, .inl (ca 0, 16, .inl (fun _ => 0))), (b11, .inr (3, [.ref b12, .int 0])), (b12, .inl (ca 1, 4, .inl (fun _ => 0))), (b13, .inr (4, [.ref b14, .int 0])), (b14, .inl (ca 2, 4, .inr (.inl (fun _ => 0)))), (b15, .inr (3, [.ref b16, .int 0])), (b16, .inl (ca 1, 4, .inl (fun _ => 0))), (b17, .inr (3, [.ref b18, .int 0])), (b18, .inl (ca 1, 4, .inl (fun _ => 0))), (b3, .inr (3, [.ref b4, .int 1])), (b4, .inl (ca 1, 4, .inl f_1)), (b5, .inr (3, [.ref b6, .int 1])), (b6, .inl (ca 1, 4, .inl f_2)), (b7, .inr (3, [.ref b8, .int 1])), (b8, .inl (ca 1, 4, .inl f_3)), (b9, .inr (3, [.ref b10, .int 1])), (b10, .inl (ca 1, 4, .inl f_4))] H := hP
  have hD : va_D A [(h0, .inr (6, [.ref b1, .int 0, .int 0, .ref b3, .ref b5, .ref b7, .ref b9, .ref b11, .ref b13, .ref b15, .ref b17, .ref b19, .int 0, .int 0, .null])), (b1, .inr (2, [.ref b2, .int 0])), (b2, .inl (ca 0, 16, .inl (fun _ => 0))), (b11, .inr (3, [.ref b12, .int 0])), (b12, .inl (ca 1, 4, .inl (fun _ => 0))), (b13, .inr (4, [.ref b14, .int 0])), (b14, .inl (ca 2, 4, .inr (.inl (fun _ => 0)))), (b15, .inr (3, [.ref b16, .int 0])), (b16, .inl (ca 1, 4, .inl (fun _ => 0))), (b17, .inr (3, [.ref b18, .int 0])), (b18, .inl (ca 1, 4, .inl (fun _ => 0))), (b3, .inr (3, [.ref b4, .int 1])), (b4, .inl (ca 1, 4, .inl f_1)), (b5, .inr (3, [.ref b6, .int 1])), (b6, .inl (ca 1, 4, .inl f_2)), (b7, .inr (3, [.ref b8, .int 1])), (b8, .inl (ca 1, 4, .inl f_3)), (b9, .inr (3, [.ref b10, .int 1])), (b10, .inl (ca 1, 4, .inl f_4))] := hD
  refine W.eq (g2 := F0 m 32 ls []) rfl ?_
  refine lv_aload_n hx hb d_MX_add_32 rfl (lv_at hl 0 rfl) ?_
  refine va_get (D := (dC, dI)) (ci := 6) (v := .ref b11) (C := R_MX) (T := F_MX) (N := 15) hx hb hts i_MX hown hK.1 hP 0 rfl rfl 7 (by decide) (hts _ xm_231) (fun _ h9 => h9) rfl d_MX_add_33 ?_
  refine lv_iconst (v := 0) hx hb d_MX_add_36 (by decide) ?_
  refine ax_V (ci := 3) (q0 := 0) (k := 1) (As := [.int 0]) (rest := []) (wr := [(h0, .inr (6, [.ref b1, .int 0, .int 0, .ref b3, .ref b5, .ref b7, .ref b9, .ref b11, .ref b13, .ref b15, .ref b17, .ref b19, .int 0, .int 0, .null])), (b1, .inr (2, [.ref b2, .int 0])), (b2, .inl (ca 0, 16, .inl (fun _ => 0))), (b13, .inr (4, [.ref b14, .int 0])), (b14, .inl (ca 2, 4, .inr (.inl (fun _ => 0)))), (b15, .inr (3, [.ref b16, .int 0])), (b16, .inl (ca 1, 4, .inl (fun _ => 0))), (b17, .inr (3, [.ref b18, .int 0])), (b18, .inl (ca 1, 4, .inl (fun _ => 0))), (b3, .inr (3, [.ref b4, .int 1])), (b4, .inl (ca 1, 4, .inl f_1)), (b5, .inr (3, [.ref b6, .int 1])), (b6, .inl (ca 1, 4, .inl f_2)), (b7, .inr (3, [.ref b8, .int 1])), (b8, .inl (ca 1, 4, .inl f_3)), (b9, .inr (3, [.ref b10, .int 1])), (b10, .inl (ca 1, 4, .inl f_4))]) rfl hx hb hml hown hts g_wm (mK_bl dC dI ca) (c_MI_add l dC dI ca b11 b12 0) xm_208 xm_209 xm_3 xm_211 xm_210 (by decide +kernel) rfl (Nat.le_of_ble_eq_true rfl) (Nat.le_of_ble_eq_true rfl) hl.1 (Nat.le_of_ble_eq_true rfl) (mK_up hK) hK.1 hP hD hS hA rfl rfl [3, 4] [0, 1, 2, 5, 6, 7, 8, 9, 10, 11, 12, 13, 14, 15, 16, 17, 18] rfl (by decide) rfl rfl (by decide) (by decide) (Nat.le_of_ble_eq_true rfl) (Nat.le_of_ble_eq_true rfl) d_MX_add_37 (fun v f_5 H locs hp hP hD hS => ?_)
  obtain rfl : v = none := hp
  have hP : va_P (dC, dI) classes [(h0, .inr (6, [.ref b1, .int 0, .int 0, .ref b3, .ref b5, .ref b7, .ref b9, .ref b11, .ref b13, .ref b15, .ref b17, .ref b19, .int 0, .int 0, .null])), (b1, .inr (2, [.ref b2, .int 0])), (b2, .inl (ca 0, 16, .inl (fun _ => 0))), (b13, .inr (4, [.ref b14, .int 0])), (b14, .inl (ca 2, 4, .inr (.inl (fun _ => 0)))), (b15, .inr (3, [.ref b16, .int 0])), (b16, .inl (ca 1, 4, .inl (fun _ => 0))), (b17, .inr (3, [.ref b18, .int 0])), (b18, .inl (ca 1, 4, .inl (fun _ => 0))), (b3, .inr (3, [.ref b4, .int 1])), (b4, .inl (ca 1, 4, .inl f_1)), (b5, .inr (3, [.ref b6, .int 1])), (b6, .inl (ca 1, 4, .inl f_2)), (b7, .inr (3, [.ref b8, .int 1])), (b8, .inl (ca 1, 4, .inl f_3)), (b9, .inr (3, [.ref b10, .int 1])), (b10, .inl (ca 1, 4, .inl f_4)), (b11, .inr (3, [.ref b12, .int 1])), (b12, .inl (ca 1, 4, .inl f_5))] H := hP
  have hD : va_D A [(h0, .inr (6, [.ref b1, .int 0, .int 0, .ref b3, .ref b5, .ref b7, .ref b9, .ref b11, .ref b13, .ref b15, .ref b17, .ref b19, .int 0, .int 0, .null])), (b1, .inr (2, [.ref b2, .int 0])), (b2, .inl (ca 0, 16, .inl (fun _ => 0))), (b13, .inr (4, [.ref b14, .int 0])), (b14, .inl (ca 2, 4, .inr (.inl (fun _ => 0)))), (b15, .inr (3, [.ref b16, .int 0])), (b16, .inl (ca 1, 4, .inl (fun _ => 0))), (b17, .inr (3, [.ref b18, .int 0])), (b18, .inl (ca 1, 4, .inl (fun _ => 0))), (b3, .inr (3, [.ref b4, .int 1])), (b4, .inl (ca 1, 4, .inl f_1)), (b5, .inr (3, [.ref b6, .int 1])), (b6, .inl (ca 1, 4, .inl f_2)), (b7, .inr (3, [.ref b8, .int 1])), (b8, .inl (ca 1, 4, .inl f_3)), (b9, .inr (3, [.ref b10, .int 1])), (b10, .inl (ca 1, 4, .inl f_4)), (b11, .inr (3, [.ref b12, .int 1])), (b12, .inl (ca 1, 4, .inl f_5))] := hD
  refine W.eq (g2 := F0 m 40 ls []) rfl ?_
  refine lv_aload_n hx hb d_MX_add_40 rfl (lv_at hl 0 rfl) ?_
  refine va_get (D := (dC, dI)) (ci := 6) (v := .ref b13) (C := R_MX) (T := F_MX) (N := 15) hx hb hts i_MX hown hK.1 hP 0 rfl rfl 8 (by decide) (hts _ xm_232) (fun _ h9 => h9) rfl d_MX_add_41 ?_
  refine lv_lconst (v := 0) hx hb d_MX_add_44 (by decide) ?_
  refine ax_V (ci := 4) (q0 := 0) (k := 1) (As := [.long 0]) (rest := []) (wr := [(h0, .inr (6, [.ref b1, .int 0, .int 0, .ref b3, .ref b5, .ref b7, .ref b9, .ref b11, .ref b13, .ref b15, .ref b17, .ref b19, .int 0, .int 0, .null])), (b1, .inr (2, [.ref b2, .int 0])), (b2, .inl (ca 0, 16, .inl (fun _ => 0))), (b15, .inr (3, [.ref b16, .int 0])), (b16, .inl (ca 1, 4, .inl (fun _ => 0))), (b17, .inr (3, [.ref b18, .int 0])), (b18, .inl (ca 1, 4, .inl (fun _ => 0))), (b3, .inr (3, [.ref b4, .int 1])), (b4, .inl (ca 1, 4, .inl f_1)), (b5, .inr (3, [.ref b6, .int 1])), (b6, .inl (ca 1, 4, .inl f_2)), (b7, .inr (3, [.ref b8, .int 1])), (b8, .inl (ca 1, 4, .inl f_3)), (b9, .inr (3, [.ref b10, .int 1])), (b10, .inl (ca 1, 4, .inl f_4)), (b11, .inr (3, [.ref b12, .int 1])), (b12, .inl (ca 1, 4, .inl f_5))]) rfl hx hb hml hown hts g_wm (mK_bl dC dI ca) (c_ML_add l dC dI ca b13 b14 0) xm_212 xm_213 xm_5 xm_215 xm_214 (by decide +kernel) rfl (Nat.le_of_ble_eq_true rfl) (Nat.le_of_ble_eq_true rfl) hl.1 (Nat.le_of_ble_eq_true rfl) (mK_up hK) hK.1 hP hD hS hA rfl rfl [3, 4] [0, 1, 2, 5, 6, 7, 8, 9, 10, 11, 12, 13, 14, 15, 16, 17, 18] rfl (by decide) rfl rfl (by decide) (by decide) (Nat.le_of_ble_eq_true rfl) (Nat.le_of_ble_eq_true rfl) d_MX_add_45 (fun v f_6 H locs hp hP hD hS => ?_)
  obtain rfl : v = none := hp
  have hP : va_P (dC, dI) classes [(h0, .inr (6, [.ref b1, .int 0, .int 0, .ref b3, .ref b5, .ref b7, .ref b9, .ref b11, .ref b13, .ref b15, .ref b17, .ref b19, .int 0, .int 0, .null])), (b1, .inr (2, [.ref b2, .int 0])), (b2, .inl (ca 0, 16, .inl (fun _ => 0))), (b15, .inr (3, [.ref b16, .int 0])), (b16, .inl (ca 1, 4, .inl (fun _ => 0))), (b17, .inr (3, [.ref b18, .int 0])), (b18, .inl (ca 1, 4, .inl (fun _ => 0))), (b3, .inr (3, [.ref b4, .int 1])), (b4, .inl (ca 1, 4, .inl f_1)), (b5, .inr (3, [.ref b6, .int 1])), (b6, .inl (ca 1, 4, .inl f_2)), (b7, .inr (3, [.ref b8, .int 1])), (b8, .inl (ca 1, 4, .inl f_3)), (b9, .inr (3, [.ref b10, .int 1])), (b10, .inl (ca 1, 4, .inl f_4)), (b11, .inr (3, [.ref b12, .int 1])), (b12, .inl (ca 1, 4, .inl f_5)), (b13, .inr (4, [.ref b14, .int 1])), (b14, .inl (ca 2, 4, .inr (.inl f_6)))] H := hP
  have hD : va_D A [(h0, .inr (6, [.ref b1, .int 0, .int 0, .ref b3, .ref b5, .ref b7, .ref b9, .ref b11, .ref b13, .ref b15, .ref b17, .ref b19, .int 0, .int 0, .null])), (b1, .inr (2, [.ref b2, .int 0])), (b2, .inl (ca 0, 16, .inl (fun _ => 0))), (b15, .inr (3, [.ref b16, .int 0])), (b16, .inl (ca 1, 4, .inl (fun _ => 0))), (b17, .inr (3, [.ref b18, .int 0])), (b18, .inl (ca 1, 4, .inl (fun _ => 0))), (b3, .inr (3, [.ref b4, .int 1])), (b4, .inl (ca 1, 4, .inl f_1)), (b5, .inr (3, [.ref b6, .int 1])), (b6, .inl (ca 1, 4, .inl f_2)), (b7, .inr (3, [.ref b8, .int 1])), (b8, .inl (ca 1, 4, .inl f_3)), (b9, .inr (3, [.ref b10, .int 1])), (b10, .inl (ca 1, 4, .inl f_4)), (b11, .inr (3, [.ref b12, .int 1])), (b12, .inl (ca 1, 4, .inl f_5)), (b13, .inr (4, [.ref b14, .int 1])), (b14, .inl (ca 2, 4, .inr (.inl f_6)))] := hD
  refine W.eq (g2 := F0 m 48 ls []) rfl ?_
  refine lv_aload_n hx hb d_MX_add_48 rfl (lv_at hl 0 rfl) ?_
  refine va_get (D := (dC, dI)) (ci := 6) (v := .ref b3) (C := R_MX) (T := F_MX) (N := 15) hx hb hts i_MX hown hK.1 hP 0 rfl rfl 3 (by decide) (hts _ xm_227) (fun _ h9 => h9) rfl d_MX_add_49 ?_
  refine va_getN (D := (dC, dI)) (ci := 3) (v := .int 1) (C := R_MI) (T := F_MI) (N := 2) hx hb hts i_MI hown hK.1 hP 7 rfl rfl 1 (by decide) (va_Nw.use rfl (hK.2.1 _ zm_8)) (fun _ h9 => h9) rfl d_MX_add_52 ?_
  refine lv_iconst (v := 1) hx hb d_MX_add_55 (by decide) ?_
  refine lv_isub hx hb d_MX_add_56 ?_
  refine lv_topi (fun z e9 => ?_)
  obtain rfl : z = 0 := by rw [e9]; decide
  exact ax_iret hx hb hr hlocks hP hD hS () rfl [0] rfl (by decide) rfl (Nat.le_of_ble_eq_true rfl) (Nat.le_of_ble_eq_true rfl) d_MX_add_57
theorem d_MX_clear_0 : decode b_MX_clear 0 = .ok (.aload_n 0, 1) := by decide +kernel
theorem d_MX_clear_1 : decode b_MX_clear 1 = .ok (.getfield 12, 3) := by decide +kernel
theorem d_MX_clear_4 : decode b_MX_clear 4 = .ok (.iconst 0, 1) := by decide +kernel
theorem d_MX_clear_5 : decode b_MX_clear 5 = .ok (.putfield 58, 3) := by decide +kernel
theorem d_MX_clear_8 : decode b_MX_clear 8 = .ok (.aload_n 0, 1) := by decide +kernel
theorem d_MX_clear_9 : decode b_MX_clear 9 = .ok (.getfield 23, 3) := by decide +kernel
theorem d_MX_clear_12 : decode b_MX_clear 12 = .ok (.iconst 0, 1) := by decide +kernel
theorem d_MX_clear_13 : decode b_MX_clear 13 = .ok (.putfield 62, 3) := by decide +kernel
theorem d_MX_clear_16 : decode b_MX_clear 16 = .ok (.aload_n 0, 1) := by decide +kernel
theorem d_MX_clear_17 : decode b_MX_clear 17 = .ok (.getfield 27, 3) := by decide +kernel
theorem d_MX_clear_20 : decode b_MX_clear 20 = .ok (.iconst 0, 1) := by decide +kernel
theorem d_MX_clear_21 : decode b_MX_clear 21 = .ok (.putfield 62, 3) := by decide +kernel
theorem d_MX_clear_24 : decode b_MX_clear 24 = .ok (.aload_n 0, 1) := by decide +kernel
theorem d_MX_clear_25 : decode b_MX_clear 25 = .ok (.getfield 30, 3) := by decide +kernel
theorem d_MX_clear_28 : decode b_MX_clear 28 = .ok (.iconst 0, 1) := by decide +kernel
theorem d_MX_clear_29 : decode b_MX_clear 29 = .ok (.putfield 62, 3) := by decide +kernel
theorem d_MX_clear_32 : decode b_MX_clear 32 = .ok (.aload_n 0, 1) := by decide +kernel
theorem d_MX_clear_33 : decode b_MX_clear 33 = .ok (.getfield 33, 3) := by decide +kernel
theorem d_MX_clear_36 : decode b_MX_clear 36 = .ok (.iconst 0, 1) := by decide +kernel
theorem d_MX_clear_37 : decode b_MX_clear 37 = .ok (.putfield 62, 3) := by decide +kernel
theorem d_MX_clear_40 : decode b_MX_clear 40 = .ok (.aload_n 0, 1) := by decide +kernel
theorem d_MX_clear_41 : decode b_MX_clear 41 = .ok (.getfield 36, 3) := by decide +kernel
theorem d_MX_clear_44 : decode b_MX_clear 44 = .ok (.iconst 0, 1) := by decide +kernel
theorem d_MX_clear_45 : decode b_MX_clear 45 = .ok (.putfield 62, 3) := by decide +kernel
theorem d_MX_clear_48 : decode b_MX_clear 48 = .ok (.aload_n 0, 1) := by decide +kernel
theorem d_MX_clear_49 : decode b_MX_clear 49 = .ok (.getfield 42, 3) := by decide +kernel
theorem d_MX_clear_52 : decode b_MX_clear 52 = .ok (.iconst 0, 1) := by decide +kernel
theorem d_MX_clear_53 : decode b_MX_clear 53 = .ok (.putfield 63, 3) := by decide +kernel
theorem d_MX_clear_56 : decode b_MX_clear 56 = .ok (.aload_n 0, 1) := by decide +kernel
theorem d_MX_clear_57 : decode b_MX_clear 57 = .ok (.getfield 46, 3) := by decide +kernel
theorem d_MX_clear_60 : decode b_MX_clear 60 = .ok (.iconst 0, 1) := by decide +kernel
theorem d_MX_clear_61 : decode b_MX_clear 61 = .ok (.putfield 62, 3) := by decide +kernel
theorem d_MX_clear_64 : decode b_MX_clear 64 = .ok (.aload_n 0, 1) := by decide +kernel
theorem d_MX_clear_65 : decode b_MX_clear 65 = .ok (.getfield 49, 3) := by decide +kernel
theorem d_MX_clear_68 : decode b_MX_clear 68 = .ok (.iconst 0, 1) := by decide +kernel
theorem d_MX_clear_69 : decode b_MX_clear 69 = .ok (.putfield 62, 3) := by decide +kernel
theorem d_MX_clear_72 : decode b_MX_clear 72 = .ok (.aload_n 0, 1) := by decide +kernel
theorem d_MX_clear_73 : decode b_MX_clear 73 = .ok (.iconst 0, 1) := by decide +kernel
theorem d_MX_clear_74 : decode b_MX_clear 74 = .ok (.putfield 64, 3) := by decide +kernel
theorem d_MX_clear_77 : decode b_MX_clear 77 = .ok (.aload_n 0, 1) := by decide +kernel
theorem d_MX_clear_78 : decode b_MX_clear 78 = .ok (.iconst 0, 1) := by decide +kernel
theorem d_MX_clear_79 : decode b_MX_clear 79 = .ok (.putfield 67, 3) := by decide +kernel
theorem d_MX_clear_82 : decode b_MX_clear 82 = .ok (.aload_n 0, 1) := by decide +kernel
theorem d_MX_clear_83 : decode b_MX_clear 83 = .ok (.iconst 0, 1) := by decide +kernel
theorem d_MX_clear_84 : decode b_MX_clear 84 = .ok (.invokevirtual 71, 3) := by decide +kernel
theorem d_MX_clear_87 : decode b_MX_clear 87 = .ok (.pop, 1) := by decide +kernel
theorem d_MX_clear_88 : decode b_MX_clear 88 = .ok (.return_, 1) := by decide +kernel
set_option maxHeartbeats 4000000 in
set_option maxRecDepth 100000 in
theorem c_MX_clear (l : Launch) (dC : Nat → ClassId) (dI : Nat → Nat → Nat) (ca : Nat → ClassId) (h0 b1 b2 b3 b4 b5 b6 b7 b8 b9 b10 b11 b12 b13 b14 b15 b16 b17 b18 b19 : Nat) : CT l classes (dC, dI) (mK dC dI ca) wm y_MX_clear b_MX_clear 1 none 2 45 0 0 [.ref h0] [(h0, .inr (6, [.ref b1, .int 0, .int 0, .ref b3, .ref b5, .ref b7, .ref b9, .ref b11, .ref b13, .ref b15, .ref b17, .ref b19, .int 0, .int 0, .null])), (b1, .inr (2, [.ref b2, .int 0])), (b2, .inl (ca 0, 16, .inl (fun _ => 0))), (b3, .inr (3, [.ref b4, .int 0])), (b4, .inl (ca 1, 4, .inl (fun _ => 0))), (b5, .inr (3, [.ref b6, .int 0])), (b6, .inl (ca 1, 4, .inl (fun _ => 0))), (b7, .inr (3, [.ref b8, .int 0])), (b8, .inl (ca 1, 4, .inl (fun _ => 0))), (b9, .inr (3, [.ref b10, .int 0])), (b10, .inl (ca 1, 4, .inl (fun _ => 0))), (b11, .inr (3, [.ref b12, .int 0])), (b12, .inl (ca 1, 4, .inl (fun _ => 0))), (b13, .inr (4, [.ref b14, .int 0])), (b14, .inl (ca 2, 4, .inr (.inl (fun _ => 0)))), (b15, .inr (3, [.ref b16, .int 0])), (b16, .inl (ca 1, 4, .inl (fun _ => 0))), (b17, .inr (3, [.ref b18, .int 0])), (b18, .inl (ca 1, 4, .inl (fun _ => 0)))] (fun (v : Option Value) (_ : Unit) => v = none) (fun (_ : Unit) => [(h0, .inr (6, [.ref b1, .int 0, .int 0, .ref b3, .ref b5, .ref b7, .ref b9, .ref b11, .ref b13, .ref b15, .ref b17, .ref b19, .int 0, .int 0, .null]))]) := by
  refine ax_of (by decide) (Nat.le_of_ble_eq_true rfl) ?_
  intro p e s m below meth c A ls hAt hK hP hD hS hA hl
  obtain ⟨hx, hb, hr, hml, hown, hts, hlocks, hin⟩ := hAt
  have hl : lv_has ls 1 [(0, .ref h0)] := hl
  refine lv_aload_n hx hb d_MX_clear_0 rfl (lv_at hl 0 rfl) ?_
  refine va_get (D := (dC, dI)) (ci := 6) (v := .ref b1) (C := R_MX) (T := F_MX) (N := 15) hx hb hts i_MX hown hK.1 hP 0 rfl rfl 0 (by decide) (hts _ xm_226) (fun _ h9 => h9) rfl d_MX_clear_1 ?_
  refine lv_iconst (v := 0) hx hb d_MX_clear_4 (by decide) ?_
  refine va_putN (D := (dC, dI)) (ci := 2) (v := .int 0) (ty := .int) (C := R_MB) (T := F_MB) (N := 2) hx hb hts i_MB t_MB t_MB_ok n_MB hown hK.1 hP hD hS 1 rfl rfl 1 (by decide) (va_Nw.use rfl (hK.2.1 _ zm_5)) (fun _ h9 => h9) rfl (by decide +kernel) rfl rfl (Nat.le_of_ble_eq_true rfl) d_MX_clear_5 (fun H locs hP hD hS => ?_)
  have hP : va_P (dC, dI) classes [(h0, .inr (6, [.ref b1, .int 0, .int 0, .ref b3, .ref b5, .ref b7, .ref b9, .ref b11, .ref b13, .ref b15, .ref b17, .ref b19, .int 0, .int 0, .null])), (b1, .inr (2, [.ref b2, .int 0])), (b2, .inl (ca 0, 16, .inl (fun _ => 0))), (b3, .inr (3, [.ref b4, .int 0])), (b4, .inl (ca 1, 4, .inl (fun _ => 0))), (b5, .inr (3, [.ref b6, .int 0])), (b6, .inl (ca 1, 4, .inl (fun _ => 0))), (b7, .inr (3, [.ref b8, .int 0])), (b8, .inl (ca 1, 4, .inl (fun _ => 0))), (b9, .inr (3, [.ref b10, .int 0])), (b10, .inl (ca 1, 4, .inl (fun _ => 0))), (b11, .inr (3, [.ref b12, .int 0])), (b12, .inl (ca 1, 4, .inl (fun _ => 0))), (b13, .inr (4, [.ref b14, .int 0])), (b14, .inl (ca 2, 4, .inr (.inl (fun _ => 0)))), (b15, .inr (3, [.ref b16, .int 0])), (b16, .inl (ca 1, 4, .inl (fun _ => 0))), (b17, .inr (3, [.ref b18, .int 0])), (b18, .inl (ca 1, 4, .inl (fun _ => 0)))] H := hP
  have hD : va_D A [(h0, .inr (6, [.ref b1, .int 0, .int 0, .ref b3, .ref b5, .ref b7, .ref b9, .ref b11, .ref b13, .ref b15, .ref b17, .ref b19, .int 0, .int 0, .null])), (b1, .inr (2, [.ref b2, .int 0])), (b2, .inl (ca 0, 16, .inl (fun _ => 0))), (b3, .inr (3, [.ref b4, .int 0])), (b4, .inl (ca 1, 4, .inl (fun _ => 0))), (b5, .inr (3, [.ref b6, .int 0])), (b6, .inl (ca 1, 4, .inl (fun _ => 0))), (b7, .inr (3, [.ref b8, .int 0])), (b8, .inl (ca 1, 4, .inl (fun _ => 0))), (b9, .inr (3, [.ref b10, .int 0])), (b10, .inl (ca 1, 4, .inl (fun _ => 0))), (b11, .inr (3, [.ref b12, .int 0])), (b12, .inl (ca 1, 4, .inl (fun _ => 0))), (b13, .inr (4, [.ref b14, .int 0])), (b14, .inl (ca 2, 4, .inr (.inl (fun _ => 0)))), (b15, .inr (3, [.ref b16, .int 0])), (b16, .inl (ca 1, 4, .inl (fun _ => 0))), (b17, .inr (3, [.ref b18, .int 0])), (b18, .inl (ca 1, 4, .inl (fun _ => 0)))] := hD
  refine lv_aload_n hx hb d_MX_clear_8 rfl (lv_at hl 0 rfl) ?_
  refine va_get (D := (dC, dI)) (ci := 6) (v := .ref b3) (C := R_MX) (T := F_MX) (N := 15) hx hb hts i_MX hown hK.1 hP 0 rfl rfl 3 (by decide) (hts _ xm_227) (fun _ h9 => h9) rfl d_MX_clear_9 ?_
  refine lv_iconst (v := 0) hx hb d_MX_clear_12 (by decide) ?_
  refine va_putN (D := (dC, dI)) (ci := 3) (v := .int 0) (ty := .int) (C := R_MI) (T := F_MI) (N := 2) hx hb hts i_MI t_MI t_MI_ok n_MI hown hK.1 hP hD hS 3 rfl rfl 1 (by decide) (va_Nw.use rfl (hK.2.1 _ zm_8)) (fun _ h9 => h9) rfl (by decide +kernel) rfl rfl (Nat.le_of_ble_eq_true rfl) d_MX_clear_13 (fun H locs hP hD hS => ?_)
  have hP : va_P (dC, dI) classes [(h0, .inr (6, [.ref b1, .int 0, .int 0, .ref b3, .ref b5, .ref b7, .ref b9, .ref b11, .ref b13, .ref b15, .ref b17, .ref b19, .int 0, .int 0, .null])), (b1, .inr (2, [.ref b2, .int 0])), (b2, .inl (ca 0, 16, .inl (fun _ => 0))), (b3, .inr (3, [.ref b4, .int 0])), (b4, .inl (ca 1, 4, .inl (fun _ => 0))), (b5, .inr (3, [.ref b6, .int 0])), (b6, .inl (ca 1, 4, .inl (fun _ => 0))), (b7, .inr (3, [.ref b8, .int 0])), (b8, .inl (ca 1, 4, .inl (fun _ => 0))), (b9, .inr (3, [.ref b10, .int 0])), (b10, .inl (ca 1, 4, .inl (fun _ => 0))), (b11, .inr (3, [.ref b12, .int 0])), (b12, .inl (ca 1, 4, .inl (fun _ => 0))), (b13, .inr (4, [.ref b14, .int 0])), (b14, .inl (ca 2, 4, .inr (.inl (fun _ => 0)))), (b15, .inr (3, [.ref b16, .int 0])), (b16, .inl (ca 1, 4, .inl (fun _ => 0))), (b17, .inr (3, [.ref b18, .int 0])), (b18, .inl (ca 1, 4, .inl (fun _ => 0)))] H := hP
  have hD : va_D A [(h0, .inr (6, [.ref b1, .int 0, .int 0, .ref b3, .ref b5, .ref b7, .ref b9, .ref b11, .ref b13, .ref b15, .ref b17, .ref b19, .int 0, .int 0, .null])), (b1, .inr (2, [.ref b2, .int 0])), (b2, .inl (ca 0, 16, .inl (fun _ => 0))), (b3, .inr (3, [.ref b4, .int 0])), (b4, .inl (ca 1, 4, .inl (fun _ => 0))), (b5, .inr (3, [.ref b6, .int 0])), (b6, .inl (ca 1, 4, .inl (fun _ => 0))), (b7, .inr (3, [.ref b8, .int 0])), (b8, .inl (ca 1, 4, .inl (fun _ => 0))), (b9, .inr (3, [.ref b10, .int 0])), (b10, .inl (ca 1, 4, .inl (fun _ => 0))), (b11, .inr (3, [.ref b12, .int 0])), (b12, .inl (ca 1, 4, .inl (fun _ => 0))), (b13, .inr (4, [.ref b14, .int 0])), (b14, .inl (ca 2, 4, .inr (.inl (fun _ => 0)))), (b15, .inr (3, [.ref b16, .int 0])), (b16, .inl (ca 1, 4, .inl (fun _ => 0))), (b17, .inr (3, [.ref b18, .int 0])), (b18, .inl (ca 1, 4, .inl (fun _ => 0)))] := hD
  refine lv_aload_n hx hb d_MX_clear_16 rfl (lv_at hl 0 rfl) ?_
  refine va_get (D := (dC, dI)) (ci := 6) (v := .ref b5) (C := R_MX) (T := F_MX) (N := 15) hx hb hts i_MX hown hK.1 hP 0 rfl rfl 4 (by decide) (hts _ xm_228) (fun _ h9 => h9) rfl d_MX_clear_17 ?_
  refine lv_iconst (v := 0) hx hb d_MX_clear_20 (by decide) ?_
  refine va_putN (D := (dC, dI)) (ci := 3) (v := .int 0) (ty := .int) (C := R_MI) (T := F_MI) (N := 2) hx hb hts i_MI t_MI t_MI_ok n_MI hown hK.1 hP hD hS 5 rfl rfl 1 (by decide) (va_Nw.use rfl (hK.2.1 _ zm_8)) (fun _ h9 => h9) rfl (by decide +kernel) rfl rfl (Nat.le_of_ble_eq_true rfl) d_MX_clear_21 (fun H locs hP hD hS => ?_)
  have hP : va_P (dC, dI) classes [(h0, .inr (6, [.ref b1, .int 0, .int 0, .ref b3, .ref b5, .ref b7, .ref b9, .ref b11, .ref b13, .ref b15, .ref b17, .ref b19, .int 0, .int 0, .null])), (b1, .inr (2, [.ref b2, .int 0])), (b2, .inl (ca 0, 16, .inl (fun _ => 0))), (b3, .inr (3, [.ref b4, .int 0])), (b4, .inl (ca 1, 4, .inl (fun _ => 0))), (b5, .inr (3, [.ref b6, .int 0])), (b6, .inl (ca 1, 4, .inl (fun _ => 0))), (b7, .inr (3, [.ref b8, .int 0])), (b8, .inl (ca 1, 4, .inl (fun _ => 0))), (b9, .inr (3, [.ref b10, .int 0])), (b10, .inl (ca 1, 4, .inl (fun _ => 0))), (b11, .inr (3, [.ref b12, .int 0])), (b12, .inl (ca 1, 4, .inl (fun _ => 0))), (b13, .inr (4, [.ref b14, .int 0])), (b14, .inl (ca 2, 4, .inr (.inl (fun _ => 0)))), (b15, .inr (3, [.ref b16, .int 0])), (b16, .inl (ca 1, 4, .inl (fun _ => 0))), (b17, .inr (3, [.ref b18, .int 0])), (b18, .inl (ca 1, 4, .inl (fun _ => 0)))] H := hP
  have hD : va_D A [(h0, .inr (6, [.ref b1, .int 0, .int 0, .ref b3, .ref b5, .ref b7, .ref b9, .ref b11, .ref b13, .ref b15, .ref b17, .ref b19, .int 0, .int 0, .null])), (b1, .inr (2, [.ref b2, .int 0])), (b2, .inl (ca 0, 16, .inl (fun _ => 0))), (b3, .inr (3, [.ref b4, .int 0])), (b4, .inl (ca 1, 4, .inl (fun _ => 0))), (b5, .inr (3, [.ref b6, .int 0])), (b6, .inl (ca 1, 4, .inl (fun _ => 0))), (b7, .inr (3, [.ref b8, .int 0])), (b8, .inl (ca 1, 4, .inl (fun _ => 0))), (b9, .inr (3, [.ref b10, .int 0])), (b10, .inl (ca 1, 4, .inl (fun _ => 0))), (b11, .inr (3, [.ref b12, .int 0])), (b12, .inl (ca 1, 4, .inl (fun _ => 0))), (b13, .inr (4, [.ref b14, .int 0])), (b14, .inl (ca 2, 4, .inr (.inl (fun _ => 0)))), (b15, .inr (3, [.ref b16, .int 0])), (b16, .inl (ca 1, 4, .inl (fun _ => 0))), (b17, .inr (3, [.ref b18, .int 0])), (b18, .inl (ca 1, 4, .inl (fun _ => 0)))] := hD
  refine lv_aload_n hx hb d_MX_clear_24 rfl (lv_at hl 0 rfl) ?_
  refine va_get (D := (dC, dI)) (ci := 6) (v := .ref b7) (C := R_MX) (T := F_MX) (N := 15) hx hb hts i_MX hown hK.1 hP 0 rfl rfl 5 (by decide) (hts _ xm_229) (fun _ h9 => h9) rfl d_MX_clear_25 ?_
  refine lv_iconst (v := 0) hx hb d_MX_clear_28 (by decide) ?_
  refine va_putN (D := (dC, dI)) (ci := 3) (v := .int 0) (ty := .int) (C := R_MI) (T := F_MI) (N := 2) hx hb hts i_MI t_MI t_MI_ok n_MI hown hK.1 hP hD hS 7 rfl rfl 1 (by decide) (va_Nw.use rfl (hK.2.1 _ zm_8)) (fun _ h9 => h9) rfl (by decide +kernel) rfl rfl (Nat.le_of_ble_eq_true rfl) d_MX_clear_29 (fun H locs hP hD hS => ?_)
  have hP : va_P (dC, dI) classes [(h0, .inr (6, [.ref b1, .int 0, .int 0, .ref b3, .ref b5, .ref b7, .ref b9, .ref b11, .ref b13, .ref b15, .ref b17, .ref b19, .int 0, .int 0, .null])), (b1, .inr (2, [.ref b2, .int 0])), (b2, .inl (ca 0, 16, .inl (fun _ => 0))), (b3, .inr (3, [.ref b4, .int 0])), (b4, .inl (ca 1, 4, .inl (fun _ => 0))), (b5, .inr (3, [.ref b6, .int 0])), (b6, .inl (ca 1, 4, .inl (fun _ => 0))), (b7, .inr (3, [.ref b8, .int 0])), (b8, .inl (ca 1, 4, .inl (fun _ => 0))), (b9, .inr (3, [.ref b10, .int 0])), (b10, .inl (ca 1, 4, .inl (fun _ => 0))), (b11, .inr (3, [.ref b12, .int 0])), (b12, .inl (ca 1, 4, .inl (fun _ => 0))), (b13, .inr (4, [.ref b14, .int 0])), (b14, .inl (ca 2, 4, .inr (.inl (fun _ => 0)))), (b15, .inr (3, [.ref b16, .int 0])), (b16, .inl (ca 1, 4, .inl (fun _ => 0))), (b17, .inr (3, [.ref b18, .int 0])), (b18, .inl (ca 1, 4, .inl (fun _ => 0)))] H := hP
  have hD : va_D A [(h0, .inr (6, [.ref b1, .int 0, .int 0, .ref b3, .ref b5, .ref b7, .ref b9, .ref b11, .ref b13, .ref b15, .ref b17, .ref b19, .int 0, .int 0, .null])), (b1, .inr (2, [.ref b2, .int 0])), (b2, .inl (ca 0, 16, .inl (fun _ => 0))), (b3, .inr (3, [.ref b4, .int 0])), (b4, .inl (ca 1, 4, .inl (fun _ => 0))), (b5, .inr (3, [.ref b6, .int 0])), (b6, .inl (ca 1, 4, .inl (fun _ => 0))), (b7, .inr (3, [.ref b8, .int 0])), (b8, .inl (ca 1, 4, .inl (fun _ => 0))), (b9, .inr (3, [.ref b10, .int 0])), (b10, .inl (ca 1, 4, .inl (fun _ => 0))), (b11, .inr (3, [.ref b12, .int 0])), (b12, .inl (ca 1, 4, .inl (fun _ => 0))), (b13, .inr (4, [.ref b14, .int 0])), (b14, .inl (ca 2, 4, .inr (.inl (fun _ => 0)))), (b15, .inr (3, [.ref b16, .int 0])), (b16, .inl (ca 1, 4, .inl (fun _ => 0))), (b17, .inr (3, [.ref b18, .int 0])), (b18, .inl (ca 1, 4, .inl (fun _ => 0)))] := hD
  refine lv_aload_n hx hb d_MX_clear_32 rfl (lv_at hl 0 rfl) ?_
  refine va_get (D := (dC, dI)) (ci := 6) (v := .ref b9) (C := R_MX) (T := F_MX) (N := 15) hx hb hts i_MX hown hK.1 hP 0 rfl rfl 6 (by decide) (hts _ xm_230) (fun _ h9 => h9) rfl d_MX_clear_33 ?_
  refine lv_iconst (v := 0) hx hb d_MX_clear_36 (by decide) ?_
  refine va_putN (D := (dC, dI)) (ci := 3) (v := .int 0) (ty := .int) (C := R_MI) (T := F_MI) (N := 2) hx hb hts i_MI t_MI t_MI_ok n_MI hown hK.1 hP hD hS 9 rfl rfl 1 (by decide) (va_Nw.use rfl (hK.2.1 _ zm_8)) (fun _ h9 => h9) rfl (by decide +kernel) rfl rfl (Nat.le_of_ble_eq_true rfl) d_MX_clear_37 (fun H locs hP hD hS => ?_)
  have hP : va_P (dC, dI) classes [(h0, .inr (6, [.ref b1, .int 0, .int 0, .ref b3, .ref b5, .ref b7, .ref b9, .ref b11, .ref b13, .ref b15, .ref b17, .ref b19, .int 0, .int 0, .null])), (b1, .inr (2, [.ref b2, .int 0])), (b2, .inl (ca 0, 16, .inl (fun _ => 0))), (b3, .inr (3, [.ref b4, .int 0])), (b4, .inl (ca 1, 4, .inl (fun _ => 0))), (b5, .inr (3, [.ref b6, .int 0])), (b6, .inl (ca 1, 4, .inl (fun _ => 0))), (b7, .inr (3, [.ref b8, .int 0])), (b8, .inl (ca 1, 4, .inl (fun _ => 0))), (b9, .inr (3, [.ref b10, .int 0])), (b10, .inl (ca 1, 4, .inl (fun _ => 0))), (b11, .inr (3, [.ref b12, .int 0])), (b12, .inl (ca 1, 4, .inl (fun _ => 0))), (b13, .inr (4, [.ref b14, .int 0])), (b14, .inl (ca 2, 4, .inr (.inl (fun _ => 0)))), (b15, .inr (3, [.ref b16, .int 0])), (b16, .inl (ca 1, 4, .inl (fun _ => 0))), (b17, .inr (3, [.ref b18, .int 0])), (b18, .inl (ca 1, 4, .inl (fun _ => 0)))] H := hP
  have hD : va_D A [(h0, .inr (6, [.ref b1, .int 0, .int 0, .ref b3, .ref b5, .ref b7, .ref b9, .ref b11, .ref b13, .ref b15, .ref b17, .ref b19, .int 0, .int 0, .null])), (b1, .inr (2, [.ref b2, .int 0])), (b2, .inl (ca 0, 16, .inl (fun _ => 0))), (b3, .inr (3, [.ref b4, .int 0])), (b4, .inl (ca 1, 4, .inl (fun _ => 0))), (b5, .inr (3, [.ref b6, .int 0])), (b6, .inl (ca 1, 4, .inl (fun _ => 0))), (b7, .inr (3, [.ref b8, .int 0])), (b8, .inl (ca 1, 4, .inl (fun _ => 0))), (b9, .inr (3, [.ref b10, .int 0])), (b10, .inl (ca 1, 4, .inl (fun _ => 0))), (b11, .inr (3, [.ref b12, .int 0])), (b12, .inl (ca 1, 4, .inl (fun _ => 0))), (b13, .inr (4, [.ref b14, .int 0])), (b14, .inl (ca 2, 4, .inr (.inl (fun _ => 0)))), (b15, .inr (3, [.ref b16, .int 0])), (b16, .inl (ca 1, 4, .inl (fun _ => 0))), (b17, .inr (3, [.ref b18, .int 0])), (b18, .inl (ca 1, 4, .inl (fun _ => 0)))] := hD
  refine lv_aload_n hx hb d_MX_clear_40 rfl (lv_at hl 0 rfl) ?_
  refine va_get (D := (dC, dI)) (ci := 6) (v := .ref b11) (C := R_MX) (T := F_MX) (N := 15) hx hb hts i_MX hown hK.1 hP 0 rfl rfl 7 (by decide) (hts _ xm_231) (fun _ h9 => h9) rfl d_MX_clear_41 ?_
  refine lv_iconst (v := 0) hx hb d_MX_clear_44 (by decide) ?_
  refine va_putN (D := (dC, dI)) (ci := 3) (v := .int 0) (ty := .int) (C := R_MI) (T := F_MI) (N := 2) hx hb hts i_MI t_MI t_MI_ok n_MI hown hK.1 hP hD hS 11 rfl rfl 1 (by decide) (va_Nw.use rfl (hK.2.1 _ zm_8)) (fun _ h9 => h9) rfl (by decide +kernel) rfl rfl (Nat.le_of_ble_eq_true rfl) d_MX_clear_45 (fun H locs hP hD hS => ?_)
  have hP : va_P (dC, dI) classes [(h0, .inr (6, [.ref b1, .int 0, .int 0, .ref b3, .ref b5, .ref b7, .ref b9, .ref b11, .ref b13, .ref b15, .ref b17, .ref b19, .int 0, .int 0, .null])), (b1, .inr (2, [.ref b2, .int 0])), (b2, .inl (ca 0, 16, .inl (fun _ => 0))), (b3, .inr (3, [.ref b4, .int 0])), (b4, .inl (ca 1, 4, .inl (fun _ => 0))), (b5, .inr (3, [.ref b6, .int 0])), (b6, .inl (ca 1, 4, .inl (fun _ => 0))), (b7, .inr (3, [.ref b8, .int 0])), (b8, .inl (ca 1, 4, .inl (fun _ => 0))), (b9, .inr (3, [.ref b10, .int 0])), (b10, .inl (ca 1, 4, .inl (fun _ => 0))), (b11, .inr (3, [.ref b12, .int 0])), (b12, .inl (ca 1, 4, .inl (fun _ => 0))), (b13, .inr (4, [.ref b14, .int 0])), (b14, .inl (ca 2, 4, .inr (.inl (fun _ => 0)))), (b15, .inr (3, [.ref b16, .int 0])), (b16, .inl (ca 1, 4, .inl (fun _ => 0))), (b17, .inr (3, [.ref b18, .int 0])), (b18, .inl (ca 1, 4, .inl (fun _ => 0)))] H := hP
  have hD : va_D A [(h0, .inr (6, [.ref b1, .int 0, .int 0, .ref b3, .ref b5, .ref b7, .ref b9, .ref b11, .ref b13, .ref b15, .ref b17, .ref b19, .int 0, .int 0, .null])), (b1, .inr (2, [.ref b2, .int 0])), (b2, .inl (ca 0, 16, .inl (fun _ => 0))), (b3, .inr (3, [.ref b4, .int 0])), (b4, .inl (ca 1, 4, .inl (fun _ => 0))), (b5, .inr (3, [.ref b6, .int 0])), (b6, .inl (ca 1, 4, .inl (fun _ => 0))), (b7, .inr (3, [.ref b8, .int 0])), (b8, .inl (ca 1, 4, .inl (fun _ => 0))), (b9, .inr (3, [.ref b10, .int 0])), (b10, .inl (ca 1, 4, .inl (fun _ => 0))), (b11, .inr (3, [.ref b12, .int 0])), (b12, .inl (ca 1, 4, .inl (fun _ => 0))), (b13, .inr (4, [.ref b14, .int 0])), (b14, .inl (ca 2, 4, .inr (.inl (fun _ => 0)))), (b15, .inr (3, [.ref b16, .int 0])), (b16, .inl (ca 1, 4, .inl (fun _ => 0))), (b17, .inr (3, [.ref b18, .int 0])), (b18, .inl (ca 1, 4, .inl (fun _ => 0)))] := hD
  refine lv_aload_n hx hb d_MX_clear_48 rfl (lv_at hl 0 rfl) ?_
  refine va_get (D := (dC, dI)) (ci := 6) (v := .ref b13) (C := R_MX) (T := F_MX) (N := 15) hx hb hts i_MX hown hK.1 hP 0 rfl rfl 8 (by decide) (hts _ xm_232) (fun _ h9 => h9) rfl d_MX_clear_49 ?_
  refine lv_iconst (v := 0) hx hb d_MX_clear_52 (by decide) ?_
  refine va_putN (D := (dC, dI)) (ci := 4) (v := .int 0) (ty := .int) (C := R_ML) (T := F_ML) (N := 2) hx hb hts i_ML t_ML t_ML_ok n_ML hown hK.1 hP hD hS 13 rfl rfl 1 (by decide) (va_Nw.use rfl (hK.2.1 _ zm_11)) (fun _ h9 => h9) rfl (by decide +kernel) rfl rfl (Nat.le_of_ble_eq_true rfl) d_MX_clear_53 (fun H locs hP hD hS => ?_)
  have hP : va_P (dC, dI) classes [(h0, .inr (6, [.ref b1, .int 0, .int 0, .ref b3, .ref b5, .ref b7, .ref b9, .ref b11, .ref b13, .ref b15, .ref b17, .ref b19, .int 0, .int 0, .null])), (b1, .inr (2, [.ref b2, .int 0])), (b2, .inl (ca 0, 16, .inl (fun _ => 0))), (b3, .inr (3, [.ref b4, .int 0])), (b4, .inl (ca 1, 4, .inl (fun _ => 0))), (b5, .inr (3, [.ref b6, .int 0])), (b6, .inl (ca 1, 4, .inl (fun _ => 0))), (b7, .inr (3, [.ref b8, .int 0])), (b8, .inl (ca 1, 4, .inl (fun _ => 0))), (b9, .inr (3, [.ref b10, .int 0])), (b10, .inl (ca 1, 4, .inl (fun _ => 0))), (b11, .inr (3, [.ref b12, .int 0])), (b12, .inl (ca 1, 4, .inl (fun _ => 0))), (b13, .inr (4, [.ref b14, .int 0])), (b14, .inl (ca 2, 4, .inr (.inl (fun _ => 0)))), (b15, .inr (3, [.ref b16, .int 0])), (b16, .inl (ca 1, 4, .inl (fun _ => 0))), (b17, .inr (3, [.ref b18, .int 0])), (b18, .inl (ca 1, 4, .inl (fun _ => 0)))] H := hP
  have hD : va_D A [(h0, .inr (6, [.ref b1, .int 0, .int 0, .ref b3, .ref b5, .ref b7, .ref b9, .ref b11, .ref b13, .ref b15, .ref b17, .ref b19, .int 0, .int 0, .null])), (b1, .inr (2, [.ref b2, .int 0])), (b2, .inl (ca 0, 16, .inl (fun _ => 0))), (b3, .inr (3, [.ref b4, .int 0])), (b4, .inl (ca 1, 4, .inl (fun _ => 0))), (b5, .inr (3, [.ref b6, .int 0])), (b6, .inl (ca 1, 4, .inl (fun _ => 0))), (b7, .inr (3, [.ref b8, .int 0])), (b8, .inl (ca 1, 4, .inl (fun _ => 0))), (b9, .inr (3, [.ref b10, .int 0])), (b10, .inl (ca 1, 4, .inl (fun _ => 0))), (b11, .inr (3, [.ref b12, .int 0])), (b12, .inl (ca 1, 4, .inl (fun _ => 0))), (b13, .inr (4, [.ref b14, .int 0])), (b14, .inl (ca 2, 4, .inr (.inl (fun _ => 0)))), (b15, .inr (3, [.ref b16, .int 0])), (b16, .inl (ca 1, 4, .inl (fun _ => 0))), (b17, .inr (3, [.ref b18, .int 0])), (b18, .inl (ca 1, 4, .inl (fun _ => 0)))] := hD
  refine lv_aload_n hx hb d_MX_clear_56 rfl (lv_at hl 0 rfl) ?_
  refine va_get (D := (dC, dI)) (ci := 6) (v := .ref b15) (C := R_MX) (T := F_MX) (N := 15) hx hb hts i_MX hown hK.1 hP 0 rfl rfl 9 (by decide) (hts _ xm_233) (fun _ h9 => h9) rfl d_MX_clear_57 ?_
  refine lv_iconst (v := 0) hx hb d_MX_clear_60 (by decide) ?_
  refine va_putN (D := (dC, dI)) (ci := 3) (v := .int 0) (ty := .int) (C := R_MI) (T := F_MI) (N := 2) hx hb hts i_MI t_MI t_MI_ok n_MI hown hK.1 hP hD hS 15 rfl rfl 1 (by decide) (va_Nw.use rfl (hK.2.1 _ zm_8)) (fun _ h9 => h9) rfl (by decide +kernel) rfl rfl (Nat.le_of_ble_eq_true rfl) d_MX_clear_61 (fun H locs hP hD hS => ?_)
  have hP : va_P (dC, dI) classes [(h0, .inr (6, [.ref b1, .int 0, .int 0, .ref b3, .ref b5, .ref b7, .ref b9, .ref b11, .ref b13, .ref b15, .ref b17, .ref b19, .int 0, .int 0, .null])), (b1, .inr (2, [.ref b2, .int 0])), (b2, .inl (ca 0, 16, .inl (fun _ => 0))), (b3, .inr (3, [.ref b4, .int 0])), (b4, .inl (ca 1, 4, .inl (fun _ => 0))), (b5, .inr (3, [.ref b6, .int 0])), (b6, .inl (ca 1, 4, .inl (fun _ => 0))), (b7, .inr (3, [.ref b8, .int 0])), (b8, .inl (ca 1, 4, .inl (fun _ => 0))), (b9, .inr (3, [.ref b10, .int 0])), (b10, .inl (ca 1, 4, .inl (fun _ => 0))), (b11, .inr (3, [.ref b12, .int 0])), (b12, .inl (ca 1, 4, .inl (fun _ => 0))), (b13, .inr (4, [.ref b14, .int 0])), (b14, .inl (ca 2, 4, .inr (.inl (fun _ => 0)))), (b15, .inr (3, [.ref b16, .int 0])), (b16, .inl (ca 1, 4, .inl (fun _ => 0))), (b17, .inr (3, [.ref b18, .int 0])), (b18, .inl (ca 1, 4, .inl (fun _ => 0)))] H := hP
  have hD : va_D A [(h0, .inr (6, [.ref b1, .int 0, .int 0, .ref b3, .ref b5, .ref b7, .ref b9, .ref b11, .ref b13, .ref b15, .ref b17, .ref b19, .int 0, .int 0, .null])), (b1, .inr (2, [.ref b2, .int 0])), (b2, .inl (ca 0, 16, .inl (fun _ => 0))), (b3, .inr (3, [.ref b4, .int 0])), (b4, .inl (ca 1, 4, .inl (fun _ => 0))), (b5, .inr (3, [.ref b6, .int 0])), (b6, .inl (ca 1, 4, .inl (fun _ => 0))), (b7, .inr (3, [.ref b8, .int 0])), (b8, .inl (ca 1, 4, .inl (fun _ => 0))), (b9, .inr (3, [.ref b10, .int 0])), (b10, .inl (ca 1, 4, .inl (fun _ => 0))), (b11, .inr (3, [.ref b12, .int 0])), (b12, .inl (ca 1, 4, .inl (fun _ => 0))), (b13, .inr (4, [.ref b14, .int 0])), (b14, .inl (ca 2, 4, .inr (.inl (fun _ => 0)))), (b15, .inr (3, [.ref b16, .int 0])), (b16, .inl (ca 1, 4, .inl (fun _ => 0))), (b17, .inr (3, [.ref b18, .int 0])), (b18, .inl (ca 1, 4, .inl (fun _ => 0)))] := hD
  refine lv_aload_n hx hb d_MX_clear_64 rfl (lv_at hl 0 rfl) ?_
  refine va_get (D := (dC, dI)) (ci := 6) (v := .ref b17) (C := R_MX) (T := F_MX) (N := 15) hx hb hts i_MX hown hK.1 hP 0 rfl rfl 10 (by decide) (hts _ xm_234) (fun _ h9 => h9) rfl d_MX_clear_65 ?_
  refine lv_iconst (v := 0) hx hb d_MX_clear_68 (by decide) ?_
  refine va_putN (D := (dC, dI)) (ci := 3) (v := .int 0) (ty := .int) (C := R_MI) (T := F_MI) (N := 2) hx hb hts i_MI t_MI t_MI_ok n_MI hown hK.1 hP hD hS 17 rfl rfl 1 (by decide) (va_Nw.use rfl (hK.2.1 _ zm_8)) (fun _ h9 => h9) rfl (by decide +kernel) rfl rfl (Nat.le_of_ble_eq_true rfl) d_MX_clear_69 (fun H locs hP hD hS => ?_)
  have hP : va_P (dC, dI) classes [(h0, .inr (6, [.ref b1, .int 0, .int 0, .ref b3, .ref b5, .ref b7, .ref b9, .ref b11, .ref b13, .ref b15, .ref b17, .ref b19, .int 0, .int 0, .null])), (b1, .inr (2, [.ref b2, .int 0])), (b2, .inl (ca 0, 16, .inl (fun _ => 0))), (b3, .inr (3, [.ref b4, .int 0])), (b4, .inl (ca 1, 4, .inl (fun _ => 0))), (b5, .inr (3, [.ref b6, .int 0])), (b6, .inl (ca 1, 4, .inl (fun _ => 0))), (b7, .inr (3, [.ref b8, .int 0])), (b8, .inl (ca 1, 4, .inl (fun _ => 0))), (b9, .inr (3, [.ref b10, .int 0])), (b10, .inl (ca 1, 4, .inl (fun _ => 0))), (b11, .inr (3, [.ref b12, .int 0])), (b12, .inl (ca 1, 4, .inl (fun _ => 0))), (b13, .inr (4, [.ref b14, .int 0])), (b14, .inl (ca 2, 4, .inr (.inl (fun _ => 0)))), (b15, .inr (3, [.ref b16, .int 0])), (b16, .inl (ca 1, 4, .inl (fun _ => 0))), (b17, .inr (3, [.ref b18, .int 0])), (b18, .inl (ca 1, 4, .inl (fun _ => 0)))] H := hP
  have hD : va_D A [(h0, .inr (6, [.ref b1, .int 0, .int 0, .ref b3, .ref b5, .ref b7, .ref b9, .ref b11, .ref b13, .ref b15, .ref b17, .ref b19, .int 0, .int 0, .null])), (b1, .inr (2, [.ref b2, .int 0])), (b2, .inl (ca 0, 16, .inl (fun _ => 0))), (b3, .inr (3, [.ref b4, .int 0])), (b4, .inl (ca 1, 4, .inl (fun _ => 0))), (b5, .inr (3, [.ref b6, .int 0])), (b6, .inl (ca 1, 4, .inl (fun _ => 0))), (b7, .inr (3, [.ref b8, .int 0])), (b8, .inl (ca 1, 4, .inl (fun _ => 0))), (b9, .inr (3, [.ref b10, .int 0])), (b10, .inl (ca 1, 4, .inl (fun _ => 0))), (b11, .inr (3, [.ref b12, .int 0])), (b12, .inl (ca 1, 4, .inl (fun _ => 0))), (b13, .inr (4, [.ref b14, .int 0])), (b14, .inl (ca 2, 4, .inr (.inl (fun _ => 0)))), (b15, .inr (3, [.ref b16, .int 0])), (b16, .inl (ca 1, 4, .inl (fun _ => 0))), (b17, .inr (3, [.ref b18, .int 0])), (b18, .inl (ca 1, 4, .inl (fun _ => 0)))] := hD
  refine lv_aload_n hx hb d_MX_clear_72 rfl (lv_at hl 0 rfl) ?_
  refine lv_iconst (v := 0) hx hb d_MX_clear_73 (by decide) ?_
  refine va_put (D := (dC, dI)) (ci := 6) (v := .int 0) (ty := .int) (C := R_MX) (T := F_MX) (N := 15) hx hb hts i_MX t_MX t_MX_ok n_MX hown hK.1 hP hD hS 0 rfl rfl 12 (by decide) (hts _ xm_236) (fun _ h9 => h9) rfl (by decide +kernel) rfl rfl (Nat.le_of_ble_eq_true rfl) d_MX_clear_74 (fun H locs hP hD hS => ?_)
  have hP : va_P (dC, dI) classes [(h0, .inr (6, [.ref b1, .int 0, .int 0, .ref b3, .ref b5, .ref b7, .ref b9, .ref b11, .ref b13, .ref b15, .ref b17, .ref b19, .int 0, .int 0, .null])), (b1, .inr (2, [.ref b2, .int 0])), (b2, .inl (ca 0, 16, .inl (fun _ => 0))), (b3, .inr (3, [.ref b4, .int 0])), (b4, .inl (ca 1, 4, .inl (fun _ => 0))), (b5, .inr (3, [.ref b6, .int 0])), (b6, .inl (ca 1, 4, .inl (fun _ => 0))), (b7, .inr (3, [.ref b8, .int 0])), (b8, .inl (ca 1, 4, .inl (fun _ => 0))), (b9, .inr (3, [.ref b10, .int 0])), (b10, .inl (ca 1, 4, .inl (fun _ => 0))), (b11, .inr (3, [.ref b12, .int 0])), (b12, .inl (ca 1, 4, .inl (fun _ => 0))), (b13, .inr (4, [.ref b14, .int 0])), (b14, .inl (ca 2, 4, .inr (.inl (fun _ => 0)))), (b15, .inr (3, [.ref b16, .int 0])), (b16, .inl (ca 1, 4, .inl (fun _ => 0))), (b17, .inr (3, [.ref b18, .int 0])), (b18, .inl (ca 1, 4, .inl (fun _ => 0)))] H := hP
  have hD : va_D A [(h0, .inr (6, [.ref b1, .int 0, .int 0, .ref b3, .ref b5, .ref b7, .ref b9, .ref b11, .ref b13, .ref b15, .ref b17, .ref b19, .int 0, .int 0, .null])), (b1, .inr (2, [.ref b2, .int 0])), (b2, .inl (ca 0, 16, .inl (fun _ => 0))), (b3, .inr (3, [.ref b4, .int 0])), (b4, .inl (ca 1, 4, .inl (fun _ => 0))), (b5, .inr (3, [.ref b6, .int 0])), (b6, .inl (ca 1, 4, .inl (fun _ => 0))), (b7, .inr (3, [.ref b8, .int 0])), (b8, .inl (ca 1, 4, .inl (fun _ => 0))), (b9, .inr (3, [.ref b10, .int 0])), (b10, .inl (ca 1, 4, .inl (fun _ => 0))), (b11, .inr (3, [.ref b12, .int 0])), (b12, .inl (ca 1, 4, .inl (fun _ => 0))), (b13, .inr (4, [.ref b14, .int 0])), (b14, .inl (ca 2, 4, .inr (.inl (fun _ => 0)))), (b15, .inr (3, [.ref b16, .int 0])), (b16, .inl (ca 1, 4, .inl (fun _ => 0))), (b17, .inr (3, [.ref b18, .int 0])), (b18, .inl (ca 1, 4, .inl (fun _ => 0)))] := hD
  refine lv_aload_n hx hb d_MX_clear_77 rfl (lv_at hl 0 rfl) ?_
  refine lv_iconst (v := 0) hx hb d_MX_clear_78 (by decide) ?_
  refine va_put (D := (dC, dI)) (ci := 6) (v := .int 0) (ty := .boolean) (C := R_MX) (T := F_MX) (N := 15) hx hb hts i_MX t_MX t_MX_ok n_MX hown hK.1 hP hD hS 0 rfl rfl 13 (by decide) (hts _ xm_237) (fun _ h9 => h9) rfl (by decide +kernel) rfl rfl (Nat.le_of_ble_eq_true rfl) d_MX_clear_79 (fun H locs hP hD hS => ?_)
  have hP : va_P (dC, dI) classes [(h0, .inr (6, [.ref b1, .int 0, .int 0, .ref b3, .ref b5, .ref b7, .ref b9, .ref b11, .ref b13, .ref b15, .ref b17, .ref b19, .int 0, .int 0, .null])), (b1, .inr (2, [.ref b2, .int 0])), (b2, .inl (ca 0, 16, .inl (fun _ => 0))), (b3, .inr (3, [.ref b4, .int 0])), (b4, .inl (ca 1, 4, .inl (fun _ => 0))), (b5, .inr (3, [.ref b6, .int 0])), (b6, .inl (ca 1, 4, .inl (fun _ => 0))), (b7, .inr (3, [.ref b8, .int 0])), (b8, .inl (ca 1, 4, .inl (fun _ => 0))), (b9, .inr (3, [.ref b10, .int 0])), (b10, .inl (ca 1, 4, .inl (fun _ => 0))), (b11, .inr (3, [.ref b12, .int 0])), (b12, .inl (ca 1, 4, .inl (fun _ => 0))), (b13, .inr (4, [.ref b14, .int 0])), (b14, .inl (ca 2, 4, .inr (.inl (fun _ => 0)))), (b15, .inr (3, [.ref b16, .int 0])), (b16, .inl (ca 1, 4, .inl (fun _ => 0))), (b17, .inr (3, [.ref b18, .int 0])), (b18, .inl (ca 1, 4, .inl (fun _ => 0)))] H := hP
  have hD : va_D A [(h0, .inr (6, [.ref b1, .int 0, .int 0, .ref b3, .ref b5, .ref b7, .ref b9, .ref b11, .ref b13, .ref b15, .ref b17, .ref b19, .int 0, .int 0, .null])), (b1, .inr (2, [.ref b2, .int 0])), (b2, .inl (ca 0, 16, .inl (fun _ => 0))), (b3, .inr (3, [.ref b4, .int 0])), (b4, .inl (ca 1, 4, .inl (fun _ => 0))), (b5, .inr (3, [.ref b6, .int 0])), (b6, .inl (ca 1, 4, .inl (fun _ => 0))), (b7, .inr (3, [.ref b8, .int 0])), (b8, .inl (ca 1, 4, .inl (fun _ => 0))), (b9, .inr (3, [.ref b10, .int 0])), (b10, .inl (ca 1, 4, .inl (fun _ => 0))), (b11, .inr (3, [.ref b12, .int 0])), (b12, .inl (ca 1, 4, .inl (fun _ => 0))), (b13, .inr (4, [.ref b14, .int 0])), (b14, .inl (ca 2, 4, .inr (.inl (fun _ => 0)))), (b15, .inr (3, [.ref b16, .int 0])), (b16, .inl (ca 1, 4, .inl (fun _ => 0))), (b17, .inr (3, [.ref b18, .int 0])), (b18, .inl (ca 1, 4, .inl (fun _ => 0)))] := hD
  refine lv_aload_n hx hb d_MX_clear_82 rfl (lv_at hl 0 rfl) ?_
  refine lv_iconst (v := 0) hx hb d_MX_clear_83 (by decide) ?_
  refine ax_V (ci := 6) (q0 := 0) (k := 1) (As := [.int 0]) (rest := []) (wr := []) rfl hx hb hml hown hts g_wm (mK_bl dC dI ca) (c_MX_add l dC dI ca h0 b1 b2 b3 b4 b5 b6 b7 b8 b9 b10 b11 b12 b13 b14 b15 b16 b17 b18 b19) xm_204 xm_205 xm_7 xm_207 xm_206 (by decide +kernel) rfl (Nat.le_of_ble_eq_true rfl) (Nat.le_of_ble_eq_true rfl) hl.1 (Nat.le_of_ble_eq_true rfl) (mK_up hK) hK.1 hP hD hS hA rfl rfl [0, 1, 2, 3, 4, 5, 6, 7, 8, 9, 10, 11, 12, 13, 14, 15, 16, 17, 18] [] rfl (by decide) rfl rfl (by decide) (by decide) (Nat.le_of_ble_eq_true rfl) (Nat.le_of_ble_eq_true rfl) d_MX_clear_84 (fun v _ H locs hp hP hD hS => ?_)
  obtain rfl : v = some (.int 0) := hp
  have hP : va_P (dC, dI) classes [(h0, .inr (6, [.ref b1, .int 0, .int 0, .ref b3, .ref b5, .ref b7, .ref b9, .ref b11, .ref b13, .ref b15, .ref b17, .ref b19, .int 0, .int 0, .null]))] H := hP
  have hD : va_D A [(h0, .inr (6, [.ref b1, .int 0, .int 0, .ref b3, .ref b5, .ref b7, .ref b9, .ref b11, .ref b13, .ref b15, .ref b17, .ref b19, .int 0, .int 0, .null]))] := hD
  refine W.eq (g2 := F0 m 87 ls [.int 0]) rfl ?_
  refine lv_pop hx hb d_MX_clear_87 rfl ?_
  exact ax_vret hx hb hr hlocks hP hD hS () rfl [0] rfl (by decide) rfl (Nat.le_of_ble_eq_true rfl) (Nat.le_of_ble_eq_true rfl) d_MX_clear_88
end
section
section AXZ
variable {p : Program} {l : Launch} {e : Env} {R : Room} {s : State} {m : MethodId} {args : Array Value} {below : List Frame} {meth : Method} {c : Code} {H : Heap} {locs : List Loc} {cells slots : Nat} {Q : State → Prop}
variable {cl : List vw_C} {D : va_G} {A : Nat → Prop} {ws : va_W} {cc : ByteArray} {pc : Nat} {ls : Array Slot}
theorem ax_aret {S : Type} {post : Option Value → S → Prop} {ws1 : S → va_W} {mc ms : Nat} {v : Value} {rt : FieldType} (hx : p.tables.exec = Jvm.exec) (hb : c.code = cc) (hr : meth.sig.returnType = some rt) (hrt : (∃ n, rt = .object n) ∨ ∃ t, rt = .array t) (hv : v = .null ∨ ∃ a, v = .ref a) (hlocks : meth.locks = false) (hP : va_P D cl ws H) (hD : va_D A ws) (hS : va_S A s.heap H locs) (u : S) (hp : post (some v) u) (is : List Nat) (h1 : is.filterMap (fun i => ws[i]?) = ws1 u) (hn : va_nd is = true) (h2 : is.map (fun i => ws[i]?) = (ws1 u).map some) (hc : cells ≤ mc) (hs : slots ≤ ms) (hdg : decode cc pc = .ok (.areturn, 1)) :
    W p l e R s m args below meth c H locs cells slots (MQ below (ax_Q post (ax_B cl D A ws1) A) args s mc ms A) (F0 m pc ls [v]) := by
  refine W.widen hc hs ?_
  exact W.aret hx hb hr hrt hv (fun t ht hW => ⟨⟨_, u, rfl, hp, by rw [ht]; exact hP.sub is h1, hD.sub is hn h2⟩, hS.F ht⟩) hS.2.2 hdg hlocks
end AXZ
end
section
/-- the fields of the reference within take -/
def mF2 (q : Nat → Nat) (th : Int32) (bx : Value) (sz a0 sc : Int32) : List Value := [.int th, .ref (q 1), .ref (q 2), .ref (q 3), .ref (q 4), .ref (q 5), .int sz, .int a0, .int 0, .ref (q 9), .ref (q 10), .ref (q 11), .ref (q 12), .int sc, bx, .ref (q 15), .int 0, .ref (q 17), .ref (q 18), .ref (q 19), .ref (q 20), .ref (q 21), .ref (q 22), .int 0, .int 0, .int 0, .int 0, .ref (q 27), .ref (q 28), .ref (q 29), .ref (q 30), .ref (q 31), .ref (q 32), .ref (q 33), .int 0, .ref (q 35), .ref (q 36), .ref (q 37), .ref (q 38), .ref (q 39), .ref (q 40), .ref (q 41), .ref (q 42), .ref (q 43), .ref (q 44), .ref (q 45), .ref (q 46), .ref (q 47), .ref (q 48), .ref (q 49), .ref (q 50), .ref (q 51), .ref (q 52), .ref (q 53), .ref (q 54), .ref (q 55), .ref (q 56), .ref (q 57), .ref (q 58), .ref (q 59), .ref (q 60), .ref (q 61), .int 0, .int 0, .ref (q 64), .int 0, .int 0, .int 0, .int 0, .int 0, .ref (q 70), .null, .ref (q 72), .ref (q 73), .int 0, .int 0, .ref (q 76), .ref (q 77), .ref (q 78), .int 0, .ref (q 80), .null, .int 0, .int 0, .int 0, .int 0, .int 0, .null, .null, .int 0, .ref (q 90), .ref (q 91), .int 0, .ref (q 93), .ref (q 94), .ref (q 95), .ref (q 96), .int 0, .int 0, .int 0, .int 0, .int 0, .int 0, .ref (q 103), .ref (q 104), .int 0, .ref (q 106), .null, .ref (q 108), .ref (q 109), .ref (q 110), .ref (q 111), .ref (q 112), .ref (q 113), .ref (q 114), .int 0, .ref (q 116), .ref (q 117), .ref (q 118), .ref (q 119), .ref (q 120), .ref (q 121), .ref (q 122), .ref (q 123), .ref (q 124), .ref (q 125), .ref (q 126), .ref (q 127), .ref (q 128), .ref (q 129), .int 0, .int 0]
theorem d_MH_of_0 : decode b_MH_of 0 = .ok (.aload_n 0, 1) := by decide +kernel
theorem d_MH_of_1 : decode b_MH_of 1 = .ok (.iload_n 1, 1) := by decide +kernel
theorem d_MH_of_2 : decode b_MH_of 2 = .ok (.putfield 7, 3) := by decide +kernel
theorem d_MH_of_5 : decode b_MH_of 5 = .ok (.aload_n 0, 1) := by decide +kernel
theorem d_MH_of_6 : decode b_MH_of 6 = .ok (.iload_n 2, 1) := by decide +kernel
theorem d_MH_of_7 : decode b_MH_of 7 = .ok (.putfield 13, 3) := by decide +kernel
theorem d_MH_of_10 : decode b_MH_of 10 = .ok (.aload_n 0, 1) := by decide +kernel
theorem d_MH_of_11 : decode b_MH_of 11 = .ok (.areturn, 1) := by decide +kernel
set_option maxHeartbeats 4000000 in
set_option maxRecDepth 100000 in
theorem c_MH_of (l : Launch) (dC : Nat → ClassId) (dI : Nat → Nat → Nat) (ca : Nat → ClassId) (h0 : Nat) (x0 x1 x2 x3 x4 x5 x6 x7 : Value) (a b : Int32) : CT l classes (dC, dI) (mK dC dI ca) wm y_MH_of b_MH_of 3 (some (.object "SourceBackModel$Halt")) 0 0 0 0 [.ref h0, .int a, .int b] [(h0, .inr (1, [x0, x1, x2, x3, x4, x5, x6, x7]))] (fun (v : Option Value) (_ : Unit) => v = some (.ref h0)) (fun (_ : Unit) => [(h0, .inr (1, [x0, x1, x2, x3, x4, .int a, .int b, x7]))]) := by
  refine ax_of (by decide) (Nat.le_of_ble_eq_true rfl) ?_
  intro p e s m below meth c A ls hAt hK hP hD hS hA hl
  obtain ⟨hx, hb, hr, hml, hown, hts, hlocks, hin⟩ := hAt
  have hl : lv_has ls 3 [(0, .ref h0), (1, .int a), (2, .int b)] := hl
  refine lv_aload_n hx hb d_MH_of_0 rfl (lv_at hl 0 rfl) ?_
  refine lv_iload_n hx hb d_MH_of_1 rfl (lv_at hl 1 rfl) ?_
  refine va_put (D := (dC, dI)) (ci := 1) (v := .int a) (ty := .int) (C := R_MH) (T := F_MH) (N := 8) hx hb hts i_MH t_MH t_MH_ok n_MH hown hK.1 hP hD hS 0 rfl rfl 5 (by decide) (hts _ xm_23) (fun _ h9 => h9) rfl (by decide +kernel) rfl rfl (Nat.le_of_ble_eq_true rfl) d_MH_of_2 (fun H locs hP hD hS => ?_)
  have hP : va_P (dC, dI) classes [(h0, .inr (1, [x0, x1, x2, x3, x4, .int a, x6, x7]))] H := hP
  have hD : va_D A [(h0, .inr (1, [x0, x1, x2, x3, x4, .int a, x6, x7]))] := hD
  refine lv_aload_n hx hb d_MH_of_5 rfl (lv_at hl 0 rfl) ?_
  refine lv_iload_n hx hb d_MH_of_6 rfl (lv_at hl 2 rfl) ?_
  refine va_put (D := (dC, dI)) (ci := 1) (v := .int b) (ty := .int) (C := R_MH) (T := F_MH) (N := 8) hx hb hts i_MH t_MH t_MH_ok n_MH hown hK.1 hP hD hS 0 rfl rfl 6 (by decide) (hts _ xm_24) (fun _ h9 => h9) rfl (by decide +kernel) rfl rfl (Nat.le_of_ble_eq_true rfl) d_MH_of_7 (fun H locs hP hD hS => ?_)
  have hP : va_P (dC, dI) classes [(h0, .inr (1, [x0, x1, x2, x3, x4, .int a, .int b, x7]))] H := hP
  have hD : va_D A [(h0, .inr (1, [x0, x1, x2, x3, x4, .int a, .int b, x7]))] := hD
  refine lv_aload_n hx hb d_MH_of_10 rfl (lv_at hl 0 rfl) ?_
  exact ax_aret hx hb hr (Or.inl ⟨_, rfl⟩) (Or.inr ⟨_, rfl⟩) hlocks hP hD hS () rfl [0] rfl (by decide) rfl (Nat.le_of_ble_eq_true rfl) (Nat.le_of_ble_eq_true rfl) d_MH_of_11
theorem d_MM_must_0 : decode b_MM_must 0 = .ok (.iload_n 1, 1) := by decide +kernel
theorem d_MM_must_1 : decode b_MM_must 1 = .ok (.ifCond .ne 13, 3) := by decide +kernel
theorem d_MM_must_14 : decode b_MM_must 14 = .ok (.return_, 1) := by decide +kernel
set_option maxHeartbeats 4000000 in
set_option maxRecDepth 100000 in
theorem c_MM_must (l : Launch) (dC : Nat → ClassId) (dI : Nat → Nat → Nat) (ca : Nat → ClassId) (h0 : Nat) (q : Nat → Nat) (th : Int32) (bx : Value) (sz a0 sc : Int32) (a b : Int32) : CT l classes (dC, dI) (mK dC dI ca) wm y_MM_must b_MM_must 4 none 0 0 0 0 [.ref h0, .int 1, .int a, .int b] [(h0, .inr (0, mF2 q th (bx) sz a0 sc))] (fun (v : Option Value) (_ : Unit) => v = none) (fun (_ : Unit) => [(h0, .inr (0, mF2 q th (bx) sz a0 sc))]) := by
  refine ax_of (by decide) (Nat.le_of_ble_eq_true rfl) ?_
  intro p e s m below meth c A ls hAt hK hP hD hS hA hl
  obtain ⟨hx, hb, hr, hml, hown, hts, hlocks, hin⟩ := hAt
  have hl : lv_has ls 4 [(0, .ref h0), (1, .int 1), (2, .int a), (3, .int b)] := hl
  refine lv_iload_n hx hb d_MM_must_0 rfl (lv_at hl 1 rfl) ?_
  refine lv_if_ne (tgt := 14) hx hb d_MM_must_1 (by decide) (fun _ => ?_) (fun h => absurd h (by decide))
  exact ax_vret hx hb hr hlocks hP hD hS () rfl [0] rfl (by decide) rfl (Nat.le_of_ble_eq_true rfl) (Nat.le_of_ble_eq_true rfl) d_MM_must_14
theorem d_MM_must_4 : decode b_MM_must 4 = .ok (.aload_n 0, 1) := by decide +kernel
theorem d_MM_must_5 : decode b_MM_must 5 = .ok (.getfield 10, 3) := by decide +kernel
theorem d_MM_must_8 : decode b_MM_must 8 = .ok (.iload_n 2, 1) := by decide +kernel
theorem d_MM_must_9 : decode b_MM_must 9 = .ok (.iload_n 3, 1) := by decide +kernel
theorem d_MM_must_10 : decode b_MM_must 10 = .ok (.invokevirtual 383, 3) := by decide +kernel
theorem d_MM_must_13 : decode b_MM_must 13 = .ok (.athrow, 1) := by decide +kernel
set_option maxHeartbeats 4000000 in
set_option maxRecDepth 100000 in
theorem c_MM_mustT (l : Launch) (dC : Nat → ClassId) (dI : Nat → Nat → Nat) (ca : Nat → ClassId) (h0 : Nat) (q : Nat → Nat) (th : Int32) (bx : Value) (sz a0 sc : Int32) (x0 x1 x2 x3 x4 x5 x6 x7 : Value) (a b : Int32) : CTT l classes (dC, dI) (mK dC dI ca) wm y_MM_must b_MM_must 4 none 1 22 0 0 [.ref h0, .int 0, .int a, .int b] [(h0, .inr (0, mF2 q th (bx) sz a0 sc)), ((q 1), .inr (1, [x0, x1, x2, x3, x4, x5, x6, x7]))] (fun (x : Addr) (_ : Unit) => x = q 1) (fun (_ : Unit) => [(h0, .inr (0, mF2 q th (bx) sz a0 sc)), ((q 1), .inr (1, [x0, x1, x2, x3, x4, .int a, .int b, x7]))]) := by
  refine ax_ofT (by decide) (Nat.le_of_ble_eq_true rfl) ?_
  intro p e s m below meth c A ls hAt hne hK hP hD hS hA hAi hl
  obtain ⟨hx, hb, hr, hml, hown, hts, hlocks, hin⟩ := hAt
  have hl : lv_has ls 4 [(0, .ref h0), (1, .int 0), (2, .int a), (3, .int b)] := hl
  refine lv_iload_n hx hb d_MM_must_0 rfl (lv_at hl 1 rfl) ?_
  refine lv_if_ne (tgt := 14) hx hb d_MM_must_1 (by decide) (fun h => absurd h (by decide)) (fun _ => ?_)
  refine lv_aload_n hx hb d_MM_must_4 rfl (lv_at hl 0 rfl) ?_
  refine va_get (D := (dC, dI)) (ci := 0) (v := .ref (q 1)) (C := R_MM) (T := F_MM) (N := 132) hx hb hts i_MM hown hK.1 hP 0 rfl rfl 1 (by decide) (hts _ xm_74) (fun _ h9 => h9) rfl d_MM_must_5 ?_
  refine lv_iload_n hx hb d_MM_must_8 rfl (lv_at hl 2 rfl) ?_
  refine lv_iload_n hx hb d_MM_must_9 rfl (lv_at hl 3 rfl) ?_
  refine ax_V (ci := 1) (q0 := 0) (k := 2) (As := [.int a, .int b]) (rest := []) (wr := [(h0, .inr (0, mF2 q th (bx) sz a0 sc))]) rfl hx hb hml hown hts g_wm (mK_bl dC dI ca) (c_MH_of l dC dI ca (q 1) x0 x1 x2 x3 x4 (x5) (x6) x7 a b) xm_241 xm_242 xm_1 xm_244 xm_243 (by decide +kernel) rfl (Nat.le_of_ble_eq_true rfl) (Nat.le_of_ble_eq_true rfl) hl.1 (Nat.le_of_ble_eq_true rfl) (mK_up hK) hK.1 hP hD hS hA rfl rfl [1] [0] rfl (by decide) rfl rfl (by decide) (by decide) (Nat.le_of_ble_eq_true rfl) (Nat.le_of_ble_eq_true rfl) d_MM_must_10 (fun v _ H locs hp hP hD hS => ?_)
  obtain rfl : v = some (.ref (q 1)) := hp
  have hP : va_P (dC, dI) classes [(h0, .inr (0, mF2 q th (bx) sz a0 sc)), ((q 1), .inr (1, [x0, x1, x2, x3, x4, .int a, .int b, x7]))] H := hP
  have hD : va_D A [(h0, .inr (0, mF2 q th (bx) sz a0 sc)), ((q 1), .inr (1, [x0, x1, x2, x3, x4, .int a, .int b, x7]))] := hD
  refine W.eq (g2 := F0 m 13 ls [.ref (q 1)]) rfl ?_
  exact ax_athrow hx hb hlocks hne hP hD hS () rfl [0, 1] rfl (by decide) rfl (Nat.le_of_ble_eq_true rfl) (Nat.le_of_ble_eq_true rfl) d_MM_must_13
theorem d_MM_gives_0 : decode b_MM_gives 0 = .ok (.aload_n 0, 1) := by decide +kernel
theorem d_MM_gives_1 : decode b_MM_gives 1 = .ok (.getfield 51, 3) := by decide +kernel
theorem d_MM_gives_4 : decode b_MM_gives 4 = .ok (.aload_n 0, 1) := by decide +kernel
theorem d_MM_gives_5 : decode b_MM_gives 5 = .ok (.getfield 403, 3) := by decide +kernel
theorem d_MM_gives_8 : decode b_MM_gives 8 = .ok (.aload_n 1, 1) := by decide +kernel
theorem d_MM_gives_9 : decode b_MM_gives 9 = .ok (.aastore, 1) := by decide +kernel
theorem d_MM_gives_10 : decode b_MM_gives 10 = .ok (.aload_n 0, 1) := by decide +kernel
theorem d_MM_gives_11 : decode b_MM_gives 11 = .ok (.dup, 1) := by decide +kernel
theorem d_MM_gives_12 : decode b_MM_gives 12 = .ok (.getfield 403, 3) := by decide +kernel
theorem d_MM_gives_15 : decode b_MM_gives 15 = .ok (.iconst 1, 1) := by decide +kernel
theorem d_MM_gives_16 : decode b_MM_gives 16 = .ok (.iadd, 1) := by decide +kernel
theorem d_MM_gives_17 : decode b_MM_gives 17 = .ok (.putfield 403, 3) := by decide +kernel
theorem d_MM_gives_20 : decode b_MM_gives 20 = .ok (.return_, 1) := by decide +kernel
set_option maxHeartbeats 4000000 in
set_option maxRecDepth 100000 in
theorem c_MM_gives (l : Launch) (dC : Nat → ClassId) (dI : Nat → Nat → Nat) (ca : Nat → ClassId) (h0 : Nat) (q : Nat → Nat) (th : Int32) (bx : Value) (sz a0 : Int32) (bb : Nat) (bf : List Value) : CT l classes (dC, dI) (mK dC dI ca) wm y_MM_gives b_MM_gives 2 none 0 0 0 0 [.ref h0, .ref bb] [(h0, .inr (0, mF2 q th (bx) sz a0 0)), ((q 12), .inl (ca 4, 148, .inr (.inr (.inr (.inr (fun _ => none)))))), (bb, .inr (6, bf))] (fun (v : Option Value) (_ : Unit) => v = none) (fun (_ : Unit) => [(h0, .inr (0, mF2 q th (bx) sz a0 1))]) := by
  refine ax_of (by decide) (Nat.le_of_ble_eq_true rfl) ?_
  intro p e s m below meth c A ls hAt hK hP hD hS hA hl
  obtain ⟨hx, hb, hr, hml, hown, hts, hlocks, hin⟩ := hAt
  have hl : lv_has ls 2 [(0, .ref h0), (1, .ref bb)] := hl
  refine lv_aload_n hx hb d_MM_gives_0 rfl (lv_at hl 0 rfl) ?_
  refine va_get (D := (dC, dI)) (ci := 0) (v := .ref (q 12)) (C := R_MM) (T := F_MM) (N := 132) hx hb hts i_MM hown hK.1 hP 0 rfl rfl 12 (by decide) (hts _ xm_85) (fun _ h9 => h9) rfl d_MM_gives_1 ?_
  refine lv_aload_n hx hb d_MM_gives_4 rfl (lv_at hl 0 rfl) ?_
  refine va_get (D := (dC, dI)) (ci := 0) (v := .int 0) (C := R_MM) (T := F_MM) (N := 132) hx hb hts i_MM hown hK.1 hP 0 rfl rfl 13 (by decide) (hts _ xm_86) (fun _ h9 => h9) rfl d_MM_gives_5 ?_
  refine lv_aload_n hx hb d_MM_gives_8 rfl (lv_at hl 1 rfl) ?_
  refine va_astq (r := (R_MX, F_MX, 15)) hx hb hK.1 hP hD hS 1 4 2 6 rfl rfl rfl rfl (by unfold vp_in; decide) d_MM_gives_9 (fun H locs hP hD hS => ?_)
  have hP : va_P (dC, dI) classes [(h0, .inr (0, mF2 q th (bx) sz a0 0)), ((q 12), .inl (ca 4, 148, .inr (.inr (.inr (.inr (va_up (fun _ => none) 0 (some bb))))))), (bb, .inr (6, bf))] H := hP
  have hD : va_D A [(h0, .inr (0, mF2 q th (bx) sz a0 0)), ((q 12), .inl (ca 4, 148, .inr (.inr (.inr (.inr (va_up (fun _ => none) 0 (some bb))))))), (bb, .inr (6, bf))] := hD
  refine lv_aload_n hx hb d_MM_gives_10 rfl (lv_at hl 0 rfl) ?_
  refine lv_dup hx hb d_MM_gives_11 rfl ?_
  refine va_get (D := (dC, dI)) (ci := 0) (v := .int 0) (C := R_MM) (T := F_MM) (N := 132) hx hb hts i_MM hown hK.1 hP 0 rfl rfl 13 (by decide) (hts _ xm_86) (fun _ h9 => h9) rfl d_MM_gives_12 ?_
  refine lv_iconst (v := 1) hx hb d_MM_gives_15 (by decide) ?_
  refine lv_iadd hx hb d_MM_gives_16 ?_
  refine lv_topi (fun z e9 => ?_)
  obtain rfl : z = 1 := by rw [e9]; decide
  refine va_put (D := (dC, dI)) (ci := 0) (v := .int 1) (ty := .int) (C := R_MM) (T := F_MM) (N := 132) hx hb hts i_MM t_MM t_MM_ok n_MM hown hK.1 hP hD hS 0 rfl rfl 13 (by decide) (hts _ xm_86) (fun _ h9 => h9) rfl (by decide +kernel) rfl rfl (Nat.le_of_ble_eq_true rfl) d_MM_gives_17 (fun H locs hP hD hS => ?_)
  have hP : va_P (dC, dI) classes [(h0, .inr (0, mF2 q th (bx) sz a0 1)), ((q 12), .inl (ca 4, 148, .inr (.inr (.inr (.inr (va_up (fun _ => none) 0 (some bb))))))), (bb, .inr (6, bf))] H := hP
  have hD : va_D A [(h0, .inr (0, mF2 q th (bx) sz a0 1)), ((q 12), .inl (ca 4, 148, .inr (.inr (.inr (.inr (va_up (fun _ => none) 0 (some bb))))))), (bb, .inr (6, bf))] := hD
  exact ax_vret hx hb hr hlocks hP hD hS () rfl [0] rfl (by decide) rfl (Nat.le_of_ble_eq_true rfl) (Nat.le_of_ble_eq_true rfl) d_MM_gives_20
theorem d_MM_newBox_0 : decode b_MM_newBox 0 = .ok (.aload_n 0, 1) := by decide +kernel
theorem d_MM_newBox_1 : decode b_MM_newBox 1 = .ok (.getfield 403, 3) := by decide +kernel
theorem d_MM_newBox_4 : decode b_MM_newBox 4 = .ok (.ifCond .le 35, 3) := by decide +kernel
theorem d_MM_newBox_39 : decode b_MM_newBox 39 = .ok (.new 38, 3) := by decide +kernel
theorem d_MM_newBox_42 : decode b_MM_newBox 42 = .ok (.dup, 1) := by decide +kernel
theorem d_MM_newBox_43 : decode b_MM_newBox 43 = .ok (.invokespecial 409, 3) := by decide +kernel
theorem d_MM_newBox_46 : decode b_MM_newBox 46 = .ok (.astore_n 1, 1) := by decide +kernel
theorem d_MM_newBox_47 : decode b_MM_newBox 47 = .ok (.aload_n 1, 1) := by decide +kernel
theorem d_MM_newBox_48 : decode b_MM_newBox 48 = .ok (.invokevirtual 406, 3) := by decide +kernel
theorem d_MM_newBox_51 : decode b_MM_newBox 51 = .ok (.aload_n 1, 1) := by decide +kernel
theorem d_MM_newBox_52 : decode b_MM_newBox 52 = .ok (.areturn, 1) := by decide +kernel
set_option maxHeartbeats 4000000 in
set_option maxRecDepth 100000 in
theorem c_MM_newBox (l : Launch) (dC : Nat → ClassId) (dI : Nat → Nat → Nat) (ca : Nat → ClassId) (h0 : Nat) (q : Nat → Nat) (th : Int32) : CT l classes (dC, dI) (mK dC dI ca) wm y_MM_newBox b_MM_newBox 2 (some (.object "SourceBackModel$Box")) 3 65 20 181 [.ref h0] [(h0, .inr (0, mF2 q th (.null) 0 0 0))] (fun (v : Option Value) (u : Nat × List Value) => v = some (.ref u.1)) (fun (u : Nat × List Value) => [(h0, .inr (0, mF2 q th (.null) 0 0 0)), (u.1, .inr (6, u.2))]) := by
  refine ax_of (by decide) (Nat.le_of_ble_eq_true rfl) ?_
  intro p e s m below meth c A ls hAt hK hP hD hS hA hl
  obtain ⟨hx, hb, hr, hml, hown, hts, hlocks, hin⟩ := hAt
  have hl : lv_has ls 2 [(0, .ref h0)] := hl
  refine lv_aload_n hx hb d_MM_newBox_0 rfl (lv_at hl 0 rfl) ?_
  refine va_get (D := (dC, dI)) (ci := 0) (v := .int 0) (C := R_MM) (T := F_MM) (N := 132) hx hb hts i_MM hown hK.1 hP 0 rfl rfl 13 (by decide) (hts _ xm_86) (fun _ h9 => h9) rfl d_MM_newBox_1 ?_
  refine lv_if_le (tgt := 39) hx hb d_MM_newBox_4 (by decide) (fun _ => ?_) (fun h => absurd (by decide) h)
  refine va_new (ci := 6) (fs := [.null, .int 0, .int 0, .null, .null, .null, .null, .null, .null, .null, .null, .null, .int 0, .int 0, .null]) (C := R_MX) (T := F_MX) (N := 15) hx hb hts i_MX t_MX t_MX_ok hown (hts _ xm_40) (hts _ xm_216) (hts _ xm_7) hK.1 hP hD hS hA rfl (by decide +kernel) (Nat.le_of_ble_eq_true rfl) (Nat.le_of_ble_eq_true rfl) d_MM_newBox_39 (fun q_1 H hP hD hS => ?_)
  have hP : va_P (dC, dI) classes [(h0, .inr (0, mF2 q th (.null) 0 0 0)), (q_1, .inr (6, [.null, .int 0, .int 0, .null, .null, .null, .null, .null, .null, .null, .null, .null, .int 0, .int 0, .null]))] H := hP
  have hD : va_D A [(h0, .inr (0, mF2 q th (.null) 0 0 0)), (q_1, .inr (6, [.null, .int 0, .int 0, .null, .null, .null, .null, .null, .null, .null, .null, .null, .int 0, .int 0, .null]))] := hD
  refine W.widen (k := 1) (n := 15) (Nat.le_of_ble_eq_true rfl) (Nat.le_of_ble_eq_true rfl) ?_
  refine lv_dup hx hb d_MM_newBox_42 rfl ?_
  refine ax_IN (k := 0) (As := []) (rest := [.ref q_1]) (wr := [(h0, .inr (0, mF2 q th (.null) 0 0 0))]) rfl hx hb hml hown hts g_wm (mK_bl dC dI ca) (c_MX_init l dC dI ca q_1) rfl (hK.2.1 _ zm_24) xm_217 xm_7 xm_218 (by decide +kernel) rfl (Nat.le_of_ble_eq_true rfl) (Nat.le_of_ble_eq_true rfl) hl.1 (Nat.le_of_ble_eq_true rfl) (mK_up hK) hP hD hS hA [1] [0] rfl (by decide) rfl rfl (by decide) (by decide) (Nat.le_of_ble_eq_true rfl) (Nat.le_of_ble_eq_true rfl) d_MM_newBox_43 (fun v u H locs hp hP hD hS => ?_)
  obtain ⟨q_2, q_3, q_4, q_5, q_6, q_7, q_8, q_9, q_10, q_11, q_12, q_13, q_14, q_15, q_16, q_17, q_18, q_19, q_20⟩ := u
  obtain rfl : v = none := hp
  have hP : va_P (dC, dI) classes [(h0, .inr (0, mF2 q th (.null) 0 0 0)), (q_1, .inr (6, [.ref q_2, .int 0, .int 0, .ref q_4, .ref q_6, .ref q_8, .ref q_10, .ref q_12, .ref q_14, .ref q_16, .ref q_18, .ref q_20, .int 0, .int 0, .null])), (q_2, .inr (2, [.ref q_3, .int 0])), (q_3, .inl (ca 0, 16, .inl (fun _ => 0))), (q_4, .inr (3, [.ref q_5, .int 0])), (q_5, .inl (ca 1, 4, .inl (fun _ => 0))), (q_6, .inr (3, [.ref q_7, .int 0])), (q_7, .inl (ca 1, 4, .inl (fun _ => 0))), (q_8, .inr (3, [.ref q_9, .int 0])), (q_9, .inl (ca 1, 4, .inl (fun _ => 0))), (q_10, .inr (3, [.ref q_11, .int 0])), (q_11, .inl (ca 1, 4, .inl (fun _ => 0))), (q_12, .inr (3, [.ref q_13, .int 0])), (q_13, .inl (ca 1, 4, .inl (fun _ => 0))), (q_14, .inr (4, [.ref q_15, .int 0])), (q_15, .inl (ca 2, 4, .inr (.inl (fun _ => 0)))), (q_16, .inr (3, [.ref q_17, .int 0])), (q_17, .inl (ca 1, 4, .inl (fun _ => 0))), (q_18, .inr (3, [.ref q_19, .int 0])), (q_19, .inl (ca 1, 4, .inl (fun _ => 0)))] H := hP
  have hD : va_D A [(h0, .inr (0, mF2 q th (.null) 0 0 0)), (q_1, .inr (6, [.ref q_2, .int 0, .int 0, .ref q_4, .ref q_6, .ref q_8, .ref q_10, .ref q_12, .ref q_14, .ref q_16, .ref q_18, .ref q_20, .int 0, .int 0, .null])), (q_2, .inr (2, [.ref q_3, .int 0])), (q_3, .inl (ca 0, 16, .inl (fun _ => 0))), (q_4, .inr (3, [.ref q_5, .int 0])), (q_5, .inl (ca 1, 4, .inl (fun _ => 0))), (q_6, .inr (3, [.ref q_7, .int 0])), (q_7, .inl (ca 1, 4, .inl (fun _ => 0))), (q_8, .inr (3, [.ref q_9, .int 0])), (q_9, .inl (ca 1, 4, .inl (fun _ => 0))), (q_10, .inr (3, [.ref q_11, .int 0])), (q_11, .inl (ca 1, 4, .inl (fun _ => 0))), (q_12, .inr (3, [.ref q_13, .int 0])), (q_13, .inl (ca 1, 4, .inl (fun _ => 0))), (q_14, .inr (4, [.ref q_15, .int 0])), (q_15, .inl (ca 2, 4, .inr (.inl (fun _ => 0)))), (q_16, .inr (3, [.ref q_17, .int 0])), (q_17, .inl (ca 1, 4, .inl (fun _ => 0))), (q_18, .inr (3, [.ref q_19, .int 0])), (q_19, .inl (ca 1, 4, .inl (fun _ => 0)))] := hD
  refine W.eq (g2 := F0 m 46 ls [.ref q_1]) rfl ?_
  refine W.widen (k := 20) (n := 181) (Nat.le_of_ble_eq_true rfl) (Nat.le_of_ble_eq_true rfl) ?_
  refine lv_astore_n (lv' := [(1, .ref q_1), (0, .ref h0)]) hx hb d_MM_newBox_46 rfl hl (by decide) rfl (fun ls hl => ?_)
  refine lv_aload_n hx hb d_MM_newBox_47 rfl (lv_at hl 0 rfl) ?_
  refine ax_V (ci := 6) (q0 := 0) (k := 0) (As := []) (rest := []) (wr := [(h0, .inr (0, mF2 q th (.null) 0 0 0))]) rfl hx hb hml hown hts g_wm (mK_bl dC dI ca) (c_MX_clear l dC dI ca q_1 q_2 q_3 q_4 q_5 q_6 q_7 q_8 q_9 q_10 q_11 q_12 q_13 q_14 q_15 q_16 q_17 q_18 q_19 q_20) xm_200 xm_201 xm_7 xm_203 xm_202 (by decide +kernel) rfl (Nat.le_of_ble_eq_true rfl) (Nat.le_of_ble_eq_true rfl) hl.1 (Nat.le_of_ble_eq_true rfl) (mK_up hK) hK.1 hP hD hS hA rfl rfl [1, 2, 3, 4, 5, 6, 7, 8, 9, 10, 11, 12, 13, 14, 15, 16, 17, 18, 19] [0] rfl (by decide) rfl rfl (by decide) (by decide) (Nat.le_of_ble_eq_true rfl) (Nat.le_of_ble_eq_true rfl) d_MM_newBox_48 (fun v _ H locs hp hP hD hS => ?_)
  obtain rfl : v = none := hp
  have hP : va_P (dC, dI) classes [(h0, .inr (0, mF2 q th (.null) 0 0 0)), (q_1, .inr (6, [.ref q_2, .int 0, .int 0, .ref q_4, .ref q_6, .ref q_8, .ref q_10, .ref q_12, .ref q_14, .ref q_16, .ref q_18, .ref q_20, .int 0, .int 0, .null]))] H := hP
  have hD : va_D A [(h0, .inr (0, mF2 q th (.null) 0 0 0)), (q_1, .inr (6, [.ref q_2, .int 0, .int 0, .ref q_4, .ref q_6, .ref q_8, .ref q_10, .ref q_12, .ref q_14, .ref q_16, .ref q_18, .ref q_20, .int 0, .int 0, .null]))] := hD
  refine W.eq (g2 := F0 m 51 ls []) rfl ?_
  refine lv_aload_n hx hb d_MM_newBox_51 rfl (lv_at hl 0 rfl) ?_
  exact ax_aret hx hb hr (Or.inl ⟨_, rfl⟩) (Or.inr ⟨_, rfl⟩) hlocks hP hD hS (q_1, [.ref q_2, .int 0, .int 0, .ref q_4, .ref q_6, .ref q_8, .ref q_10, .ref q_12, .ref q_14, .ref q_16, .ref q_18, .ref q_20, .int 0, .int 0, .null]) rfl [0, 1] rfl (by decide) rfl (Nat.le_of_ble_eq_true rfl) (Nat.le_of_ble_eq_true rfl) d_MM_newBox_52
end
section
theorem d_MM_reads_0 : decode b_MM_reads 0 = .ok (.aload_n 0, 1) := by decide +kernel
theorem d_MM_reads_1 : decode b_MM_reads 1 = .ok (.aload_n 0, 1) := by decide +kernel
theorem d_MM_reads_2 : decode b_MM_reads 2 = .ok (.getfield 387, 3) := by decide +kernel
theorem d_MM_reads_5 : decode b_MM_reads 5 = .ok (.iload_n 1, 1) := by decide +kernel
theorem d_MM_reads_6 : decode b_MM_reads 6 = .ok (.iadd, 1) := by decide +kernel
theorem d_MM_reads_7 : decode b_MM_reads 7 = .ok (.aload_n 0, 1) := by decide +kernel
theorem d_MM_reads_8 : decode b_MM_reads 8 = .ok (.getfield 390, 3) := by decide +kernel
theorem d_MM_reads_11 : decode b_MM_reads 11 = .ok (.if_icmp .gt 7, 3) := by decide +kernel
theorem d_MM_reads_18 : decode b_MM_reads 18 = .ok (.iconst 0, 1) := by decide +kernel
theorem d_MM_reads_19 : decode b_MM_reads 19 = .ok (.iconst 1, 1) := by decide +kernel
theorem d_MM_reads_20 : decode b_MM_reads 20 = .ok (.aload_n 0, 1) := by decide +kernel
theorem d_MM_reads_21 : decode b_MM_reads 21 = .ok (.getfield 390, 3) := by decide +kernel
theorem d_MM_reads_24 : decode b_MM_reads 24 = .ok (.invokevirtual 391, 3) := by decide +kernel
set_option maxHeartbeats 4000000 in
set_option maxRecDepth 100000 in
theorem c_MM_readsT (l : Launch) (dC : Nat → ClassId) (dI : Nat → Nat → Nat) (ca : Nat → ClassId) (h0 : Nat) (q : Nat → Nat) (th : Int32) (bx : Value) (sc : Int32) (x0 x1 x2 x3 x4 x5 x6 x7 : Value) : CTT l classes (dC, dI) (mK dC dI ca) wm y_MM_reads b_MM_reads 5 (some (.long)) 2 45 0 0 [.ref h0, .int 4] [(h0, .inr (0, mF2 q th (bx) 0 0 sc)), ((q 1), .inr (1, [x0, x1, x2, x3, x4, x5, x6, x7]))] (fun (x : Addr) (_ : Unit) => x = q 1) (fun (_ : Unit) => [(h0, .inr (0, mF2 q th (bx) 0 0 sc)), ((q 1), .inr (1, [x0, x1, x2, x3, x4, .int 1, .int 0, x7]))]) := by
  refine ax_ofT (by decide) (Nat.le_of_ble_eq_true rfl) ?_
  intro p e s m below meth c A ls hAt hne hK hP hD hS hA hAi hl
  obtain ⟨hx, hb, hr, hml, hown, hts, hlocks, hin⟩ := hAt
  have hl : lv_has ls 5 [(0, .ref h0), (1, .int 4)] := hl
  refine lv_aload_n hx hb d_MM_reads_0 rfl (lv_at hl 0 rfl) ?_
  refine lv_aload_n hx hb d_MM_reads_1 rfl (lv_at hl 0 rfl) ?_
  refine va_get (D := (dC, dI)) (ci := 0) (v := .int 0) (C := R_MM) (T := F_MM) (N := 132) hx hb hts i_MM hown hK.1 hP 0 rfl rfl 7 (by decide) (hts _ xm_80) (fun _ h9 => h9) rfl d_MM_reads_2 ?_
  refine lv_iload_n hx hb d_MM_reads_5 rfl (lv_at hl 1 rfl) ?_
  refine lv_iadd hx hb d_MM_reads_6 ?_
  refine lv_topi (fun z e9 => ?_)
  obtain rfl : z = 4 := by rw [e9]; decide
  refine lv_aload_n hx hb d_MM_reads_7 rfl (lv_at hl 0 rfl) ?_
  refine va_get (D := (dC, dI)) (ci := 0) (v := .int 0) (C := R_MM) (T := F_MM) (N := 132) hx hb hts i_MM hown hK.1 hP 0 rfl rfl 6 (by decide) (hts _ xm_79) (fun _ h9 => h9) rfl d_MM_reads_8 ?_
  refine lv_icmp_gt (tgt := 18) hx hb d_MM_reads_11 (by decide) (fun _ => ?_) (fun h => absurd (by decide) h)
  refine lv_iconst (v := 0) hx hb d_MM_reads_18 (by decide) ?_
  refine lv_iconst (v := 1) hx hb d_MM_reads_19 (by decide) ?_
  refine lv_aload_n hx hb d_MM_reads_20 rfl (lv_at hl 0 rfl) ?_
  refine va_get (D := (dC, dI)) (ci := 0) (v := .int 0) (C := R_MM) (T := F_MM) (N := 132) hx hb hts i_MM hown hK.1 hP 0 rfl rfl 6 (by decide) (hts _ xm_79) (fun _ h9 => h9) rfl d_MM_reads_21 ?_
  exact ax_VT (mc := 0) (ms := 0) (rest := []) (wr := []) hlocks hne (ax_runVT (ci := 0) (q0 := 0) (k := 3) (As := [.int 0, .int 1, .int 0]) (rest := []) (wr := []) rfl hx hb hml hown hts g_wm (mK_bl dC dI ca) (c_MM_mustT l dC dI ca h0 q th (bx) 0 0 sc x0 x1 x2 x3 x4 (x5) (x6) x7 1 0) xm_238 xm_239 xm_0 xm_240 xm_332 (by decide +kernel) rfl (Nat.le_of_ble_eq_true rfl) (Nat.le_of_ble_eq_true rfl) hl.1 (Nat.le_of_ble_eq_true rfl) (mK_up hK) hK.1 hP hD hS hA rfl rfl [0, 1] [] rfl (by decide) rfl rfl (by decide) (by decide) (Nat.le_of_ble_eq_true rfl) (Nat.le_of_ble_eq_true rfl) d_MM_reads_24) (Nat.le_of_ble_eq_true rfl) (Nat.le_of_ble_eq_true rfl) (fun x u H1 hp hP hD => ⟨(), hp, hP.sub [0, 1] rfl, hD.sub [0, 1] (by decide) rfl⟩)
theorem d_MM_readsFile_0 : decode b_MM_readsFile 0 = .ok (.aload_n 0, 1) := by decide +kernel
theorem d_MM_readsFile_1 : decode b_MM_readsFile 1 = .ok (.aload_n 0, 1) := by decide +kernel
theorem d_MM_readsFile_2 : decode b_MM_readsFile 2 = .ok (.iconst 4, 1) := by decide +kernel
theorem d_MM_readsFile_3 : decode b_MM_readsFile 3 = .ok (.invokevirtual 399, 3) := by decide +kernel
set_option maxHeartbeats 4000000 in
set_option maxRecDepth 100000 in
theorem c_MM_readsFileT (l : Launch) (dC : Nat → ClassId) (dI : Nat → Nat → Nat) (ca : Nat → ClassId) (h0 : Nat) (q : Nat → Nat) (th : Int32) (bx : Value) (sc : Int32) (x0 x1 x2 x3 x4 x5 x6 x7 : Value) : CTT l classes (dC, dI) (mK dC dI ca) wm y_MM_readsFile b_MM_readsFile 5 none 3 69 0 0 [.ref h0] [(h0, .inr (0, mF2 q th (bx) 0 0 sc)), ((q 1), .inr (1, [x0, x1, x2, x3, x4, x5, x6, x7]))] (fun (x : Addr) (_ : Unit) => x = q 1) (fun (_ : Unit) => [(h0, .inr (0, mF2 q th (bx) 0 0 sc)), ((q 1), .inr (1, [x0, x1, x2, x3, x4, .int 1, .int 0, x7]))]) := by
  refine ax_ofT (by decide) (Nat.le_of_ble_eq_true rfl) ?_
  intro p e s m below meth c A ls hAt hne hK hP hD hS hA hAi hl
  obtain ⟨hx, hb, hr, hml, hown, hts, hlocks, hin⟩ := hAt
  have hl : lv_has ls 5 [(0, .ref h0)] := hl
  refine lv_aload_n hx hb d_MM_readsFile_0 rfl (lv_at hl 0 rfl) ?_
  refine lv_aload_n hx hb d_MM_readsFile_1 rfl (lv_at hl 0 rfl) ?_
  refine lv_iconst (v := 4) hx hb d_MM_readsFile_2 (by decide) ?_
  exact ax_VT (mc := 0) (ms := 0) (rest := [.ref h0]) (wr := []) hlocks hne (ax_runVT (ci := 0) (q0 := 0) (k := 1) (As := [.int 4]) (rest := [.ref h0]) (wr := []) rfl hx hb hml hown hts g_wm (mK_bl dC dI ca) (c_MM_readsT l dC dI ca h0 q th (bx) sc x0 x1 x2 x3 x4 (x5) (x6) x7) xm_248 xm_249 xm_0 xm_250 xm_333 (by decide +kernel) rfl (Nat.le_of_ble_eq_true rfl) (Nat.le_of_ble_eq_true rfl) hl.1 (Nat.le_of_ble_eq_true rfl) (mK_up hK) hK.1 hP hD hS hA rfl rfl [0, 1] [] rfl (by decide) rfl rfl (by decide) (by decide) (Nat.le_of_ble_eq_true rfl) (Nat.le_of_ble_eq_true rfl) d_MM_readsFile_3) (Nat.le_of_ble_eq_true rfl) (Nat.le_of_ble_eq_true rfl) (fun x u H1 hp hP hD => ⟨(), hp, hP.sub [0, 1] rfl, hD.sub [0, 1] (by decide) rfl⟩)
theorem d_MM_take_0 : decode b_MM_take 0 = .ok (.aload_n 0, 1) := by decide +kernel
theorem d_MM_take_1 : decode b_MM_take 1 = .ok (.iconst 0, 1) := by decide +kernel
theorem d_MM_take_2 : decode b_MM_take 2 = .ok (.putfield 343, 3) := by decide +kernel
theorem d_MM_take_5 : decode b_MM_take 5 = .ok (.aload_n 0, 1) := by decide +kernel
theorem d_MM_take_6 : decode b_MM_take 6 = .ok (.getfield 410, 3) := by decide +kernel
theorem d_MM_take_9 : decode b_MM_take 9 = .ok (.istore_n 1, 1) := by decide +kernel
theorem d_MM_take_10 : decode b_MM_take 10 = .ok (.aload_n 0, 1) := by decide +kernel
theorem d_MM_take_11 : decode b_MM_take 11 = .ok (.aload_n 0, 1) := by decide +kernel
theorem d_MM_take_12 : decode b_MM_take 12 = .ok (.invokevirtual 413, 3) := by decide +kernel
theorem d_MM_take_15 : decode b_MM_take 15 = .ok (.putfield 417, 3) := by decide +kernel
theorem d_MM_take_18 : decode b_MM_take 18 = .ok (.aload_n 0, 1) := by decide +kernel
theorem d_MM_take_19 : decode b_MM_take 19 = .ok (.aload_n 0, 1) := by decide +kernel
theorem d_MM_take_20 : decode b_MM_take 20 = .ok (.getfield 410, 3) := by decide +kernel
theorem d_MM_take_23 : decode b_MM_take 23 = .ok (.bipush 16, 2) := by decide +kernel
theorem d_MM_take_25 : decode b_MM_take 25 = .ok (.if_icmp .ge 7, 3) := by decide +kernel
theorem d_MM_take_28 : decode b_MM_take 28 = .ok (.iconst 1, 1) := by decide +kernel
theorem d_MM_take_29 : decode b_MM_take 29 = .ok (.goto 4, 3) := by decide +kernel
theorem d_MM_take_33 : decode b_MM_take 33 = .ok (.bipush 25, 2) := by decide +kernel
theorem d_MM_take_35 : decode b_MM_take 35 = .ok (.iconst 0, 1) := by decide +kernel
theorem d_MM_take_36 : decode b_MM_take 36 = .ok (.invokevirtual 391, 3) := by decide +kernel
theorem d_MM_take_39 : decode b_MM_take 39 = .ok (.aload_n 0, 1) := by decide +kernel
theorem d_MM_take_40 : decode b_MM_take 40 = .ok (.aload_n 0, 1) := by decide +kernel
theorem d_MM_take_41 : decode b_MM_take 41 = .ok (.getfield 19, 3) := by decide +kernel
theorem d_MM_take_44 : decode b_MM_take 44 = .ok (.getfield 353, 3) := by decide +kernel
theorem d_MM_take_47 : decode b_MM_take 47 = .ok (.putfield 390, 3) := by decide +kernel
theorem d_MM_take_50 : decode b_MM_take 50 = .ok (.aload_n 0, 1) := by decide +kernel
theorem d_MM_take_51 : decode b_MM_take 51 = .ok (.iconst 0, 1) := by decide +kernel
theorem d_MM_take_52 : decode b_MM_take 52 = .ok (.putfield 387, 3) := by decide +kernel
theorem d_MM_take_55 : decode b_MM_take 55 = .ok (.aload_n 0, 1) := by decide +kernel
theorem d_MM_take_56 : decode b_MM_take 56 = .ok (.invokevirtual 421, 3) := by decide +kernel
theorem d_MM_take_129 : decode b_MM_take 129 = .ok (.astore_n 2, 1) := by decide +kernel
theorem d_MM_take_130 : decode b_MM_take 130 = .ok (.aload_n 0, 1) := by decide +kernel
theorem d_MM_take_131 : decode b_MM_take 131 = .ok (.aload_n 0, 1) := by decide +kernel
theorem d_MM_take_132 : decode b_MM_take 132 = .ok (.getfield 417, 3) := by decide +kernel
theorem d_MM_take_135 : decode b_MM_take 135 = .ok (.invokevirtual 441, 3) := by decide +kernel
theorem d_MM_take_138 : decode b_MM_take 138 = .ok (.iconst (-1), 1) := by decide +kernel
theorem d_MM_take_139 : decode b_MM_take 139 = .ok (.aload_n 2, 1) := by decide +kernel
theorem d_MM_take_140 : decode b_MM_take 140 = .ok (.getfield 444, 3) := by decide +kernel
theorem d_MM_take_143 : decode b_MM_take 143 = .ok (.bipush 32, 2) := by decide +kernel
theorem d_MM_take_145 : decode b_MM_take 145 = .ok (.aload_n 2, 1) := by decide +kernel
theorem d_MM_take_146 : decode b_MM_take 146 = .ok (.getfield 447, 3) := by decide +kernel
theorem d_MM_take_149 : decode b_MM_take 149 = .ok (.imul, 1) := by decide +kernel
theorem d_MM_take_150 : decode b_MM_take 150 = .ok (.iadd, 1) := by decide +kernel
theorem d_MM_take_151 : decode b_MM_take 151 = .ok (.isub, 1) := by decide +kernel
theorem d_MM_take_152 : decode b_MM_take 152 = .ok (.istore_n 1, 1) := by decide +kernel
theorem d_MM_take_153 : decode b_MM_take 153 = .ok (.aload_n 0, 1) := by decide +kernel
theorem d_MM_take_154 : decode b_MM_take 154 = .ok (.getfield 19, 3) := by decide +kernel
theorem d_MM_take_157 : decode b_MM_take 157 = .ok (.iconst 0, 1) := by decide +kernel
theorem d_MM_take_158 : decode b_MM_take 158 = .ok (.putfield 353, 3) := by decide +kernel
theorem d_MM_take_161 : decode b_MM_take 161 = .ok (.iload_n 1, 1) := by decide +kernel
theorem d_MM_take_162 : decode b_MM_take 162 = .ok (.ireturn, 1) := by decide +kernel
set_option maxHeartbeats 4000000 in
set_option maxRecDepth 100000 in
theorem c_MM_take (l : Launch) (dC : Nat → ClassId) (dI : Nat → Nat → Nat) (ca : Nat → ClassId) (h0 : Nat) (q : Nat → Nat) (th : Int32) (qa : Nat) (x0 x1 x2 x3 x4 x5 x6 x7 : Value) : CTw l classes (dC, dI) (mK dC dI ca) wm y_MM_take b_MM_take 3 (some (.int)) [(18, 126, 129, 7)] 4 93 20 181 [.ref h0] [(h0, .inr (0, mF2 q th (.null) 0 0 0)), ((q 1), .inr (1, [x0, x1, x2, x3, x4, x5, x6, x7])), ((q 2), .inr (2, [.ref qa, .int 0])), ((q 12), .inl (ca 4, 148, .inr (.inr (.inr (.inr (fun _ => none))))))] (fun (v : Option Value) (_ : Unit) => v = some (.int (-2))) (fun (_ : Unit) => []) := by
  refine ax_ofw (by decide) (Nat.le_of_ble_eq_true rfl) ?_
  intro p e s m below meth c A ls hAt htab hK hP hD hS hA hl
  obtain ⟨hx, hb, hr, hml, hown, hts, hlocks, hin⟩ := hAt
  have hl : lv_has ls 3 [(0, .ref h0)] := hl
  refine lv_aload_n hx hb d_MM_take_0 rfl (lv_at hl 0 rfl) ?_
  refine lv_iconst (v := 0) hx hb d_MM_take_1 (by decide) ?_
  refine va_put (D := (dC, dI)) (ci := 0) (v := .int 0) (ty := .int) (C := R_MM) (T := F_MM) (N := 132) hx hb hts i_MM t_MM t_MM_ok n_MM hown hK.1 hP hD hS 0 rfl rfl 0 (by decide) (hts _ xm_73) (fun _ h9 => h9) rfl (by decide +kernel) rfl rfl (Nat.le_of_ble_eq_true rfl) d_MM_take_2 (fun H locs hP hD hS => ?_)
  have hP : va_P (dC, dI) classes [(h0, .inr (0, mF2 q 0 (.null) 0 0 0)), ((q 1), .inr (1, [x0, x1, x2, x3, x4, x5, x6, x7])), ((q 2), .inr (2, [.ref qa, .int 0])), ((q 12), .inl (ca 4, 148, .inr (.inr (.inr (.inr (fun _ => none))))))] H := hP
  have hD : va_D A [(h0, .inr (0, mF2 q 0 (.null) 0 0 0)), ((q 1), .inr (1, [x0, x1, x2, x3, x4, x5, x6, x7])), ((q 2), .inr (2, [.ref qa, .int 0])), ((q 12), .inl (ca 4, 148, .inr (.inr (.inr (.inr (fun _ => none))))))] := hD
  refine lv_aload_n hx hb d_MM_take_5 rfl (lv_at hl 0 rfl) ?_
  refine va_get (D := (dC, dI)) (ci := 0) (v := .int 0) (C := R_MM) (T := F_MM) (N := 132) hx hb hts i_MM hown hK.1 hP 0 rfl rfl 8 (by decide) (hts _ xm_81) (fun _ h9 => h9) rfl d_MM_take_6 ?_
  refine lv_istore_n (lv' := [(1, .int 0), (0, .ref h0)]) hx hb d_MM_take_9 rfl hl (by decide) rfl (fun ls hl => ?_)
  refine lv_aload_n hx hb d_MM_take_10 rfl (lv_at hl 1 rfl) ?_
  refine lv_aload_n hx hb d_MM_take_11 rfl (lv_at hl 1 rfl) ?_
  refine ax_V (ci := 0) (q0 := 0) (k := 0) (As := []) (rest := [.ref h0]) (wr := [((q 1), .inr (1, [x0, x1, x2, x3, x4, x5, x6, x7])), ((q 2), .inr (2, [.ref qa, .int 0])), ((q 12), .inl (ca 4, 148, .inr (.inr (.inr (.inr (fun _ => none))))))]) rfl hx hb hml hown hts g_wm (mK_bl dC dI ca) (c_MM_newBox l dC dI ca h0 q 0) xm_197 xm_198 xm_0 xm_199 xm_334 (by decide +kernel) rfl (Nat.le_of_ble_eq_true rfl) (Nat.le_of_ble_eq_true rfl) hl.1 (Nat.le_of_ble_eq_true rfl) (mK_up hK) hK.1 hP hD hS hA rfl rfl [0] [1, 2, 3] rfl (by decide) rfl rfl (by decide) (by decide) (Nat.le_of_ble_eq_true rfl) (Nat.le_of_ble_eq_true rfl) d_MM_take_12 (fun v u H locs hp hP hD hS => ?_)
  obtain ⟨bb_1, bf_2⟩ := u
  obtain rfl : v = some (.ref bb_1) := hp
  have hP : va_P (dC, dI) classes [((q 1), .inr (1, [x0, x1, x2, x3, x4, x5, x6, x7])), ((q 2), .inr (2, [.ref qa, .int 0])), ((q 12), .inl (ca 4, 148, .inr (.inr (.inr (.inr (fun _ => none)))))), (h0, .inr (0, mF2 q 0 (.null) 0 0 0)), (bb_1, .inr (6, bf_2))] H := hP
  have hD : va_D A [((q 1), .inr (1, [x0, x1, x2, x3, x4, x5, x6, x7])), ((q 2), .inr (2, [.ref qa, .int 0])), ((q 12), .inl (ca 4, 148, .inr (.inr (.inr (.inr (fun _ => none)))))), (h0, .inr (0, mF2 q 0 (.null) 0 0 0)), (bb_1, .inr (6, bf_2))] := hD
  refine W.eq (g2 := F0 m 15 ls [.ref bb_1, .ref h0]) rfl ?_
  refine W.widen (k := 20) (n := 181) (Nat.le_of_ble_eq_true rfl) (Nat.le_of_ble_eq_true rfl) ?_
  refine va_put (D := (dC, dI)) (ci := 0) (v := .ref bb_1) (ty := .object "SourceBackModel$Box") (C := R_MM) (T := F_MM) (N := 132) hx hb hts i_MM t_MM t_MM_ok n_MM hown hK.1 hP hD hS 3 rfl rfl 14 (by decide) (hts _ xm_87) (fun _ h9 => h9) rfl (by decide +kernel) rfl rfl (Nat.le_of_ble_eq_true rfl) d_MM_take_15 (fun H locs hP hD hS => ?_)
  have hP : va_P (dC, dI) classes [((q 1), .inr (1, [x0, x1, x2, x3, x4, x5, x6, x7])), ((q 2), .inr (2, [.ref qa, .int 0])), ((q 12), .inl (ca 4, 148, .inr (.inr (.inr (.inr (fun _ => none)))))), (h0, .inr (0, mF2 q 0 (.ref bb_1) 0 0 0)), (bb_1, .inr (6, bf_2))] H := hP
  have hD : va_D A [((q 1), .inr (1, [x0, x1, x2, x3, x4, x5, x6, x7])), ((q 2), .inr (2, [.ref qa, .int 0])), ((q 12), .inl (ca 4, 148, .inr (.inr (.inr (.inr (fun _ => none)))))), (h0, .inr (0, mF2 q 0 (.ref bb_1) 0 0 0)), (bb_1, .inr (6, bf_2))] := hD
  refine lv_aload_n hx hb d_MM_take_18 rfl (lv_at hl 1 rfl) ?_
  refine lv_aload_n hx hb d_MM_take_19 rfl (lv_at hl 1 rfl) ?_
  refine va_get (D := (dC, dI)) (ci := 0) (v := .int 0) (C := R_MM) (T := F_MM) (N := 132) hx hb hts i_MM hown hK.1 hP 3 rfl rfl 8 (by decide) (hts _ xm_81) (fun _ h9 => h9) rfl d_MM_take_20 ?_
  refine lv_bipush (v := 16) hx hb d_MM_take_23 (by decide +kernel) ?_
  refine lv_icmp_ge (tgt := 32) hx hb d_MM_take_25 (by decide) (fun h => absurd h (by decide)) (fun _ => ?_)
  refine lv_iconst (v := 1) hx hb d_MM_take_28 (by decide) ?_
  refine lv_goto (tgt := 33) hx hb d_MM_take_29 (by decide) ?_
  refine lv_bipush (v := 25) hx hb d_MM_take_33 (by decide +kernel) ?_
  refine lv_iconst (v := 0) hx hb d_MM_take_35 (by decide) ?_
  refine ax_V (ci := 0) (q0 := 0) (k := 3) (As := [.int 1, .int 25, .int 0]) (rest := []) (wr := [((q 1), .inr (1, [x0, x1, x2, x3, x4, x5, x6, x7])), ((q 2), .inr (2, [.ref qa, .int 0])), ((q 12), .inl (ca 4, 148, .inr (.inr (.inr (.inr (fun _ => none)))))), (bb_1, .inr (6, bf_2))]) rfl hx hb hml hown hts g_wm (mK_bl dC dI ca) (c_MM_must l dC dI ca h0 q 0 (.ref bb_1) 0 0 0 25 0) xm_238 xm_239 xm_0 xm_240 xm_332 (by decide +kernel) rfl (Nat.le_of_ble_eq_true rfl) (Nat.le_of_ble_eq_true rfl) hl.1 (Nat.le_of_ble_eq_true rfl) (mK_up hK) hK.1 hP hD hS hA rfl rfl [3] [0, 1, 2, 4] rfl (by decide) rfl rfl (by decide) (by decide) (Nat.le_of_ble_eq_true rfl) (Nat.le_of_ble_eq_true rfl) d_MM_take_36 (fun v _ H locs hp hP hD hS => ?_)
  obtain rfl : v = none := hp
  have hP : va_P (dC, dI) classes [((q 1), .inr (1, [x0, x1, x2, x3, x4, x5, x6, x7])), ((q 2), .inr (2, [.ref qa, .int 0])), ((q 12), .inl (ca 4, 148, .inr (.inr (.inr (.inr (fun _ => none)))))), (bb_1, .inr (6, bf_2)), (h0, .inr (0, mF2 q 0 (.ref bb_1) 0 0 0))] H := hP
  have hD : va_D A [((q 1), .inr (1, [x0, x1, x2, x3, x4, x5, x6, x7])), ((q 2), .inr (2, [.ref qa, .int 0])), ((q 12), .inl (ca 4, 148, .inr (.inr (.inr (.inr (fun _ => none)))))), (bb_1, .inr (6, bf_2)), (h0, .inr (0, mF2 q 0 (.ref bb_1) 0 0 0))] := hD
  refine W.eq (g2 := F0 m 39 ls []) rfl ?_
  refine lv_aload_n hx hb d_MM_take_39 rfl (lv_at hl 1 rfl) ?_
  refine lv_aload_n hx hb d_MM_take_40 rfl (lv_at hl 1 rfl) ?_
  refine va_get (D := (dC, dI)) (ci := 0) (v := .ref (q 2)) (C := R_MM) (T := F_MM) (N := 132) hx hb hts i_MM hown hK.1 hP 4 rfl rfl 2 (by decide) (hts _ xm_75) (fun _ h9 => h9) rfl d_MM_take_41 ?_
  refine va_getN (D := (dC, dI)) (ci := 2) (v := .int 0) (C := R_MB) (T := F_MB) (N := 2) hx hb hts i_MB hown hK.1 hP 1 rfl rfl 1 (by decide) (va_Nw.use rfl (hK.2.1 _ zm_6)) (fun _ h9 => h9) rfl d_MM_take_44 ?_
  refine va_put (D := (dC, dI)) (ci := 0) (v := .int 0) (ty := .int) (C := R_MM) (T := F_MM) (N := 132) hx hb hts i_MM t_MM t_MM_ok n_MM hown hK.1 hP hD hS 4 rfl rfl 6 (by decide) (hts _ xm_79) (fun _ h9 => h9) rfl (by decide +kernel) rfl rfl (Nat.le_of_ble_eq_true rfl) d_MM_take_47 (fun H locs hP hD hS => ?_)
  have hP : va_P (dC, dI) classes [((q 1), .inr (1, [x0, x1, x2, x3, x4, x5, x6, x7])), ((q 2), .inr (2, [.ref qa, .int 0])), ((q 12), .inl (ca 4, 148, .inr (.inr (.inr (.inr (fun _ => none)))))), (bb_1, .inr (6, bf_2)), (h0, .inr (0, mF2 q 0 (.ref bb_1) 0 0 0))] H := hP
  have hD : va_D A [((q 1), .inr (1, [x0, x1, x2, x3, x4, x5, x6, x7])), ((q 2), .inr (2, [.ref qa, .int 0])), ((q 12), .inl (ca 4, 148, .inr (.inr (.inr (.inr (fun _ => none)))))), (bb_1, .inr (6, bf_2)), (h0, .inr (0, mF2 q 0 (.ref bb_1) 0 0 0))] := hD
  refine lv_aload_n hx hb d_MM_take_50 rfl (lv_at hl 1 rfl) ?_
  refine lv_iconst (v := 0) hx hb d_MM_take_51 (by decide) ?_
  refine va_put (D := (dC, dI)) (ci := 0) (v := .int 0) (ty := .int) (C := R_MM) (T := F_MM) (N := 132) hx hb hts i_MM t_MM t_MM_ok n_MM hown hK.1 hP hD hS 4 rfl rfl 7 (by decide) (hts _ xm_80) (fun _ h9 => h9) rfl (by decide +kernel) rfl rfl (Nat.le_of_ble_eq_true rfl) d_MM_take_52 (fun H locs hP hD hS => ?_)
  have hP : va_P (dC, dI) classes [((q 1), .inr (1, [x0, x1, x2, x3, x4, x5, x6, x7])), ((q 2), .inr (2, [.ref qa, .int 0])), ((q 12), .inl (ca 4, 148, .inr (.inr (.inr (.inr (fun _ => none)))))), (bb_1, .inr (6, bf_2)), (h0, .inr (0, mF2 q 0 (.ref bb_1) 0 0 0))] H := hP
  have hD : va_D A [((q 1), .inr (1, [x0, x1, x2, x3, x4, x5, x6, x7])), ((q 2), .inr (2, [.ref qa, .int 0])), ((q 12), .inl (ca 4, 148, .inr (.inr (.inr (.inr (fun _ => none)))))), (bb_1, .inr (6, bf_2)), (h0, .inr (0, mF2 q 0 (.ref bb_1) 0 0 0))] := hD
  refine lv_aload_n hx hb d_MM_take_55 rfl (lv_at hl 1 rfl) ?_
  refine ax_VC (hpc := 129) (mc := 0) (ms := 0) (rest := []) (wr := [((q 2), .inr (2, [.ref qa, .int 0])), ((q 12), .inl (ca 4, 148, .inr (.inr (.inr (.inr (fun _ => none)))))), (bb_1, .inr (6, bf_2))]) (ax_runVT (ci := 0) (q0 := 0) (k := 0) (As := []) (rest := []) (wr := [((q 2), .inr (2, [.ref qa, .int 0])), ((q 12), .inl (ca 4, 148, .inr (.inr (.inr (.inr (fun _ => none)))))), (bb_1, .inr (6, bf_2))]) rfl hx hb hml hown hts g_wm (mK_bl dC dI ca) (c_MM_readsFileT l dC dI ca h0 q 0 (.ref bb_1) 0 x0 x1 x2 x3 x4 (x5) (x6) x7) xm_245 xm_246 xm_0 xm_247 xm_336 (by decide +kernel) rfl (Nat.le_of_ble_eq_true rfl) (Nat.le_of_ble_eq_true rfl) hl.1 (Nat.le_of_ble_eq_true rfl) (mK_up hK) hK.1 hP hD hS hA rfl rfl [4, 0] [1, 2, 3] rfl (by decide) rfl rfl (by decide) (by decide) (Nat.le_of_ble_eq_true rfl) (Nat.le_of_ble_eq_true rfl) d_MM_take_56) (fun x u T9 locs9 hp hP X9 => ?_) (fun x u H locs hp hP hD hS => ?_)
  · obtain rfl : x = (q 1) := hp
    obtain ⟨cell9, g1, g2, g3⟩ := va_recv hK.1 hP (ci := 1) (q0 := 4) rfl rfl
    exact ax_fnd1 X9 htab (by decide) (by decide) hown (hts _ xm_18) g1 g2 g3
  obtain rfl : x = (q 1) := hp
  have hP : va_P (dC, dI) classes [((q 2), .inr (2, [.ref qa, .int 0])), ((q 12), .inl (ca 4, 148, .inr (.inr (.inr (.inr (fun _ => none)))))), (bb_1, .inr (6, bf_2)), (h0, .inr (0, mF2 q 0 (.ref bb_1) 0 0 0)), ((q 1), .inr (1, [x0, x1, x2, x3, x4, .int 1, .int 0, x7]))] H := hP
  have hD : va_D A [((q 2), .inr (2, [.ref qa, .int 0])), ((q 12), .inl (ca 4, 148, .inr (.inr (.inr (.inr (fun _ => none)))))), (bb_1, .inr (6, bf_2)), (h0, .inr (0, mF2 q 0 (.ref bb_1) 0 0 0)), ((q 1), .inr (1, [x0, x1, x2, x3, x4, .int 1, .int 0, x7]))] := hD
  refine W.widen (k := 20) (n := 181) (Nat.le_of_ble_eq_true rfl) (Nat.le_of_ble_eq_true rfl) ?_
  refine lv_astore_n (lv' := [(2, .ref (q 1)), (1, .int 0), (0, .ref h0)]) hx hb d_MM_take_129 rfl hl (by decide) rfl (fun ls hl => ?_)
  refine lv_aload_n hx hb d_MM_take_130 rfl (lv_at hl 2 rfl) ?_
  refine lv_aload_n hx hb d_MM_take_131 rfl (lv_at hl 2 rfl) ?_
  refine va_get (D := (dC, dI)) (ci := 0) (v := .ref bb_1) (C := R_MM) (T := F_MM) (N := 132) hx hb hts i_MM hown hK.1 hP 3 rfl rfl 14 (by decide) (hts _ xm_87) (fun _ h9 => h9) rfl d_MM_take_132 ?_
  refine ax_V (ci := 0) (q0 := 0) (k := 1) (As := [.ref bb_1]) (rest := []) (wr := [((q 2), .inr (2, [.ref qa, .int 0])), ((q 1), .inr (1, [x0, x1, x2, x3, x4, .int 1, .int 0, x7]))]) rfl hx hb hml hown hts g_wm (mK_bl dC dI ca) (c_MM_gives l dC dI ca h0 q 0 (.ref bb_1) 0 0 bb_1 bf_2) xm_264 xm_265 xm_0 xm_266 xm_335 (by decide +kernel) rfl (Nat.le_of_ble_eq_true rfl) (Nat.le_of_ble_eq_true rfl) hl.1 (Nat.le_of_ble_eq_true rfl) (mK_up hK) hK.1 hP hD hS hA rfl rfl [3, 1, 2] [0, 4] rfl (by decide) rfl rfl (by decide) (by decide) (Nat.le_of_ble_eq_true rfl) (Nat.le_of_ble_eq_true rfl) d_MM_take_135 (fun v _ H locs hp hP hD hS => ?_)
  obtain rfl : v = none := hp
  have hP : va_P (dC, dI) classes [((q 2), .inr (2, [.ref qa, .int 0])), ((q 1), .inr (1, [x0, x1, x2, x3, x4, .int 1, .int 0, x7])), (h0, .inr (0, mF2 q 0 (.ref bb_1) 0 0 1))] H := hP
  have hD : va_D A [((q 2), .inr (2, [.ref qa, .int 0])), ((q 1), .inr (1, [x0, x1, x2, x3, x4, .int 1, .int 0, x7])), (h0, .inr (0, mF2 q 0 (.ref bb_1) 0 0 1))] := hD
  refine W.eq (g2 := F0 m 138 ls []) rfl ?_
  refine lv_iconst (v := (-1)) hx hb d_MM_take_138 (by decide) ?_
  refine lv_aload_n hx hb d_MM_take_139 rfl (lv_at hl 0 rfl) ?_
  refine va_getN (D := (dC, dI)) (ci := 1) (v := .int 1) (C := R_MH) (T := F_MH) (N := 8) hx hb hts i_MH hown hK.1 hP 1 rfl rfl 5 (by decide) (va_Nw.use rfl (hK.2.1 _ zm_1)) (fun _ h9 => h9) rfl d_MM_take_140 ?_
  refine lv_bipush (v := 32) hx hb d_MM_take_143 (by decide +kernel) ?_
  refine lv_aload_n hx hb d_MM_take_145 rfl (lv_at hl 0 rfl) ?_
  refine va_getN (D := (dC, dI)) (ci := 1) (v := .int 0) (C := R_MH) (T := F_MH) (N := 8) hx hb hts i_MH hown hK.1 hP 1 rfl rfl 6 (by decide) (va_Nw.use rfl (hK.2.1 _ zm_2)) (fun _ h9 => h9) rfl d_MM_take_146 ?_
  refine lv_imul hx hb d_MM_take_149 ?_
  refine lv_topi (fun z e9 => ?_)
  obtain rfl : z = 0 := by rw [e9]; decide
  refine lv_iadd hx hb d_MM_take_150 ?_
  refine lv_topi (fun z e9 => ?_)
  obtain rfl : z = 1 := by rw [e9]; decide
  refine lv_isub hx hb d_MM_take_151 ?_
  refine lv_topi (fun z e9 => ?_)
  obtain rfl : z = (-2) := by rw [e9]; decide
  refine lv_istore_n (lv' := [(1, .int (-2)), (2, .ref (q 1)), (0, .ref h0)]) hx hb d_MM_take_152 rfl hl (by decide) rfl (fun ls hl => ?_)
  refine lv_aload_n hx hb d_MM_take_153 rfl (lv_at hl 2 rfl) ?_
  refine va_get (D := (dC, dI)) (ci := 0) (v := .ref (q 2)) (C := R_MM) (T := F_MM) (N := 132) hx hb hts i_MM hown hK.1 hP 2 rfl rfl 2 (by decide) (hts _ xm_75) (fun _ h9 => h9) rfl d_MM_take_154 ?_
  refine lv_iconst (v := 0) hx hb d_MM_take_157 (by decide) ?_
  refine va_putN (D := (dC, dI)) (ci := 2) (v := .int 0) (ty := .int) (C := R_MB) (T := F_MB) (N := 2) hx hb hts i_MB t_MB t_MB_ok n_MB hown hK.1 hP hD hS 0 rfl rfl 1 (by decide) (va_Nw.use rfl (hK.2.1 _ zm_6)) (fun _ h9 => h9) rfl (by decide +kernel) rfl rfl (Nat.le_of_ble_eq_true rfl) d_MM_take_158 (fun H locs hP hD hS => ?_)
  have hP : va_P (dC, dI) classes [((q 2), .inr (2, [.ref qa, .int 0])), ((q 1), .inr (1, [x0, x1, x2, x3, x4, .int 1, .int 0, x7])), (h0, .inr (0, mF2 q 0 (.ref bb_1) 0 0 1))] H := hP
  have hD : va_D A [((q 2), .inr (2, [.ref qa, .int 0])), ((q 1), .inr (1, [x0, x1, x2, x3, x4, .int 1, .int 0, x7])), (h0, .inr (0, mF2 q 0 (.ref bb_1) 0 0 1))] := hD
  refine lv_iload_n hx hb d_MM_take_161 rfl (lv_at hl 0 rfl) ?_
  exact ax_iret hx hb hr hlocks hP hD hS () rfl [] rfl (by decide) rfl (Nat.le_of_ble_eq_true rfl) (Nat.le_of_ble_eq_true rfl) d_MM_take_162
theorem d_MM_judge_0 : decode b_MM_judge 0 = .ok (.aload_n 0, 1) := by decide +kernel
theorem d_MM_judge_1 : decode b_MM_judge 1 = .ok (.iconst 0, 1) := by decide +kernel
theorem d_MM_judge_2 : decode b_MM_judge 2 = .ok (.putfield 343, 3) := by decide +kernel
theorem d_MM_judge_5 : decode b_MM_judge 5 = .ok (.iconst (-1), 1) := by decide +kernel
theorem d_MM_judge_6 : decode b_MM_judge 6 = .ok (.istore_n 2, 1) := by decide +kernel
theorem d_MM_judge_7 : decode b_MM_judge 7 = .ok (.iload_n 1, 1) := by decide +kernel
theorem d_MM_judge_8 : decode b_MM_judge 8 = .ok (.i2l, 1) := by decide +kernel
theorem d_MM_judge_9 : decode b_MM_judge 9 = .ok (.lconst 0, 1) := by decide +kernel
theorem d_MM_judge_10 : decode b_MM_judge 10 = .ok (.aload_n 0, 1) := by decide +kernel
theorem d_MM_judge_11 : decode b_MM_judge 11 = .ok (.getfield 410, 3) := by decide +kernel
theorem d_MM_judge_14 : decode b_MM_judge 14 = .ok (.iconst 1, 1) := by decide +kernel
theorem d_MM_judge_15 : decode b_MM_judge 15 = .ok (.isub, 1) := by decide +kernel
theorem d_MM_judge_16 : decode b_MM_judge 16 = .ok (.i2l, 1) := by decide +kernel
theorem d_MM_judge_17 : decode b_MM_judge 17 = .ok (.invokestatic 349, 3) := by decide +kernel
theorem d_MM_judge_20 : decode b_MM_judge 20 = .ok (.ifCond .eq 44, 3) := by decide +kernel
theorem d_MM_judge_64 : decode b_MM_judge 64 = .ok (.aload_n 0, 1) := by decide +kernel
theorem d_MM_judge_65 : decode b_MM_judge 65 = .ok (.getfield 19, 3) := by decide +kernel
theorem d_MM_judge_68 : decode b_MM_judge 68 = .ok (.iconst 0, 1) := by decide +kernel
theorem d_MM_judge_69 : decode b_MM_judge 69 = .ok (.putfield 353, 3) := by decide +kernel
theorem d_MM_judge_72 : decode b_MM_judge 72 = .ok (.iload_n 2, 1) := by decide +kernel
theorem d_MM_judge_73 : decode b_MM_judge 73 = .ok (.ireturn, 1) := by decide +kernel
set_option maxHeartbeats 4000000 in
set_option maxRecDepth 100000 in
theorem c_MM_judge (l : Launch) (dC : Nat → ClassId) (dI : Nat → Nat → Nat) (ca : Nat → ClassId) (h0 : Nat) (q : Nat → Nat) (th : Int32) (qa : Nat) (f : Int32) : CTw l classes (dC, dI) (mK dC dI ca) wm y_MM_judge b_MM_judge 4 (some (.int)) [(25, 47, 50, 7)] 1 25 0 0 [.ref h0, .int f] [(h0, .inr (0, mF2 q th (.null) 0 0 0)), ((q 2), .inr (2, [.ref qa, .int 0]))] (fun (v : Option Value) (_ : Unit) => v = some (.int (-1))) (fun (_ : Unit) => []) := by
  refine ax_ofw (by decide) (Nat.le_of_ble_eq_true rfl) ?_
  intro p e s m below meth c A ls hAt htab hK hP hD hS hA hl
  obtain ⟨hx, hb, hr, hml, hown, hts, hlocks, hin⟩ := hAt
  have hl : lv_has ls 4 [(0, .ref h0), (1, .int f)] := hl
  refine lv_aload_n hx hb d_MM_judge_0 rfl (lv_at hl 0 rfl) ?_
  refine lv_iconst (v := 0) hx hb d_MM_judge_1 (by decide) ?_
  refine va_put (D := (dC, dI)) (ci := 0) (v := .int 0) (ty := .int) (C := R_MM) (T := F_MM) (N := 132) hx hb hts i_MM t_MM t_MM_ok n_MM hown hK.1 hP hD hS 0 rfl rfl 0 (by decide) (hts _ xm_73) (fun _ h9 => h9) rfl (by decide +kernel) rfl rfl (Nat.le_of_ble_eq_true rfl) d_MM_judge_2 (fun H locs hP hD hS => ?_)
  have hP : va_P (dC, dI) classes [(h0, .inr (0, mF2 q 0 (.null) 0 0 0)), ((q 2), .inr (2, [.ref qa, .int 0]))] H := hP
  have hD : va_D A [(h0, .inr (0, mF2 q 0 (.null) 0 0 0)), ((q 2), .inr (2, [.ref qa, .int 0]))] := hD
  refine lv_iconst (v := (-1)) hx hb d_MM_judge_5 (by decide) ?_
  refine lv_istore_n (lv' := [(2, .int (-1)), (0, .ref h0), (1, .int f)]) hx hb d_MM_judge_6 rfl hl (by decide) rfl (fun ls hl => ?_)
  refine lv_iload_n hx hb d_MM_judge_7 rfl (lv_at hl 2 rfl) ?_
  refine lv_i2l hx hb d_MM_judge_8 rfl ?_
  refine lv_lconst (v := 0) hx hb d_MM_judge_9 (by decide) ?_
  refine lv_aload_n hx hb d_MM_judge_10 rfl (lv_at hl 1 rfl) ?_
  refine va_get (D := (dC, dI)) (ci := 0) (v := .int 0) (C := R_MM) (T := F_MM) (N := 132) hx hb hts i_MM hown hK.1 hP 0 rfl rfl 8 (by decide) (hts _ xm_81) (fun _ h9 => h9) rfl d_MM_judge_11 ?_
  refine lv_iconst (v := 1) hx hb d_MM_judge_14 (by decide) ?_
  refine lv_isub hx hb d_MM_judge_15 ?_
  refine lv_topi (fun z e9 => ?_)
  obtain rfl : z = (-1) := by rw [e9]; decide
  refine lv_i2l (v := (-1)) hx hb d_MM_judge_16 (by decide) ?_
  refine ax_St (k := 3) (As := [.long (f.toInt64), .long 0, .long (-1)]) (rest := []) (wr := [(h0, .inr (0, mF2 q 0 (.null) 0 0 0)), ((q 2), .inr (2, [.ref qa, .int 0]))]) rfl hx hb hml hown hts g_wm (mK_bl dC dI ca) (c_MM_in l dC dI ca f.toInt64 0 (-1)) xm_182 xm_183 xm_0 xm_184 (by decide +kernel) rfl (Nat.le_of_ble_eq_true rfl) (Nat.le_of_ble_eq_true rfl) hl.1 (Nat.le_of_ble_eq_true rfl) (mK_up hK) hP hD hS hA [] [0, 1] rfl (by decide) rfl rfl (by decide) (by decide) (Nat.le_of_ble_eq_true rfl) (Nat.le_of_ble_eq_true rfl) d_MM_judge_17 (fun v _ H locs hp hP hD hS => ?_)
  obtain rfl : v = some (.int 0) := hp.elim (fun h => absurd h.2 in_no) (fun h => h.1)
  have hP : va_P (dC, dI) classes [(h0, .inr (0, mF2 q 0 (.null) 0 0 0)), ((q 2), .inr (2, [.ref qa, .int 0]))] H := hP
  have hD : va_D A [(h0, .inr (0, mF2 q 0 (.null) 0 0 0)), ((q 2), .inr (2, [.ref qa, .int 0]))] := hD
  refine W.eq (g2 := F0 m 20 ls [.int 0]) rfl ?_
  refine lv_if_eq (tgt := 64) hx hb d_MM_judge_20 (by decide) (fun _ => ?_) (fun h => absurd (by decide) h)
  refine lv_aload_n hx hb d_MM_judge_64 rfl (lv_at hl 1 rfl) ?_
  refine va_get (D := (dC, dI)) (ci := 0) (v := .ref (q 2)) (C := R_MM) (T := F_MM) (N := 132) hx hb hts i_MM hown hK.1 hP 0 rfl rfl 2 (by decide) (hts _ xm_75) (fun _ h9 => h9) rfl d_MM_judge_65 ?_
  refine lv_iconst (v := 0) hx hb d_MM_judge_68 (by decide) ?_
  refine va_putN (D := (dC, dI)) (ci := 2) (v := .int 0) (ty := .int) (C := R_MB) (T := F_MB) (N := 2) hx hb hts i_MB t_MB t_MB_ok n_MB hown hK.1 hP hD hS 1 rfl rfl 1 (by decide) (va_Nw.use rfl (hK.2.1 _ zm_6)) (fun _ h9 => h9) rfl (by decide +kernel) rfl rfl (Nat.le_of_ble_eq_true rfl) d_MM_judge_69 (fun H locs hP hD hS => ?_)
  have hP : va_P (dC, dI) classes [(h0, .inr (0, mF2 q 0 (.null) 0 0 0)), ((q 2), .inr (2, [.ref qa, .int 0]))] H := hP
  have hD : va_D A [(h0, .inr (0, mF2 q 0 (.null) 0 0 0)), ((q 2), .inr (2, [.ref qa, .int 0]))] := hD
  refine lv_iload_n hx hb d_MM_judge_72 rfl (lv_at hl 0 rfl) ?_
  exact ax_iret hx hb hr hlocks hP hD hS () rfl [] rfl (by decide) rfl (Nat.le_of_ble_eq_true rfl) (Nat.le_of_ble_eq_true rfl) d_MM_judge_73
theorem d_MM_edit_0 : decode b_MM_edit 0 = .ok (.aload_n 0, 1) := by decide +kernel
theorem d_MM_edit_1 : decode b_MM_edit 1 = .ok (.iconst 0, 1) := by decide +kernel
theorem d_MM_edit_2 : decode b_MM_edit 2 = .ok (.putfield 343, 3) := by decide +kernel
theorem d_MM_edit_5 : decode b_MM_edit 5 = .ok (.iconst (-1), 1) := by decide +kernel
theorem d_MM_edit_6 : decode b_MM_edit 6 = .ok (.istore_n 3, 1) := by decide +kernel
theorem d_MM_edit_7 : decode b_MM_edit 7 = .ok (.iload_n 1, 1) := by decide +kernel
theorem d_MM_edit_8 : decode b_MM_edit 8 = .ok (.i2l, 1) := by decide +kernel
theorem d_MM_edit_9 : decode b_MM_edit 9 = .ok (.lconst 0, 1) := by decide +kernel
theorem d_MM_edit_10 : decode b_MM_edit 10 = .ok (.aload_n 0, 1) := by decide +kernel
theorem d_MM_edit_11 : decode b_MM_edit 11 = .ok (.getfield 410, 3) := by decide +kernel
theorem d_MM_edit_14 : decode b_MM_edit 14 = .ok (.iconst 1, 1) := by decide +kernel
theorem d_MM_edit_15 : decode b_MM_edit 15 = .ok (.isub, 1) := by decide +kernel
theorem d_MM_edit_16 : decode b_MM_edit 16 = .ok (.i2l, 1) := by decide +kernel
theorem d_MM_edit_17 : decode b_MM_edit 17 = .ok (.invokestatic 349, 3) := by decide +kernel
theorem d_MM_edit_20 : decode b_MM_edit 20 = .ok (.ifCond .eq 142, 3) := by decide +kernel
theorem d_MM_edit_162 : decode b_MM_edit 162 = .ok (.aload_n 0, 1) := by decide +kernel
theorem d_MM_edit_163 : decode b_MM_edit 163 = .ok (.getfield 19, 3) := by decide +kernel
theorem d_MM_edit_166 : decode b_MM_edit 166 = .ok (.iconst 0, 1) := by decide +kernel
theorem d_MM_edit_167 : decode b_MM_edit 167 = .ok (.putfield 353, 3) := by decide +kernel
theorem d_MM_edit_170 : decode b_MM_edit 170 = .ok (.iload_n 3, 1) := by decide +kernel
theorem d_MM_edit_171 : decode b_MM_edit 171 = .ok (.ireturn, 1) := by decide +kernel
set_option maxHeartbeats 4000000 in
set_option maxRecDepth 100000 in
theorem c_MM_edit (l : Launch) (dC : Nat → ClassId) (dI : Nat → Nat → Nat) (ca : Nat → ClassId) (h0 : Nat) (q : Nat → Nat) (th : Int32) (qa : Nat) (f : Int32) (g : Int32) : CTw l classes (dC, dI) (mK dC dI ca) wm y_MM_edit b_MM_edit 6 (some (.int)) [(44, 142, 145, 7)] 1 25 0 0 [.ref h0, .int f, .int g] [(h0, .inr (0, mF2 q th (.null) 0 0 0)), ((q 2), .inr (2, [.ref qa, .int 0]))] (fun (v : Option Value) (_ : Unit) => v = some (.int (-1))) (fun (_ : Unit) => []) := by
  refine ax_ofw (by decide) (Nat.le_of_ble_eq_true rfl) ?_
  intro p e s m below meth c A ls hAt htab hK hP hD hS hA hl
  obtain ⟨hx, hb, hr, hml, hown, hts, hlocks, hin⟩ := hAt
  have hl : lv_has ls 6 [(0, .ref h0), (1, .int f), (2, .int g)] := hl
  refine lv_aload_n hx hb d_MM_edit_0 rfl (lv_at hl 0 rfl) ?_
  refine lv_iconst (v := 0) hx hb d_MM_edit_1 (by decide) ?_
  refine va_put (D := (dC, dI)) (ci := 0) (v := .int 0) (ty := .int) (C := R_MM) (T := F_MM) (N := 132) hx hb hts i_MM t_MM t_MM_ok n_MM hown hK.1 hP hD hS 0 rfl rfl 0 (by decide) (hts _ xm_73) (fun _ h9 => h9) rfl (by decide +kernel) rfl rfl (Nat.le_of_ble_eq_true rfl) d_MM_edit_2 (fun H locs hP hD hS => ?_)
  have hP : va_P (dC, dI) classes [(h0, .inr (0, mF2 q 0 (.null) 0 0 0)), ((q 2), .inr (2, [.ref qa, .int 0]))] H := hP
  have hD : va_D A [(h0, .inr (0, mF2 q 0 (.null) 0 0 0)), ((q 2), .inr (2, [.ref qa, .int 0]))] := hD
  refine lv_iconst (v := (-1)) hx hb d_MM_edit_5 (by decide) ?_
  refine lv_istore_n (lv' := [(3, .int (-1)), (0, .ref h0), (1, .int f), (2, .int g)]) hx hb d_MM_edit_6 rfl hl (by decide) rfl (fun ls hl => ?_)
  refine lv_iload_n hx hb d_MM_edit_7 rfl (lv_at hl 2 rfl) ?_
  refine lv_i2l hx hb d_MM_edit_8 rfl ?_
  refine lv_lconst (v := 0) hx hb d_MM_edit_9 (by decide) ?_
  refine lv_aload_n hx hb d_MM_edit_10 rfl (lv_at hl 1 rfl) ?_
  refine va_get (D := (dC, dI)) (ci := 0) (v := .int 0) (C := R_MM) (T := F_MM) (N := 132) hx hb hts i_MM hown hK.1 hP 0 rfl rfl 8 (by decide) (hts _ xm_81) (fun _ h9 => h9) rfl d_MM_edit_11 ?_
  refine lv_iconst (v := 1) hx hb d_MM_edit_14 (by decide) ?_
  refine lv_isub hx hb d_MM_edit_15 ?_
  refine lv_topi (fun z e9 => ?_)
  obtain rfl : z = (-1) := by rw [e9]; decide
  refine lv_i2l (v := (-1)) hx hb d_MM_edit_16 (by decide) ?_
  refine ax_St (k := 3) (As := [.long (f.toInt64), .long 0, .long (-1)]) (rest := []) (wr := [(h0, .inr (0, mF2 q 0 (.null) 0 0 0)), ((q 2), .inr (2, [.ref qa, .int 0]))]) rfl hx hb hml hown hts g_wm (mK_bl dC dI ca) (c_MM_in l dC dI ca f.toInt64 0 (-1)) xm_182 xm_183 xm_0 xm_184 (by decide +kernel) rfl (Nat.le_of_ble_eq_true rfl) (Nat.le_of_ble_eq_true rfl) hl.1 (Nat.le_of_ble_eq_true rfl) (mK_up hK) hP hD hS hA [] [0, 1] rfl (by decide) rfl rfl (by decide) (by decide) (Nat.le_of_ble_eq_true rfl) (Nat.le_of_ble_eq_true rfl) d_MM_edit_17 (fun v _ H locs hp hP hD hS => ?_)
  obtain rfl : v = some (.int 0) := hp.elim (fun h => absurd h.2 in_no) (fun h => h.1)
  have hP : va_P (dC, dI) classes [(h0, .inr (0, mF2 q 0 (.null) 0 0 0)), ((q 2), .inr (2, [.ref qa, .int 0]))] H := hP
  have hD : va_D A [(h0, .inr (0, mF2 q 0 (.null) 0 0 0)), ((q 2), .inr (2, [.ref qa, .int 0]))] := hD
  refine W.eq (g2 := F0 m 20 ls [.int 0]) rfl ?_
  refine lv_if_eq (tgt := 162) hx hb d_MM_edit_20 (by decide) (fun _ => ?_) (fun h => absurd (by decide) h)
  refine lv_aload_n hx hb d_MM_edit_162 rfl (lv_at hl 1 rfl) ?_
  refine va_get (D := (dC, dI)) (ci := 0) (v := .ref (q 2)) (C := R_MM) (T := F_MM) (N := 132) hx hb hts i_MM hown hK.1 hP 0 rfl rfl 2 (by decide) (hts _ xm_75) (fun _ h9 => h9) rfl d_MM_edit_163 ?_
  refine lv_iconst (v := 0) hx hb d_MM_edit_166 (by decide) ?_
  refine va_putN (D := (dC, dI)) (ci := 2) (v := .int 0) (ty := .int) (C := R_MB) (T := F_MB) (N := 2) hx hb hts i_MB t_MB t_MB_ok n_MB hown hK.1 hP hD hS 1 rfl rfl 1 (by decide) (va_Nw.use rfl (hK.2.1 _ zm_6)) (fun _ h9 => h9) rfl (by decide +kernel) rfl rfl (Nat.le_of_ble_eq_true rfl) d_MM_edit_167 (fun H locs hP hD hS => ?_)
  have hP : va_P (dC, dI) classes [(h0, .inr (0, mF2 q 0 (.null) 0 0 0)), ((q 2), .inr (2, [.ref qa, .int 0]))] H := hP
  have hD : va_D A [(h0, .inr (0, mF2 q 0 (.null) 0 0 0)), ((q 2), .inr (2, [.ref qa, .int 0]))] := hD
  refine lv_iload_n hx hb d_MM_edit_170 rfl (lv_at hl 0 rfl) ?_
  exact ax_iret hx hb hr hlocks hP hD hS () rfl [] rfl (by decide) rfl (Nat.le_of_ble_eq_true rfl) (Nat.le_of_ble_eq_true rfl) d_MM_edit_171
end
section
theorem d_MH_init_0 : decode b_MH_init 0 = .ok (.aload_n 0, 1) := by decide +kernel
theorem d_MH_init_1 : decode b_MH_init 1 = .ok (.invokespecial 1, 3) := by decide +kernel
theorem d_MH_init_4 : decode b_MH_init 4 = .ok (.return_, 1) := by decide +kernel
/-- what the making of a Throwable asks of the tables, and of Throwable's statics -/
def tAtoms : List Cond := Bundle.throwableAtoms ++
  ([.isRef (.static Bundle.tN "UNASSIGNED_STACK" Bundle.steD), .isRef (.static Bundle.tN "SUPPRESSED_SENTINEL" Bundle.listD), .fieldLink Bundle.tN 198 Bundle.tN "backtrace" "Ljava/lang/Object;", .lays Bundle.tN Bundle.tN "backtrace" "Ljava/lang/Object;", .laysStatic Bundle.tN "UNASSIGNED_STACK" Bundle.steD, .laysStatic Bundle.tN "SUPPRESSED_SENTINEL" Bundle.listD, .initialized Bundle.tN] : List Cond)
def hAtoms : List Cond := tAtoms ++ (Bundle.chain0Atoms "java/lang/RuntimeException" ["java/lang/Exception"] ++
  ([.methodLink R_MH 1 (Bundle.init0 "java/lang/RuntimeException"), .selects R_MH Bundle.tFill0 Bundle.tFill0, .selects R_MH Bundle.tFill Bundle.tFill, .instantiable R_MH 8,
   .lays R_MH Bundle.tN "cause" "Ljava/lang/Throwable;", .lays R_MH Bundle.tN "stackTrace" Bundle.steD, .lays R_MH Bundle.tN "suppressedExceptions" Bundle.listD, .lays R_MH Bundle.tN "backtrace" "Ljava/lang/Object;"] : List Cond))
def kA (L : List Cond) (U : State) : Prop := ∀ w ∈ L, w.before #[] U = true
def kH (dC : Nat → ClassId) (dI : Nat → Nat → Nat) (ca : Nat → ClassId) (h0 : Nat) (U : State) : Prop :=
  mK dC dI ca U ∧ kA hAtoms U ∧ ∃ kX : Class, U.vm.classes[dC 1]? = some kX ∧ U.heap[h0]? = some (freshCell (dC 1) kX)
set_option maxHeartbeats 4000000 in
theorem c_MH_init (l : Launch) (hl9 : l.stackTraces = false) (dC : Nat → ClassId) (dI : Nat → Nat → Nat) (ca : Nat → ClassId) (h0 : Nat) : CT l classes (dC, dI) (kH dC dI ca h0) wm y_MH_init b_MH_init 1 none 6 80 0 0 [.ref h0] [(h0, .inr (1, [.null, .null, .null, .null, .null, .int 0, .int 0, .int 0]))] (fun (v : Option Value) (fs : List Value) => v = none ∧ fs.length = 8) (fun (fs : List Value) => [(h0, .inr (1, fs))]) := by
  refine ax_of (by decide) (Nat.le_of_ble_eq_true rfl) ?_
  intro p e s m below meth c A ls hAt hK hP hD hS hA hl
  obtain ⟨hx, hb, hr, hml, hown, hts, hlocks, hin⟩ := hAt
  have hl : lv_has ls 1 [(0, .ref h0)] := hl
  obtain ⟨hK, hat, kX, hkX, hfresh⟩ := hK
  have h : ∀ w ∈ hAtoms, w.before #[] s = true := hat
  have ht : ∀ w ∈ tAtoms, w.before #[] s = true := fun w hw => h w (List.mem_append_left _ hw)
  have hu : ∀ w, w ∈ (Bundle.chain0Atoms "java/lang/RuntimeException" ["java/lang/Exception"] ++ ([.methodLink R_MH 1 (Bundle.init0 "java/lang/RuntimeException"), .selects R_MH Bundle.tFill0 Bundle.tFill0, .selects R_MH Bundle.tFill Bundle.tFill, .instantiable R_MH 8,
   .lays R_MH Bundle.tN "cause" "Ljava/lang/Throwable;", .lays R_MH Bundle.tN "stackTrace" Bundle.steD, .lays R_MH Bundle.tN "suppressedExceptions" Bundle.listD, .lays R_MH Bundle.tN "backtrace" "Ljava/lang/Object;"] : List Cond)) → w.before #[] s = true := fun w hw => h w (List.mem_append_right _ hw)
  refine lv_aload_n hx hb d_MH_init_0 rfl (lv_at hl 0 rfl) ?_
  intro T hT X
  have howns : e.platform.frameOwnsMonitors = true := by rw [X.admits.platform]
  have hfin : e.platform.finalization = false := by rw [X.admits.platform]
  have hpl : e.platform.magicAccessors = ({} : Platform).magicAccessors := by rw [X.admits.platform]
  have htr : e.platform.stackTraces = false := by rw [Example.NoTraceControls.admits_follows X.admits]; exact hl9
  obtain ⟨TT, Z, L, LZ, Y⟩ := ThrowableC.of_atoms (args := #[]) howns hfin hpl (fun x hx => ht x (List.mem_append_left _ hx))
  obtain ⟨P1, Ps, hlen, L1, hL, hP1m, hlink1, hlink⟩ := Bundle.chain0 (args := #[]) hpl Y.init0 ["java/lang/Exception"] "java/lang/RuntimeException" (by decide +kernel) (by decide +kernel) (fun x hx => hu x (List.mem_append_left _ hx))
  have hf := (hK.1.1 1 _ rfl).2.1
  have hfound : s.vm.findClass R_MH = some (dC 1) := hf
  have hq : ∀ w, w ∈ ([.methodLink R_MH 1 (Bundle.init0 "java/lang/RuntimeException"), .selects R_MH Bundle.tFill0 Bundle.tFill0, .selects R_MH Bundle.tFill Bundle.tFill, .instantiable R_MH 8,
   .lays R_MH Bundle.tN "cause" "Ljava/lang/Throwable;", .lays R_MH Bundle.tN "stackTrace" Bundle.steD, .lays R_MH Bundle.tN "suppressedExceptions" Bundle.listD, .lays R_MH Bundle.tN "backtrace" "Ljava/lang/Object;"] : List Cond) → w.before #[] s = true := fun w hw => hu w (List.mem_append_right _ hw)
  have a' : ∀ w : Cond, w.before #[] s = true → w.holds #[] s none s [] = true := fun _ hw => hw
  obtain ⟨c1, kX', hc1, hk, hord, -, -, hn8⟩ := Cond.instantiable_spec (a' _ (hq (.instantiable R_MH 8) (by simp)))
  cases Option.some.inj (hc1.symm.trans hfound)
  cases Option.some.inj (hkX.symm.trans hk)
  have hsel0 : selectMethod e.platform s.vm (dC 1) TT.fill0 = .method TT.fill0 := by
    obtain ⟨c2, r2, m2, q1, q2, q3, q4, -⟩ := Cond.selects_spec (a' _ (hq (.selects R_MH Bundle.tFill0 Bundle.tFill0) (by simp)))
    cases Option.some.inj (q1.symm.trans hfound)
    cases Option.some.inj (q2.symm.trans (State.methodFound?_of_named Y.fill0 (by decide)))
    cases Option.some.inj (q3.symm.trans Y.fill0)
    rw [Launch.admits_selectMethod X.admits]; exact q4
  have hselF : selectMethod e.platform s.vm (dC 1) TT.fill = .method TT.fill := by
    obtain ⟨c2, r2, m2, q1, q2, q3, q4, -⟩ := Cond.selects_spec (a' _ (hq (.selects R_MH Bundle.tFill Bundle.tFill) (by simp)))
    cases Option.some.inj (q1.symm.trans hfound)
    cases Option.some.inj (q2.symm.trans (State.methodFound?_of_named Y.fill (by decide)))
    cases Option.some.inj (q3.symm.trans Y.fill)
    rw [Launch.admits_selectMethod X.admits]; exact q4
  obtain ⟨cellS, hcS0, hiss⟩ := Y.statics
  obtain ⟨u0, hu0⟩ := Cond.staticRefV Y.unassigned L.unassignedStatic L.statics hcS0 hiss (a' _ (ht (.isRef (.static Bundle.tN "UNASSIGNED_STACK" Bundle.steD)) (List.mem_append_right _ (by simp))))
  obtain ⟨sen, hsen⟩ := Cond.staticRefV Y.sentinel L.sentinelStatic L.statics hcS0 hiss (a' _ (ht (.isRef (.static Bundle.tN "SUPPRESSED_SENTINEL" Bundle.listD)) (List.mem_append_right _ (by simp))))
  obtain ⟨ci198, i198, fB, hk198, hg198, ha198, hsB, -, hnB, htB, hffB⟩ := Cond.ownField (t := .object "java/lang/Object") Y.found L.cls (by decide +kernel) (a' _ (ht (.fieldLink Bundle.tN 198 Bundle.tN "backtrace" "Ljava/lang/Object;") (List.mem_append_right _ (by simp)))) (a' _ (ht (.lays Bundle.tN Bundle.tN "backtrace" "Ljava/lang/Object;") (List.mem_append_right _ (by simp)))) e.platform hpl
  have hcellS : T.heap[TT.aS]? = some cellS := by rw [hT]; exact hcS0
  have hknownS : cellS.vm ≠ .unknown := by
    intro hu9
    rw [hu9] at hiss
    cases hiss
  have hcell : T.heap[h0]? = some (freshCell (dC 1) kX) := by rw [hT]; exact hfresh
  have hneS : TT.aS ≠ h0 := by
    intro h9
    rw [h9, hcell] at hcellS
    cases hcellS
    cases hiss
  obtain ⟨tyC, dCc, hdC, hdnC⟩ := Cond.laysAt hfound hk Y.cause (a' _ (hq (.lays R_MH Bundle.tN "cause" "Ljava/lang/Throwable;") (by simp)))
  obtain ⟨tyS, dS, hdS, hdnS⟩ := Cond.laysAt hfound hk Y.stack (a' _ (hq (.lays R_MH Bundle.tN "stackTrace" Bundle.steD) (by simp)))
  obtain ⟨tyP, dP, hdP, hdnP⟩ := Cond.laysAt hfound hk Y.supp (a' _ (hq (.lays R_MH Bundle.tN "suppressedExceptions" Bundle.listD) (by simp)))
  obtain ⟨tyB, dB, hdB, hdnB⟩ := Cond.laysAt hfound hk hffB (a' _ (hq (.lays R_MH Bundle.tN "backtrace" "Ljava/lang/Object;") (by simp)))
  have bC := Cond.laysApart hdB hdC hdnB hdnC (by rw [hnB, Y.causeName]; decide)
  have bS := Cond.laysApart hdB hdS hdnB hdnS (by rw [hnB, Y.stackName]; decide)
  have bP := Cond.laysApart hdB hdP hdnB hdnP (by rw [hnB, Y.suppName]; decide)
  have hskip : SkipFacts TT e.platform s (fun u => u) u0 ((preparedCellV TT.toThrowableT (freshCell (dC 1) kX) h0 u0 sen).withEntry T.cur) :=
    ⟨{ ci198 := ci198, i198 := i198, fBack := fB }, ⟨hk198, hg198, ha198, hsB⟩, by
      have := fresh_default (c := dC 1) tyB
      rw [htB] at this
      simpa [preparedCellV, Cell.setSlot, Cell.withEntry, Array.getElem?_setIfInBounds, bC, bS, bP, bC.symm, bS.symm, bP.symm, defaultValue] using this, fun _ _ => rfl⟩
  have hin0 : (Cond.instanceMethod (Bundle.init0 "java/lang/RuntimeException")).before #[] s = true := hu _ (List.mem_append_left _ (by simp [Bundle.chain0Atoms, Bundle.passAtoms]))
  have hcd0 : (Cond.code (Bundle.init0 "java/lang/RuntimeException") Bundle.five 1 none).before #[] s = true := hu _ (List.mem_append_left _ (by simp [Bundle.chain0Atoms, Bundle.passAtoms]))
  obtain ⟨tm, methC, cdC, kC, vm₁, hnC, -, -, -, -, -, -, -, hW₁, st1⟩ := Steps.initCold (tb := p.tables) (e := e) (below := below) (s := s) (U := T) X.here hx X.warmed hpl hown (t := Bundle.init0 "java/lang/RuntimeException") rfl rfl ⟨by decide, by decide⟩
    (hq (.methodLink R_MH 1 (Bundle.init0 "java/lang/RuntimeException")) (by simp)) hin0 (bytes := Bundle.five) (maxL := 1) hcd0
    (f := F0 m 1 ls [.ref h0]) rfl (a := h0) (rest := []) rfl (by rw [hb]; exact d_MH_init_1)
  cases Option.some.inj (hnC.symm.trans hP1m)
  have X₁ := X.noted hW₁
  obtain ⟨vm₂, X₂, st2⟩ := X₁.ctorPlainOffV hx (g := F0 m 1 ls []) rfl (by rw [hml]; exact hl.1) TT L Z LZ (P1 :: Ps)
    (fun P hP => by rcases List.mem_cons.mp hP with rfl | hP; exact L1; exact hL P hP) ⟨hlink1, hlink⟩ (u0 := u0) (sen := sen) (self := h0) (cell := freshCell (dC 1) kX) (cellS := cellS)
    hcell (fun _ => by simp) (by simp) rfl rfl hsel0 hselF hcellS hneS hknownS hu0 hsen
    (Takes.of_laid hk hord tyC (by rw [Y.causeType]; rfl)) (Takes.of_laid hk hord tyS (by rw [Y.stackType]; exact fits_refV_array _ u0)) (Takes.of_laid hk hord tyP (by rw [Y.suppType]; exact fits_refV_object _ sen)) Y.objLocals hskip htr [] (by rw [hb]; exact d_MH_init_1)
    (by simp only [List.length_cons, hlen]; exact Nat.le_of_ble_eq_true rfl) (by simp only [List.length_cons, hlen]; exact Nat.le_of_ble_eq_true rfl)
  generalize hcell9 : (preparedCellV TT.toThrowableT (freshCell (dC 1) kX) h0 u0 sen).setSlot TT.fStack.slot u0.v = cell9 at X₂ st2
  have hc9 : cell9.cls = dC 1 := by rw [← hcell9]; rfl
  have hv9 : cell9.vm = .none := by rw [← hcell9]; rfl
  have hs9 : cell9.slots.size = (freshCell (dC 1) kX).slots.size := by rw [← hcell9]; simp [preparedCellV, Cell.setSlot]
  obtain ⟨r9, hr9, cellO, g1, g2, g3, g4⟩ := hP 0 _ rfl
  cases hr9
  have g1 : s.heap[h0]? = some cellO := g1
  cases hfresh.symm.trans g1
  obtain ⟨fs, hfs⟩ : ∃ fs : List Value, fs = (List.range 8).map (fun k => (cell9.slots[dI 1 k]?).getD .null) := ⟨_, rfl⟩
  have hP2 : va_P (dC, dI) classes [(h0, .inr (1, fs))] (((T.setVm vm₁).setVm vm₂).setCell h0 cell9).heap := by
    intro k q hk9
    match k, hk9 with
    | 0, hk9 =>
      cases hk9
      refine ⟨(R_MH, F_MH, 8), rfl, cell9, heapAt_setCell_self (s := (T.setVm vm₁).setVm vm₂) cell9 (Array.getElem?_eq_some_iff.mp hcell).1, hc9, hv9, fun j hj => ?_⟩
      have g5 := g4 j hj
      have hlt : dI 1 j < cell9.slots.size := by rw [hs9]; exact (Array.getElem?_eq_some_iff.mp g5).1
      have hj : j < 8 := hj
      show cell9.slots[dI 1 j]? = some (vp_V fs j)
      rw [hfs, vp_V]
      simp [List.getD, hj, Array.getElem?_eq_getElem hlt]
    | k + 1, hk9 => simp at hk9
  have hAh : A h0 := hD.2 0 _ rfl
  have hD2 : va_D A [(h0, .inr (1, fs))] := ⟨fun i j x y hx hy _ => by
      have h1 : i < 1 := (List.getElem?_eq_some_iff.mp hx).1
      have h2 : j < 1 := (List.getElem?_eq_some_iff.mp hy).1
      omega, fun k q hk9 => by
      have h1 : k < 1 := (List.getElem?_eq_some_iff.mp hk9).1
      have h2 : k = 0 := by omega
      subst h2
      cases hk9
      exact hAh⟩
  have hS2 : va_S A s.heap (((T.setVm vm₁).setVm vm₂).setCell h0 cell9).heap ([] ++ [⟨h0, TT.fCause.slot⟩, ⟨h0, TT.fStack.slot⟩, ⟨h0, TT.fSupp.slot⟩, ⟨h0, TT.fStack.slot⟩]) := by
    refine ⟨?_, fun q h1 h2 => ?_, fun q hq => ?_⟩
    · rw [← hT]; simp [State.setCell]
    · rw [heapAt_setCell_ne (s := (T.setVm vm₁).setVm vm₂) cell9 (fun h9 => h2 (by rw [← h9]; exact hAh))]
      show T.heap[q]? = _
      rw [hT]
    · simp at hq
      rcases hq with rfl | rfl | rfl | rfl <;> exact hAh
  obtain ⟨t9, a9, b9⟩ := ax_vret (post := fun (v : Option Value) (fs : List Value) => v = none ∧ fs.length = 8) (ws1 := fun (fs : List Value) => [(h0, .inr (1, fs))]) (mc := 0) (ms := 0) (l := l) (e := e) (ls := ls) hx hb hr hlocks hP2 hD2 hS2 fs ⟨rfl, by rw [hfs]; simp⟩ [0] rfl (by decide) rfl (Nat.le_refl _) (Nat.le_refl _) d_MH_init_4 _ rfl X₂
  exact ⟨t9, st1 _ fun acts => by
    have h9 := st2 t9 a9
    rw [doInvoke_state] at h9 ⊢
    exact h9, b9⟩
end
section
/-! WHAT THE REFERENCE'S CONSTRUCTOR NEEDS BESIDE -/
/-- a static that is a reference stays one where its class's cell is the same -/
theorem st_kept {C n d : String} {s U : State} (hW : s.WarmedH U.vm) (hst : ∀ (q : Nat) (cell : Cell), s.heap[q]? = some cell → cell.vm.isStatics = true → U.heap[q]? = some cell)
    (h : (Cond.isRef (.static C n d)).before #[] s = true) (hl : (Cond.laysStatic C n d).before #[] s = true) (hi : (Cond.initialized C).before #[] s = true) : (Cond.isRef (.static C n d)).before #[] U = true := by
  have hz : va_Zq C n d (fun q => s.heap.size ≤ q) s s.heap := va_Zqof (args := #[]) hl hi h (fun a ha => Nat.not_le.mpr ha)
  have key : ∀ v : Value, v.isRef = true → va_Z C n d v (fun q => s.heap.size ≤ q) s s.heap → (Cond.isRef (.static C n d)).before #[] U = true := by
    intro v hv hz
    obtain ⟨cf, kf, fi, f, a, cell, h1, h2, h3, h4, h5, h6, h7, -⟩ := va_Z.moved hW.alike hz
    have h8 := hst a cell h5 h6
    have he : (Term.static C n d).eval #[] U none [] U = some v := by
      simp [Term.eval, State.fieldNamed?, h1, h2, h4, h8, h6, h7]
    simp only [Cond.before, Cond.holds, Cond.value, he]
    cases v <;> simp [Value.isRef] at hv ⊢
  rcases hz with hz | ⟨t, hz⟩
  · exact key _ rfl hz
  · exact key _ rfl hz
theorem ls_kept {C n d : String} {s U : State} (hW : s.WarmedH U.vm) (hst : ∀ (q : Nat) (cell : Cell), s.heap[q]? = some cell → cell.vm.isStatics = true → U.heap[q]? = some cell)
    (hl : (Cond.laysStatic C n d).before #[] s = true) : (Cond.laysStatic C n d).before #[] U = true := by
  obtain ⟨c, k, i, f, a, cell, hc, hi, h1, ha, hcell, hs, hcls, hlt, hty⟩ := Cond.laysStatic_spec (Cond.laysStatic_setVm hW.alike hl)
  exact Cond.laysStatic_of (s := U) hc hi h1 ha (hst a cell hcell hs) hs hcls hlt hty
/-- atoms that stay: words of the tables, and statics that are references -/
def ax_stay : Cond → Bool
  | .isRef (.static _ _ _) => true
  | .laysStatic _ _ _ => true
  | .declares _ => true
  | .castable _ _ => true
  | w => goodWord w
theorem kA_up {L : List Cond} (hL : L.all ax_stay = true) (hS : ∀ C n d, Cond.isRef (.static C n d) ∈ L → Cond.laysStatic C n d ∈ L ∧ Cond.initialized C ∈ L) {s U : State} (hW : s.WarmedH U.vm) (hst : ∀ (q : Nat) (cell : Cell), s.heap[q]? = some cell → cell.vm.isStatics = true → U.heap[q]? = some cell) (h : kA L s) : kA L U := by
  intro w hw
  have h1 := List.all_eq_true.mp hL w hw
  by_cases hg : goodWord w = true
  · exact word_at hW (good_of_word hg) (h w hw)
  · cases w with
    | isRef t =>
      cases t with
      | static C n d =>
        obtain ⟨a, b⟩ := hS C n d hw
        exact st_kept hW hst (h _ hw) (h _ a) (h _ b)
      | _ => exact absurd h1 hg
    | laysStatic C n d => exact ls_kept hW hst (h _ hw)
    | declares x => exact va_Nw.warmD hW (h _ hw)
    | castable a b => exact va_Nw.warmC hW (h _ hw)
    | _ => exact absurd h1 hg
end
section
def strs : List (Nat × String) := [(211, " + "), (213, " - "), (215, " * "), (217, " / "), (219, " % "), (221, " & "), (223, " | "), (225, " ^ "), (227, " << "), (229, " >> "), (235, " == "), (237, " != "), (239, " < "), (241, " <= "), (243, " > "), (245, " >= ")]
def kM (dC : Nat → ClassId) (dI : Nat → Nat → Nat) (ca : Nat → ClassId) (sa : Nat → Nat) (h0 : Nat) (U : State) : Prop :=
  mK dC dI ca U ∧ kA hAtoms U ∧ ∀ (i : Nat) (z : Nat × String), strs[i]? = some z → vk_R R_MM z.1 z.2 (sa i) U ∧ va_Any "java/lang/String" U U.heap (sa i) ∧ sa i ≠ h0
theorem hA_stay : hAtoms.all ax_stay = true := by decide +kernel
theorem hA_st : ∀ C n d, Cond.isRef (.static C n d) ∈ hAtoms → Cond.laysStatic C n d ∈ hAtoms ∧ Cond.initialized C ∈ hAtoms := by
  have h : hAtoms.all (fun w => match w with
    | .isRef (.static C n d) => decide (Cond.laysStatic C n d ∈ hAtoms) && decide (Cond.initialized C ∈ hAtoms)
    | _ => true) = true := by decide +kernel
  intro C n d hw
  have h1 := List.all_eq_true.mp h _ hw
  simpa using h1
theorem kH_bl (dC : Nat → ClassId) (dI : Nat → Nat → Nat) (ca : Nat → ClassId) (h0 : Nat) : ax_bl (kH dC dI ca h0) := by
  intro U g mk a h
  obtain ⟨h1, h2, kX, h3, h4⟩ := h
  exact ⟨mK_bl dC dI ca U g mk a h1, kA_up hA_stay hA_st (s := U) (U := U.calling g mk a) (State.WarmedH.refl U) (fun _ _ h _ => h) h2, kX, h3, h4⟩
theorem ax_ofA {S : Type} {l : Launch} {cl : List vw_C} {D : va_G} {K : State → Prop} {Z : List Cond} {y : MethodName} {b : ByteArray} {n : Nat} {r : Option FieldType} {fr lo mc ms : Nat} {As : List Value} {ws : va_W} {post : Option Value → S → Prop} {ws1 : S → va_W}
    (hy : plainName y.cls = true) (hn : (lg_sl As).length ≤ n)
    (body : ∀ (p : Program) (e : Env) (s : State) (m : MethodId) (below : List Frame) (meth : Method) (c : Code) (A : Nat → Prop) (ls : Array Slot), ax_At p s m meth c As.toArray Z y b n r → K s → va_P D cl ws s.heap → va_D A ws → va_S A s.heap s.heap [] → (∀ q : Nat, s.heap.size ≤ q → A q) → (∀ q : Nat, A q → (∃ (k : Nat) (e : va_E), ws[k]? = some (q, e)) ∨ s.heap.size ≤ q) → lv_has ls n (lv_args 0 As) →
      W p l e ({ frames := fr, cells := mc, slots := ms, locals := lo }) s m As.toArray below meth c s.heap [] 0 0 (MQ below (ax_Q post (ax_B cl D A ws1) A) As.toArray s mc ms A) (F0 m 0 ls [])) :
    CT l cl D K Z y b n r fr lo mc ms As ws post ws1 := by
  intro sz
  refine Met.ofW (cc := b) (maxL := n) (ret := r) hy rfl ?_
  intro p e s m args below meth c s₁ B hml hv
  obtain ⟨rfl, hsz, hP, hK, hD0⟩ := hv
  subst hsz
  have hD := hD0.self (sz := s.heap.size)
  have hts0 := atoms_spec (ws := ax_w Z y b n r) B.pre
  rw [lg_entry_eq]
  exact body p e s m below meth c _ _ ⟨B.exec, B.bytes, B.returns, hml, findClass_of_methodNamed B.named, fun w h => hts0 w (List.mem_cons_of_mem _ h), B.notSynchronized, (name_of_methodNamed B.named B.method).1⟩ hK hP hD va_S.rf (fun q h => Or.inr h) (fun q h => h) (lv_entry As hn)
theorem any_at {E : String} {s : State} {H : Heap} {locs : List Loc} {A : Nat → Prop} {a : Nat} (h : va_Any E s s.heap a) (hS : va_S A s.heap H locs) (hn : ¬ A a) : va_Any E s H a := by
  obtain ⟨cell, h1, h2⟩ := h
  exact ⟨cell, by rw [hS.2.1 a (Array.getElem?_eq_some_iff.mp h1).1 hn]; exact h1, h2⟩
section AXN
variable {p : Program} {l : Launch} {e : Env} {R : Room} {s : State} {m : MethodId} {args : Array Value} {below : List Frame} {meth : Method} {c : Code} {H : Heap} {locs : List Loc} {cells slots : Nat} {Q : State → Prop}
variable {cl : List vw_C} {D : va_G} {tys : List (ClassId × FieldType)} {A : Nat → Prop} {ws : va_W} {H0 : Heap} {cc : ByteArray} {pc : Nat} {ls : Array Slot} {rest : List Value}
/-- a new object, with its cell as it was made -/
theorem ax_newF (hexec : p.tables.exec = Jvm.exec) (hb : c.code = cc) {own C : String} {T : u_T} {N ci index : Nat} {Ts : List Cond} (hts : ∀ w ∈ Ts, w.before args s = true) (hin : ∀ w ∈ u_ws C T N, w ∈ Ts) (ty : Nat → FieldType) (hty : ∀ k, k < N → parseFieldDescriptor (T k).2.2.1 = some (ty k)) (hown : s.vm.findClass own = some m.cls) (hcl : (Cond.classLink own index C).before args s = true) (hinst : (Cond.instantiable C N).before args s = true) (hini : (Cond.initialized C).before args s = true)
    (hK : va_K D cl tys s) (hP : va_P D cl ws H) (hD : va_D A ws) (hS : va_S A H0 H locs) (hA : ∀ q, H0.size ≤ q → A q) (hc : cl[ci]? = some (C, T, N)) {fs : List Value} (hfs : ∀ j, j < N → defaultValue (ty j) = vp_V fs j) (hcells : cells + 1 ≤ R.cells) (hslots : slots + N ≤ R.slots) (hdg : decode cc pc = .ok (.new index, 3))
    (kk : ∀ (q : Nat) (H1 : Heap), (∃ kX : Class, s.vm.classes[D.1 ci]? = some kX ∧ H1[q]? = some (freshCell (D.1 ci) kX)) → va_P D cl (ws ++ [(q, .inr (ci, fs))]) H1 → va_D A (ws ++ [(q, .inr (ci, fs))]) → va_S A H0 H1 locs →
      W p l e R s m args below meth c H1 locs (cells + 1) (slots + N) Q (F0 m (pc + 3) ls (.ref q :: rest))) : W p l e R s m args below meth c H locs cells slots Q (F0 m pc ls rest) := by
  have hKn := hK.1 ci _ hc
  refine W.newcK hexec hb hown hcl hinst hini rfl hdg hcells hslots hKn.2.1 rfl fun H1 kC hkC e1 z1 o1 => ?_
  have hk : ∀ (k : Nat) (x : Nat × va_E), ws[k]? = some x → H1[x.1]? = H[x.1]? := fun k x hx => o1 x.1 ((hP k x hx).lt)
  refine kk H.size H1 ⟨kC, hkC, e1⟩ ((hP.kept hk).app (fun k x hx => ?_)) (hD.push hP rfl (hA _ hS.1)) ⟨Nat.le_trans hS.1 (by omega), fun x h1 h2 => (o1 x (Nat.lt_of_lt_of_le h1 hS.1)).trans (hS.2.1 x h1 h2), hS.2.2⟩
  have hz : k < 1 := (List.getElem?_eq_some_iff.mp hx).1
  rw [show k = 0 by omega] at hx
  cases hx
  exact ⟨_, hc, (u_born ty hts hin hKn hkC e1 hty).to hfs⟩
/-- a new array of references whose kind is in the world's tables -/
theorem ax_newqK (hx : p.tables.exec = Jvm.exec) (hb : c.code = cc) {own C : String} {index : Nat} (hown : s.vm.findClass own = some m.cls) (hclink : (Cond.classLink own index C).before args s = true) (hover : va_AO C s) (hK : va_K D cl tys s) (t0 : Nat) {cA : ClassId} (ht0 : tys[t0]? = some (cA, .object C)) (hP : va_P D cl ws H) (hD : va_D A ws) (hS : va_S A H0 H locs) (hA : ∀ q, H0.size ≤ q → A q)
    {n : Int32} {N' : Nat} (hn : ¬ n < 0) (hN : n.toNatClampNeg = N') (hbytes : N' * 4 ≤ 536870912) (hcells : cells + 1 ≤ R.cells) (hslots : slots + N' ≤ R.slots) (hdg : decode cc pc = .ok (.anewarray index, 3))
    (kk : ∀ (q : Nat) (H1 : Heap), va_P D cl (ws ++ [(q, .inl (cA, N', .inr (.inr (.inr (.inr (fun _ => none))))))]) H1 → va_D A (ws ++ [(q, .inl (cA, N', .inr (.inr (.inr (.inr (fun _ => none))))))]) → va_S A H0 H1 locs → W p l e R s m args below meth c H1 locs (cells + 1) (slots + N') Q (F0 m (pc + 3) ls (.ref q :: rest))) : W p l e R s m args below meth c H locs cells slots Q (F0 m pc ls (.int n :: rest)) := by
  refine va_newq hx hb hown hclink hover hK hP hD hS hA hn hN hbytes hcells hslots hdg (fun q cB H1 hK1 hP1 hD1 hS1 => ?_)
  obtain ⟨kA1, cp1, -, -, -, h1⟩ := (hK.2 t0 _ ht0).2
  obtain ⟨kA2, cp2, -, -, -, h2⟩ := (hK1.2 tys.length (cB, .object C) (by simp)).2
  have he : cB = cA := Option.some.inj (h2.symm.trans h1)
  subst he
  exact kk q H1 hP1 hD1 hS1
end AXN
end
section
/-! ONE ROW A FIELD of the reference's constructor: its fields are a list of which nothing is asked but its length -/
section AXM
variable {p : Program} {l : Launch} {e : Env} {R : Room} {s : State} {m : MethodId} {args : Array Value} {below : List Frame} {meth : Method} {c : Code} {H : Heap} {locs : List Loc} {cells slots : Nat} {Q : State → Prop}
variable {dC : Nat → ClassId} {dI : Nat → Nat → Nat} {ca : Nat → ClassId} {A : Nat → Prop} {wt : va_W} {H0 : Heap} {pc : Nat} {ls : Array Slot} {h0 : Nat} {fs : List Value}
/-- what stands all through the constructor -/
def mC (p : Program) (s : State) (m : MethodId) (args : Array Value) (meth : Method) (c : Code) (dC : Nat → ClassId) (dI : Nat → Nat → Nat) (ca : Nat → ClassId) (A : Nat → Prop) (ls : Array Slot) (h0 : Nat) : Prop :=
  p.tables.exec = Jvm.exec ∧ c.code = b_MM_init ∧ c.maxLocals = 1 ∧ s.vm.findClass R_MM = some m.cls ∧ (∀ w ∈ wm, w.before args s = true) ∧ meth.name = "<init>" ∧ mK dC dI ca s ∧ (∀ q : Nat, s.heap.size ≤ q → A q) ∧ lv_has ls 1 [(0, .ref h0)]
theorem m_put (M : mC p s m args meth c dC dI ca A ls h0) (hP : va_P (dC, dI) classes ((h0, .inr (0, fs)) :: wt) H) (hD : va_D A ((h0, .inr (0, fs)) :: wt)) (hS : va_S A s.heap H locs) (hlen : fs.length = 132) {q index k : Nat} {ty : FieldType} (hk : k < 132) (w1 : Cond.fieldLink R_MM index "SourceBackModel" (F_MM k).2.1 (F_MM k).2.2.1 ∈ wm) (h1 : (F_MM k).1 = R_MM) (h2 : (F_MM k).2.2.2 = true) (h3 : parseFieldDescriptor (F_MM k).2.2.1 = some ty) (h4 : narrow ty (.ref q) = .ref q) (h5 : fits ty (.ref q) = true) (hdg : decode b_MM_init pc = .ok (.putfield index, 3))
    (kk : ∀ (H1 : Heap) (locs1 : List Loc), (fs.set k (.ref q)).length = 132 → va_P (dC, dI) classes ((h0, .inr (0, fs.set k (.ref q))) :: wt) H1 → va_D A ((h0, .inr (0, fs.set k (.ref q))) :: wt) → va_S A s.heap H1 locs1 → W p l e R s m args below meth c H1 locs1 cells slots Q (F0 m (pc + 3) ls [])) : W p l e R s m args below meth c H locs cells slots Q (F0 m pc ls [.ref q, .ref h0]) := by
  obtain ⟨hx, hb, hml, hown, hts, hin, hK, hA, hl⟩ := M
  refine va_putF (D := (dC, dI)) (ci := 0) (v := .ref q) (ty := ty) (C := R_MM) (T := F_MM) (N := 132) hx hb hts i_MM t_MM t_MM_ok n_MM hown hK.1 hP hD hS 0 rfl rfl k hk (hts _ w1) (fun x h9 => by rw [h1] at h9; exact h9) h2 hin h1 h3 h4 h5 (by rw [hlen]; exact hk) hdg (fun H1 locs1 hP1 hD1 hS1 => ?_)
  exact kk H1 locs1 (by rw [List.length_set]; exact hlen) hP1 hD1 hS1
theorem va_drop1 {D : va_G} {cl : List vw_C} {ws : va_W} {x : Nat × va_E} {H : Heap} (h : va_P D cl (ws ++ [x]) H) : va_P D cl ws H := fun k y hy => h k y (by rw [List.getElem?_append_left (List.getElem?_eq_some_iff.mp hy).1]; exact hy)
theorem va_drop2 {A : Nat → Prop} {ws : va_W} {x : Nat × va_E} (h : va_D A (ws ++ [x])) : va_D A ws :=
  ⟨fun i j a b ha hb hab => h.1 i j a b (by rw [List.getElem?_append_left (List.getElem?_eq_some_iff.mp ha).1]; exact ha) (by rw [List.getElem?_append_left (List.getElem?_eq_some_iff.mp hb).1]; exact hb) hab, fun k a ha => h.2 k a (by rw [List.getElem?_append_left (List.getElem?_eq_some_iff.mp ha).1]; exact ha)⟩
/-- newarray, putfield; the array is kept -/
theorem m_arrK (M : mC p s m args meth c dC dI ca A ls h0) (hP : va_P (dC, dI) classes ((h0, .inr (0, fs)) :: wt) H) (hD : va_D A ((h0, .inr (0, fs)) :: wt)) (hS : va_S A s.heap H locs) (hlen : fs.length = 132) {atype : ArrayType} {ty tf : FieldType} {n : Int32} {N' index k t0 : Nat} {a0 : vp_A} (hty : newarray.typeOf atype = ty) (wa : Cond.arrayClass ty ∈ wm) (ht0 : (ax_tys ca)[t0]? = some (ca t0, ty)) (hpr : ∀ C, ty ≠ .object C) (ha : ∀ cA : ClassId, vp_cell cA a0 = arrV cA N' (fun _ => defaultValue ty)) (hn : ¬ n < 0) (hN : n.toNatClampNeg = N') (hbytes : N' * componentBytes ty ≤ 536870912)
    (hk : k < 132) (w1 : Cond.fieldLink R_MM index "SourceBackModel" (F_MM k).2.1 (F_MM k).2.2.1 ∈ wm) (h1 : (F_MM k).1 = R_MM) (h2 : (F_MM k).2.2.2 = true) (h3 : parseFieldDescriptor (F_MM k).2.2.1 = some tf) (h4 : ∀ q, narrow tf (.ref q) = .ref q) (h5 : ∀ q, fits tf (.ref q) = true) (hc : cells + 1 ≤ R.cells) (hs : slots + N' ≤ R.slots) (hd1 : decode b_MM_init pc = .ok (.newarray atype, 2)) (hd2 : decode b_MM_init (pc + 2) = .ok (.putfield index, 3))
    (kk : ∀ (q : Nat) (H1 : Heap) (locs1 : List Loc), (fs.set k (.ref q)).length = 132 → va_P (dC, dI) classes ((h0, .inr (0, fs.set k (.ref q))) :: (wt ++ [(q, .inl (ca t0, a0))])) H1 → va_D A ((h0, .inr (0, fs.set k (.ref q))) :: (wt ++ [(q, .inl (ca t0, a0))])) → va_S A s.heap H1 locs1 → W p l e R s m args below meth c H1 locs1 (cells + 1) (slots + N') Q (F0 m (pc + 5) ls [])) : W p l e R s m args below meth c H locs cells slots Q (F0 m pc ls [.int n, .ref h0]) := by
  obtain ⟨hx, hb, hml, hown, hts, hin, hK, hA, hl⟩ := id M
  refine ax_newa (atype := atype) (ty := ty) hx hb (hts _ (by rw [hty]; exact wa)) hty hK.1 t0 ht0 hpr hP hD hS hA ha hn hN hbytes hc hs hd1 (fun q H1 hP1 hD1 hS1 => ?_)
  exact m_put M (fs := fs) (wt := wt ++ [(q, .inl (ca t0, a0))]) (show va_P (dC, dI) classes ((h0, .inr (0, fs)) :: (wt ++ [(q, .inl (ca t0, a0))])) H1 from hP1) (show va_D A ((h0, .inr (0, fs)) :: (wt ++ [(q, .inl (ca t0, a0))])) from hD1) hS1 hlen hk w1 h1 h2 h3 (h4 q) (h5 q) hd2 (fun H2 locs2 hl2 hP2 hD2 hS2 => kk q H2 locs2 hl2 hP2 hD2 hS2)
/-- .. and is not -/
theorem m_arr (M : mC p s m args meth c dC dI ca A ls h0) (hP : va_P (dC, dI) classes ((h0, .inr (0, fs)) :: wt) H) (hD : va_D A ((h0, .inr (0, fs)) :: wt)) (hS : va_S A s.heap H locs) (hlen : fs.length = 132) {atype : ArrayType} {ty tf : FieldType} {n : Int32} {N' index k t0 : Nat} {a0 : vp_A} (hty : newarray.typeOf atype = ty) (wa : Cond.arrayClass ty ∈ wm) (ht0 : (ax_tys ca)[t0]? = some (ca t0, ty)) (hpr : ∀ C, ty ≠ .object C) (ha : ∀ cA : ClassId, vp_cell cA a0 = arrV cA N' (fun _ => defaultValue ty)) (hn : ¬ n < 0) (hN : n.toNatClampNeg = N') (hbytes : N' * componentBytes ty ≤ 536870912)
    (hk : k < 132) (w1 : Cond.fieldLink R_MM index "SourceBackModel" (F_MM k).2.1 (F_MM k).2.2.1 ∈ wm) (h1 : (F_MM k).1 = R_MM) (h2 : (F_MM k).2.2.2 = true) (h3 : parseFieldDescriptor (F_MM k).2.2.1 = some tf) (h4 : ∀ q, narrow tf (.ref q) = .ref q) (h5 : ∀ q, fits tf (.ref q) = true) (hc : cells + 1 ≤ R.cells) (hs : slots + N' ≤ R.slots) (hd1 : decode b_MM_init pc = .ok (.newarray atype, 2)) (hd2 : decode b_MM_init (pc + 2) = .ok (.putfield index, 3))
    (kk : ∀ (q : Nat) (H1 : Heap) (locs1 : List Loc), (fs.set k (.ref q)).length = 132 → va_P (dC, dI) classes ((h0, .inr (0, fs.set k (.ref q))) :: wt) H1 → va_D A ((h0, .inr (0, fs.set k (.ref q))) :: wt) → va_S A s.heap H1 locs1 → W p l e R s m args below meth c H1 locs1 (cells + 1) (slots + N') Q (F0 m (pc + 5) ls [])) : W p l e R s m args below meth c H locs cells slots Q (F0 m pc ls [.int n, .ref h0]) :=
  m_arrK M hP hD hS hlen hty wa ht0 hpr ha hn hN hbytes hk w1 h1 h2 h3 h4 h5 hc hs hd1 hd2 (fun q H1 locs1 hl1 hP1 hD1 hS1 => kk q H1 locs1 hl1 (va_drop1 (ws := (h0, .inr (0, fs.set k (.ref q))) :: wt) hP1) (va_drop2 (ws := (h0, .inr (0, fs.set k (.ref q))) :: wt) hD1) hS1)
/-- anewarray, putfield; the array is not kept -/
theorem m_refs (M : mC p s m args meth c dC dI ca A ls h0) (hP : va_P (dC, dI) classes ((h0, .inr (0, fs)) :: wt) H) (hD : va_D A ((h0, .inr (0, fs)) :: wt)) (hS : va_S A s.heap H locs) (hlen : fs.length = 132) {tf : FieldType} {C : String} {n : Int32} {N' index k ix : Nat} (wc : Cond.classLink R_MM ix C ∈ wm) (wo : C ∈ wm_ao) (hn : ¬ n < 0) (hN : n.toNatClampNeg = N') (hbytes : N' * 4 ≤ 536870912)
    (hk : k < 132) (w1 : Cond.fieldLink R_MM index "SourceBackModel" (F_MM k).2.1 (F_MM k).2.2.1 ∈ wm) (h1 : (F_MM k).1 = R_MM) (h2 : (F_MM k).2.2.2 = true) (h3 : parseFieldDescriptor (F_MM k).2.2.1 = some tf) (h4 : ∀ q, narrow tf (.ref q) = .ref q) (h5 : ∀ q, fits tf (.ref q) = true) (hc : cells + 1 ≤ R.cells) (hs : slots + N' ≤ R.slots) (hd1 : decode b_MM_init pc = .ok (.anewarray ix, 3)) (hd2 : decode b_MM_init (pc + 3) = .ok (.putfield index, 3))
    (kk : ∀ (q : Nat) (H1 : Heap) (locs1 : List Loc), (fs.set k (.ref q)).length = 132 → va_P (dC, dI) classes ((h0, .inr (0, fs.set k (.ref q))) :: wt) H1 → va_D A ((h0, .inr (0, fs.set k (.ref q))) :: wt) → va_S A s.heap H1 locs1 → W p l e R s m args below meth c H1 locs1 (cells + 1) (slots + N') Q (F0 m (pc + 6) ls [])) : W p l e R s m args below meth c H locs cells slots Q (F0 m pc ls [.int n, .ref h0]) := by
  obtain ⟨hx, hb, hml, hown, hts, hin, hK, hA, hl⟩ := id M
  refine ax_newq hx hb hown (hts _ wc) (hK.2.2 _ wo) hK.1 hP hD hS hA hn hN hbytes hc hs hd1 (fun q H1 hP1 hD1 hS1 => ?_)
  exact m_put M hP1 hD1 hS1 hlen hk w1 h1 h2 h3 (h4 q) (h5 q) hd2 (fun H2 locs2 hl2 hP2 hD2 hS2 => kk q H2 locs2 hl2 hP2 hD2 hS2)
/-- new of a class whose constructor has been walked, its arguments, the call, putfield: what the constructor made is kept or not -/
theorem m_new (M : mC p s m args meth c dC dI ca A ls h0) (hP : va_P (dC, dI) classes ((h0, .inr (0, fs)) :: wt) H) (hD : va_D A ((h0, .inr (0, fs)) :: wt)) (hS : va_S A s.heap H locs) {C : String} {T : u_T} {N ci ix : Nat} {ty0 : Nat → FieldType} {f0 : List Value} (hin9 : ∀ w ∈ u_ws C T N, w ∈ wm) (hty : ∀ k, k < N → parseFieldDescriptor (T k).2.2.1 = some (ty0 k)) (wc : Cond.classLink R_MM ix C ∈ wm) (wi : Cond.instantiable C N ∈ wm) (wz : Cond.initialized C ∈ wm) (hcl : classes[ci]? = some (C, T, N)) (hf0 : ∀ j, j < N → defaultValue (ty0 j) = vp_V f0 j) (hc : cells + 1 ≤ R.cells) (hs : slots + N ≤ R.slots) (hd1 : decode b_MM_init pc = .ok (.new ix, 3)) (hd2 : decode b_MM_init (pc + 3) = .ok (.dup, 1))
    (kk : ∀ (q : Nat) (H1 : Heap), va_P (dC, dI) classes ((h0, .inr (0, fs)) :: (wt ++ [(q, .inr (ci, f0))])) H1 → va_D A ((h0, .inr (0, fs)) :: (wt ++ [(q, .inr (ci, f0))])) → va_S A s.heap H1 locs → W p l e R s m args below meth c H1 locs (cells + 1) (slots + N) Q (F0 m (pc + 4) ls [.ref q, .ref q, .ref h0])) : W p l e R s m args below meth c H locs cells slots Q (F0 m pc ls [.ref h0]) := by
  obtain ⟨hx, hb, hml, hown, hts, hin, hK, hA, hl⟩ := id M
  refine va_new (ci := ci) (fs := f0) (C := C) (T := T) (N := N) hx hb hts hin9 ty0 hty hown (hts _ wc) (hts _ wi) (hts _ wz) hK.1 hP hD hS hA hcl hf0 hc hs hd1 (fun q H1 hP1 hD1 hS1 => ?_)
  refine lv_dup hx hb hd2 rfl ?_
  exact kk q H1 hP1 hD1 hS1
end AXM
theorem m_a_byte (n : Nat) (cA : ClassId) : vp_cell cA (n, .inl (fun _ => 0)) = arrV cA n (fun _ => defaultValue .byte) := rfl
theorem m_a_int (n : Nat) (cA : ClassId) : vp_cell cA (n, .inl (fun _ => 0)) = arrV cA n (fun _ => defaultValue .int) := rfl
theorem m_a_boolean (n : Nat) (cA : ClassId) : vp_cell cA (n, .inl (fun _ => 0)) = arrV cA n (fun _ => defaultValue .boolean) := rfl
theorem m_a_long (n : Nat) (cA : ClassId) : vp_cell cA (n, .inr (.inl (fun _ => 0))) = arrV cA n (fun _ => defaultValue .long) := rfl
end
section
/-- the cells of a fresh reference -/
abbrev mW (ca : Nat → ClassId) (h0 : Nat) (q : Nat → Nat) (hf : List Value) (qa : Nat) : va_W := [(h0, .inr (0, mF q 0)), (q 1, .inr (1, hf)), (q 2, .inr (2, [.ref qa, .int 0])), (qa, .inl (ca 0, 16, .inl (fun _ => 0))), (q 12, .inl (ca 4, 148, .inr (.inr (.inr (.inr (fun _ => none)))))), (q 110, .inl (ca 1, 2, .inl (fun _ => 0))), (q 111, .inl (ca 2, 2, .inr (.inl (fun _ => 0)))), (q 112, .inl (ca 1, 2, .inl (fun _ => 0))), (q 113, .inl (ca 2, 2, .inr (.inl (fun _ => 0)))), (q 114, .inl (ca 2, 2, .inr (.inl (fun _ => 0)))), (q 117, .inl (ca 1, 2, .inl (fun _ => 0))), (q 118, .inl (ca 1, 2, .inl (fun _ => 0))), (q 120, .inl (ca 1, 8000, .inl (fun _ => 0))), (q 122, .inl (ca 1, 2, .inl (fun _ => 0)))]
theorem d_MM_init_0 : decode b_MM_init 0 = .ok (.aload_n 0, 1) := by decide +kernel
theorem d_MM_init_1 : decode b_MM_init 1 = .ok (.invokespecial 1, 3) := by decide +kernel
theorem d_MM_init_4 : decode b_MM_init 4 = .ok (.aload_n 0, 1) := by decide +kernel
theorem d_MM_init_5 : decode b_MM_init 5 = .ok (.new 7, 3) := by decide +kernel
theorem d_MM_init_8 : decode b_MM_init 8 = .ok (.dup, 1) := by decide +kernel
theorem d_MM_init_9 : decode b_MM_init 9 = .ok (.invokespecial 9, 3) := by decide +kernel
theorem d_MM_init_12 : decode b_MM_init 12 = .ok (.putfield 10, 3) := by decide +kernel
theorem d_MM_init_15 : decode b_MM_init 15 = .ok (.aload_n 0, 1) := by decide +kernel
theorem d_MM_init_16 : decode b_MM_init 16 = .ok (.new 16, 3) := by decide +kernel
theorem d_MM_init_19 : decode b_MM_init 19 = .ok (.dup, 1) := by decide +kernel
theorem d_MM_init_20 : decode b_MM_init 20 = .ok (.invokespecial 18, 3) := by decide +kernel
theorem d_MM_init_23 : decode b_MM_init 23 = .ok (.putfield 19, 3) := by decide +kernel
theorem d_MM_init_26 : decode b_MM_init 26 = .ok (.aload_n 0, 1) := by decide +kernel
theorem d_MM_init_27 : decode b_MM_init 27 = .ok (.new 16, 3) := by decide +kernel
theorem d_MM_init_30 : decode b_MM_init 30 = .ok (.dup, 1) := by decide +kernel
theorem d_MM_init_31 : decode b_MM_init 31 = .ok (.invokespecial 18, 3) := by decide +kernel
theorem d_MM_init_34 : decode b_MM_init 34 = .ok (.putfield 23, 3) := by decide +kernel
theorem d_MM_init_37 : decode b_MM_init 37 = .ok (.aload_n 0, 1) := by decide +kernel
theorem d_MM_init_38 : decode b_MM_init 38 = .ok (.new 26, 3) := by decide +kernel
theorem d_MM_init_41 : decode b_MM_init 41 = .ok (.dup, 1) := by decide +kernel
theorem d_MM_init_42 : decode b_MM_init 42 = .ok (.iconst 4, 1) := by decide +kernel
theorem d_MM_init_43 : decode b_MM_init 43 = .ok (.invokespecial 28, 3) := by decide +kernel
theorem d_MM_init_46 : decode b_MM_init 46 = .ok (.putfield 31, 3) := by decide +kernel
theorem d_MM_init_49 : decode b_MM_init 49 = .ok (.aload_n 0, 1) := by decide +kernel
theorem d_MM_init_50 : decode b_MM_init 50 = .ok (.new 26, 3) := by decide +kernel
theorem d_MM_init_53 : decode b_MM_init 53 = .ok (.dup, 1) := by decide +kernel
theorem d_MM_init_54 : decode b_MM_init 54 = .ok (.iconst 4, 1) := by decide +kernel
theorem d_MM_init_55 : decode b_MM_init 55 = .ok (.invokespecial 28, 3) := by decide +kernel
theorem d_MM_init_58 : decode b_MM_init 58 = .ok (.putfield 35, 3) := by decide +kernel
theorem d_MM_init_61 : decode b_MM_init 61 = .ok (.aload_n 0, 1) := by decide +kernel
theorem d_MM_init_62 : decode b_MM_init 62 = .ok (.bipush 16, 2) := by decide +kernel
theorem d_MM_init_64 : decode b_MM_init 64 = .ok (.anewarray 38, 3) := by decide +kernel
theorem d_MM_init_67 : decode b_MM_init 67 = .ok (.putfield 40, 3) := by decide +kernel
theorem d_MM_init_70 : decode b_MM_init 70 = .ok (.aload_n 0, 1) := by decide +kernel
theorem d_MM_init_71 : decode b_MM_init 71 = .ok (.sipush 128, 3) := by decide +kernel
theorem d_MM_init_74 : decode b_MM_init 74 = .ok (.anewarray 38, 3) := by decide +kernel
theorem d_MM_init_77 : decode b_MM_init 77 = .ok (.putfield 44, 3) := by decide +kernel
theorem d_MM_init_80 : decode b_MM_init 80 = .ok (.aload_n 0, 1) := by decide +kernel
theorem d_MM_init_81 : decode b_MM_init 81 = .ok (.bipush 16, 2) := by decide +kernel
theorem d_MM_init_83 : decode b_MM_init 83 = .ok (.newarray .int, 2) := by decide +kernel
theorem d_MM_init_85 : decode b_MM_init 85 = .ok (.putfield 47, 3) := by decide +kernel
theorem d_MM_init_88 : decode b_MM_init 88 = .ok (.aload_n 0, 1) := by decide +kernel
theorem d_MM_init_89 : decode b_MM_init 89 = .ok (.sipush 148, 3) := by decide +kernel
theorem d_MM_init_92 : decode b_MM_init 92 = .ok (.anewarray 38, 3) := by decide +kernel
theorem d_MM_init_95 : decode b_MM_init 95 = .ok (.putfield 51, 3) := by decide +kernel
theorem d_MM_init_98 : decode b_MM_init 98 = .ok (.aload_n 0, 1) := by decide +kernel
theorem d_MM_init_99 : decode b_MM_init 99 = .ok (.new 26, 3) := by decide +kernel
theorem d_MM_init_102 : decode b_MM_init 102 = .ok (.dup, 1) := by decide +kernel
theorem d_MM_init_103 : decode b_MM_init 103 = .ok (.iconst 4, 1) := by decide +kernel
theorem d_MM_init_104 : decode b_MM_init 104 = .ok (.invokespecial 28, 3) := by decide +kernel
theorem d_MM_init_107 : decode b_MM_init 107 = .ok (.putfield 54, 3) := by decide +kernel
theorem d_MM_init_110 : decode b_MM_init 110 = .ok (.aload_n 0, 1) := by decide +kernel
theorem d_MM_init_111 : decode b_MM_init 111 = .ok (.new 57, 3) := by decide +kernel
theorem d_MM_init_114 : decode b_MM_init 114 = .ok (.dup, 1) := by decide +kernel
theorem d_MM_init_115 : decode b_MM_init 115 = .ok (.iconst 4, 1) := by decide +kernel
theorem d_MM_init_116 : decode b_MM_init 116 = .ok (.iconst 4, 1) := by decide +kernel
theorem d_MM_init_117 : decode b_MM_init 117 = .ok (.invokespecial 59, 3) := by decide +kernel
theorem d_MM_init_120 : decode b_MM_init 120 = .ok (.putfield 62, 3) := by decide +kernel
theorem d_MM_init_123 : decode b_MM_init 123 = .ok (.aload_n 0, 1) := by decide +kernel
theorem d_MM_init_124 : decode b_MM_init 124 = .ok (.ldc 66, 2) := by decide +kernel
theorem d_MM_init_126 : decode b_MM_init 126 = .ok (.newarray .byte, 2) := by decide +kernel
theorem d_MM_init_128 : decode b_MM_init 128 = .ok (.putfield 67, 3) := by decide +kernel
theorem d_MM_init_131 : decode b_MM_init 131 = .ok (.aload_n 0, 1) := by decide +kernel
theorem d_MM_init_132 : decode b_MM_init 132 = .ok (.ldc 71, 2) := by decide +kernel
theorem d_MM_init_134 : decode b_MM_init 134 = .ok (.newarray .byte, 2) := by decide +kernel
theorem d_MM_init_136 : decode b_MM_init 136 = .ok (.putfield 72, 3) := by decide +kernel
theorem d_MM_init_139 : decode b_MM_init 139 = .ok (.aload_n 0, 1) := by decide +kernel
theorem d_MM_init_140 : decode b_MM_init 140 = .ok (.sipush 4000, 3) := by decide +kernel
theorem d_MM_init_143 : decode b_MM_init 143 = .ok (.newarray .int, 2) := by decide +kernel
theorem d_MM_init_145 : decode b_MM_init 145 = .ok (.putfield 75, 3) := by decide +kernel
theorem d_MM_init_148 : decode b_MM_init 148 = .ok (.aload_n 0, 1) := by decide +kernel
theorem d_MM_init_149 : decode b_MM_init 149 = .ok (.bipush 60, 2) := by decide +kernel
theorem d_MM_init_151 : decode b_MM_init 151 = .ok (.newarray .byte, 2) := by decide +kernel
theorem d_MM_init_153 : decode b_MM_init 153 = .ok (.putfield 78, 3) := by decide +kernel
theorem d_MM_init_156 : decode b_MM_init 156 = .ok (.aload_n 0, 1) := by decide +kernel
theorem d_MM_init_157 : decode b_MM_init 157 = .ok (.bipush 80, 2) := by decide +kernel
theorem d_MM_init_159 : decode b_MM_init 159 = .ok (.newarray .byte, 2) := by decide +kernel
theorem d_MM_init_161 : decode b_MM_init 161 = .ok (.putfield 81, 3) := by decide +kernel
theorem d_MM_init_164 : decode b_MM_init 164 = .ok (.aload_n 0, 1) := by decide +kernel
theorem d_MM_init_165 : decode b_MM_init 165 = .ok (.sipush 4001, 3) := by decide +kernel
theorem d_MM_init_168 : decode b_MM_init 168 = .ok (.newarray .boolean, 2) := by decide +kernel
theorem d_MM_init_170 : decode b_MM_init 170 = .ok (.putfield 84, 3) := by decide +kernel
theorem d_MM_init_173 : decode b_MM_init 173 = .ok (.aload_n 0, 1) := by decide +kernel
theorem d_MM_init_174 : decode b_MM_init 174 = .ok (.sipush 4000, 3) := by decide +kernel
theorem d_MM_init_177 : decode b_MM_init 177 = .ok (.newarray .int, 2) := by decide +kernel
theorem d_MM_init_179 : decode b_MM_init 179 = .ok (.putfield 88, 3) := by decide +kernel
theorem d_MM_init_182 : decode b_MM_init 182 = .ok (.aload_n 0, 1) := by decide +kernel
theorem d_MM_init_183 : decode b_MM_init 183 = .ok (.sipush 4000, 3) := by decide +kernel
theorem d_MM_init_186 : decode b_MM_init 186 = .ok (.newarray .int, 2) := by decide +kernel
theorem d_MM_init_188 : decode b_MM_init 188 = .ok (.putfield 91, 3) := by decide +kernel
theorem d_MM_init_191 : decode b_MM_init 191 = .ok (.aload_n 0, 1) := by decide +kernel
theorem d_MM_init_192 : decode b_MM_init 192 = .ok (.sipush 4000, 3) := by decide +kernel
theorem d_MM_init_195 : decode b_MM_init 195 = .ok (.newarray .int, 2) := by decide +kernel
theorem d_MM_init_197 : decode b_MM_init 197 = .ok (.putfield 94, 3) := by decide +kernel
theorem d_MM_init_200 : decode b_MM_init 200 = .ok (.aload_n 0, 1) := by decide +kernel
theorem d_MM_init_201 : decode b_MM_init 201 = .ok (.sipush 4000, 3) := by decide +kernel
theorem d_MM_init_204 : decode b_MM_init 204 = .ok (.newarray .int, 2) := by decide +kernel
theorem d_MM_init_206 : decode b_MM_init 206 = .ok (.putfield 97, 3) := by decide +kernel
theorem d_MM_init_209 : decode b_MM_init 209 = .ok (.aload_n 0, 1) := by decide +kernel
theorem d_MM_init_210 : decode b_MM_init 210 = .ok (.sipush 4000, 3) := by decide +kernel
theorem d_MM_init_213 : decode b_MM_init 213 = .ok (.newarray .boolean, 2) := by decide +kernel
theorem d_MM_init_215 : decode b_MM_init 215 = .ok (.putfield 100, 3) := by decide +kernel
theorem d_MM_init_218 : decode b_MM_init 218 = .ok (.aload_n 0, 1) := by decide +kernel
theorem d_MM_init_219 : decode b_MM_init 219 = .ok (.sipush 4000, 3) := by decide +kernel
theorem d_MM_init_222 : decode b_MM_init 222 = .ok (.newarray .boolean, 2) := by decide +kernel
theorem d_MM_init_224 : decode b_MM_init 224 = .ok (.putfield 103, 3) := by decide +kernel
theorem d_MM_init_227 : decode b_MM_init 227 = .ok (.aload_n 0, 1) := by decide +kernel
theorem d_MM_init_228 : decode b_MM_init 228 = .ok (.sipush 4001, 3) := by decide +kernel
theorem d_MM_init_231 : decode b_MM_init 231 = .ok (.newarray .int, 2) := by decide +kernel
theorem d_MM_init_233 : decode b_MM_init 233 = .ok (.putfield 106, 3) := by decide +kernel
theorem d_MM_init_236 : decode b_MM_init 236 = .ok (.aload_n 0, 1) := by decide +kernel
theorem d_MM_init_237 : decode b_MM_init 237 = .ok (.new 26, 3) := by decide +kernel
theorem d_MM_init_240 : decode b_MM_init 240 = .ok (.dup, 1) := by decide +kernel
theorem d_MM_init_241 : decode b_MM_init 241 = .ok (.iconst 4, 1) := by decide +kernel
theorem d_MM_init_242 : decode b_MM_init 242 = .ok (.invokespecial 28, 3) := by decide +kernel
theorem d_MM_init_245 : decode b_MM_init 245 = .ok (.putfield 109, 3) := by decide +kernel
theorem d_MM_init_248 : decode b_MM_init 248 = .ok (.aload_n 0, 1) := by decide +kernel
theorem d_MM_init_249 : decode b_MM_init 249 = .ok (.new 26, 3) := by decide +kernel
theorem d_MM_init_252 : decode b_MM_init 252 = .ok (.dup, 1) := by decide +kernel
theorem d_MM_init_253 : decode b_MM_init 253 = .ok (.iconst 4, 1) := by decide +kernel
theorem d_MM_init_254 : decode b_MM_init 254 = .ok (.invokespecial 28, 3) := by decide +kernel
theorem d_MM_init_257 : decode b_MM_init 257 = .ok (.putfield 112, 3) := by decide +kernel
theorem d_MM_init_260 : decode b_MM_init 260 = .ok (.aload_n 0, 1) := by decide +kernel
theorem d_MM_init_261 : decode b_MM_init 261 = .ok (.new 26, 3) := by decide +kernel
theorem d_MM_init_264 : decode b_MM_init 264 = .ok (.dup, 1) := by decide +kernel
theorem d_MM_init_265 : decode b_MM_init 265 = .ok (.iconst 4, 1) := by decide +kernel
theorem d_MM_init_266 : decode b_MM_init 266 = .ok (.invokespecial 28, 3) := by decide +kernel
theorem d_MM_init_269 : decode b_MM_init 269 = .ok (.putfield 115, 3) := by decide +kernel
theorem d_MM_init_272 : decode b_MM_init 272 = .ok (.aload_n 0, 1) := by decide +kernel
theorem d_MM_init_273 : decode b_MM_init 273 = .ok (.new 26, 3) := by decide +kernel
theorem d_MM_init_276 : decode b_MM_init 276 = .ok (.dup, 1) := by decide +kernel
theorem d_MM_init_277 : decode b_MM_init 277 = .ok (.iconst 4, 1) := by decide +kernel
theorem d_MM_init_278 : decode b_MM_init 278 = .ok (.invokespecial 28, 3) := by decide +kernel
theorem d_MM_init_281 : decode b_MM_init 281 = .ok (.putfield 118, 3) := by decide +kernel
theorem d_MM_init_284 : decode b_MM_init 284 = .ok (.aload_n 0, 1) := by decide +kernel
theorem d_MM_init_285 : decode b_MM_init 285 = .ok (.new 26, 3) := by decide +kernel
theorem d_MM_init_288 : decode b_MM_init 288 = .ok (.dup, 1) := by decide +kernel
theorem d_MM_init_289 : decode b_MM_init 289 = .ok (.iconst 4, 1) := by decide +kernel
theorem d_MM_init_290 : decode b_MM_init 290 = .ok (.invokespecial 28, 3) := by decide +kernel
theorem d_MM_init_293 : decode b_MM_init 293 = .ok (.putfield 121, 3) := by decide +kernel
theorem d_MM_init_296 : decode b_MM_init 296 = .ok (.aload_n 0, 1) := by decide +kernel
theorem d_MM_init_297 : decode b_MM_init 297 = .ok (.sipush 4000, 3) := by decide +kernel
theorem d_MM_init_300 : decode b_MM_init 300 = .ok (.newarray .int, 2) := by decide +kernel
theorem d_MM_init_302 : decode b_MM_init 302 = .ok (.putfield 124, 3) := by decide +kernel
theorem d_MM_init_305 : decode b_MM_init 305 = .ok (.aload_n 0, 1) := by decide +kernel
theorem d_MM_init_306 : decode b_MM_init 306 = .ok (.new 26, 3) := by decide +kernel
theorem d_MM_init_309 : decode b_MM_init 309 = .ok (.dup, 1) := by decide +kernel
theorem d_MM_init_310 : decode b_MM_init 310 = .ok (.iconst 4, 1) := by decide +kernel
theorem d_MM_init_311 : decode b_MM_init 311 = .ok (.invokespecial 28, 3) := by decide +kernel
theorem d_MM_init_314 : decode b_MM_init 314 = .ok (.putfield 127, 3) := by decide +kernel
theorem d_MM_init_317 : decode b_MM_init 317 = .ok (.aload_n 0, 1) := by decide +kernel
theorem d_MM_init_318 : decode b_MM_init 318 = .ok (.new 26, 3) := by decide +kernel
theorem d_MM_init_321 : decode b_MM_init 321 = .ok (.dup, 1) := by decide +kernel
theorem d_MM_init_322 : decode b_MM_init 322 = .ok (.iconst 4, 1) := by decide +kernel
theorem d_MM_init_323 : decode b_MM_init 323 = .ok (.invokespecial 28, 3) := by decide +kernel
theorem d_MM_init_326 : decode b_MM_init 326 = .ok (.putfield 130, 3) := by decide +kernel
theorem d_MM_init_329 : decode b_MM_init 329 = .ok (.aload_n 0, 1) := by decide +kernel
theorem d_MM_init_330 : decode b_MM_init 330 = .ok (.new 26, 3) := by decide +kernel
theorem d_MM_init_333 : decode b_MM_init 333 = .ok (.dup, 1) := by decide +kernel
theorem d_MM_init_334 : decode b_MM_init 334 = .ok (.iconst 4, 1) := by decide +kernel
theorem d_MM_init_335 : decode b_MM_init 335 = .ok (.invokespecial 28, 3) := by decide +kernel
theorem d_MM_init_338 : decode b_MM_init 338 = .ok (.putfield 133, 3) := by decide +kernel
theorem d_MM_init_341 : decode b_MM_init 341 = .ok (.aload_n 0, 1) := by decide +kernel
theorem d_MM_init_342 : decode b_MM_init 342 = .ok (.new 26, 3) := by decide +kernel
theorem d_MM_init_345 : decode b_MM_init 345 = .ok (.dup, 1) := by decide +kernel
theorem d_MM_init_346 : decode b_MM_init 346 = .ok (.iconst 4, 1) := by decide +kernel
theorem d_MM_init_347 : decode b_MM_init 347 = .ok (.invokespecial 28, 3) := by decide +kernel
theorem d_MM_init_350 : decode b_MM_init 350 = .ok (.putfield 136, 3) := by decide +kernel
theorem d_MM_init_353 : decode b_MM_init 353 = .ok (.aload_n 0, 1) := by decide +kernel
theorem d_MM_init_354 : decode b_MM_init 354 = .ok (.new 139, 3) := by decide +kernel
theorem d_MM_init_357 : decode b_MM_init 357 = .ok (.dup, 1) := by decide +kernel
theorem d_MM_init_358 : decode b_MM_init 358 = .ok (.iconst 4, 1) := by decide +kernel
theorem d_MM_init_359 : decode b_MM_init 359 = .ok (.invokespecial 141, 3) := by decide +kernel
theorem d_MM_init_362 : decode b_MM_init 362 = .ok (.putfield 142, 3) := by decide +kernel
theorem d_MM_init_365 : decode b_MM_init 365 = .ok (.aload_n 0, 1) := by decide +kernel
theorem d_MM_init_366 : decode b_MM_init 366 = .ok (.new 26, 3) := by decide +kernel
theorem d_MM_init_369 : decode b_MM_init 369 = .ok (.dup, 1) := by decide +kernel
theorem d_MM_init_370 : decode b_MM_init 370 = .ok (.iconst 4, 1) := by decide +kernel
theorem d_MM_init_371 : decode b_MM_init 371 = .ok (.invokespecial 28, 3) := by decide +kernel
theorem d_MM_init_374 : decode b_MM_init 374 = .ok (.putfield 146, 3) := by decide +kernel
theorem d_MM_init_377 : decode b_MM_init 377 = .ok (.aload_n 0, 1) := by decide +kernel
theorem d_MM_init_378 : decode b_MM_init 378 = .ok (.new 26, 3) := by decide +kernel
theorem d_MM_init_381 : decode b_MM_init 381 = .ok (.dup, 1) := by decide +kernel
theorem d_MM_init_382 : decode b_MM_init 382 = .ok (.iconst 4, 1) := by decide +kernel
theorem d_MM_init_383 : decode b_MM_init 383 = .ok (.invokespecial 28, 3) := by decide +kernel
theorem d_MM_init_386 : decode b_MM_init 386 = .ok (.putfield 149, 3) := by decide +kernel
theorem d_MM_init_389 : decode b_MM_init 389 = .ok (.aload_n 0, 1) := by decide +kernel
theorem d_MM_init_390 : decode b_MM_init 390 = .ok (.new 26, 3) := by decide +kernel
theorem d_MM_init_393 : decode b_MM_init 393 = .ok (.dup, 1) := by decide +kernel
theorem d_MM_init_394 : decode b_MM_init 394 = .ok (.iconst 4, 1) := by decide +kernel
theorem d_MM_init_395 : decode b_MM_init 395 = .ok (.invokespecial 28, 3) := by decide +kernel
theorem d_MM_init_398 : decode b_MM_init 398 = .ok (.putfield 152, 3) := by decide +kernel
theorem d_MM_init_401 : decode b_MM_init 401 = .ok (.aload_n 0, 1) := by decide +kernel
theorem d_MM_init_402 : decode b_MM_init 402 = .ok (.new 26, 3) := by decide +kernel
theorem d_MM_init_405 : decode b_MM_init 405 = .ok (.dup, 1) := by decide +kernel
theorem d_MM_init_406 : decode b_MM_init 406 = .ok (.iconst 4, 1) := by decide +kernel
theorem d_MM_init_407 : decode b_MM_init 407 = .ok (.invokespecial 28, 3) := by decide +kernel
theorem d_MM_init_410 : decode b_MM_init 410 = .ok (.putfield 155, 3) := by decide +kernel
theorem d_MM_init_413 : decode b_MM_init 413 = .ok (.aload_n 0, 1) := by decide +kernel
theorem d_MM_init_414 : decode b_MM_init 414 = .ok (.new 26, 3) := by decide +kernel
theorem d_MM_init_417 : decode b_MM_init 417 = .ok (.dup, 1) := by decide +kernel
theorem d_MM_init_418 : decode b_MM_init 418 = .ok (.iconst 4, 1) := by decide +kernel
theorem d_MM_init_419 : decode b_MM_init 419 = .ok (.invokespecial 28, 3) := by decide +kernel
theorem d_MM_init_422 : decode b_MM_init 422 = .ok (.putfield 158, 3) := by decide +kernel
theorem d_MM_init_425 : decode b_MM_init 425 = .ok (.aload_n 0, 1) := by decide +kernel
theorem d_MM_init_426 : decode b_MM_init 426 = .ok (.new 26, 3) := by decide +kernel
theorem d_MM_init_429 : decode b_MM_init 429 = .ok (.dup, 1) := by decide +kernel
theorem d_MM_init_430 : decode b_MM_init 430 = .ok (.iconst 4, 1) := by decide +kernel
theorem d_MM_init_431 : decode b_MM_init 431 = .ok (.invokespecial 28, 3) := by decide +kernel
theorem d_MM_init_434 : decode b_MM_init 434 = .ok (.putfield 161, 3) := by decide +kernel
theorem d_MM_init_437 : decode b_MM_init 437 = .ok (.aload_n 0, 1) := by decide +kernel
theorem d_MM_init_438 : decode b_MM_init 438 = .ok (.new 139, 3) := by decide +kernel
theorem d_MM_init_441 : decode b_MM_init 441 = .ok (.dup, 1) := by decide +kernel
theorem d_MM_init_442 : decode b_MM_init 442 = .ok (.iconst 4, 1) := by decide +kernel
theorem d_MM_init_443 : decode b_MM_init 443 = .ok (.invokespecial 141, 3) := by decide +kernel
theorem d_MM_init_446 : decode b_MM_init 446 = .ok (.putfield 164, 3) := by decide +kernel
theorem d_MM_init_449 : decode b_MM_init 449 = .ok (.aload_n 0, 1) := by decide +kernel
theorem d_MM_init_450 : decode b_MM_init 450 = .ok (.new 26, 3) := by decide +kernel
theorem d_MM_init_453 : decode b_MM_init 453 = .ok (.dup, 1) := by decide +kernel
theorem d_MM_init_454 : decode b_MM_init 454 = .ok (.iconst 4, 1) := by decide +kernel
theorem d_MM_init_455 : decode b_MM_init 455 = .ok (.invokespecial 28, 3) := by decide +kernel
theorem d_MM_init_458 : decode b_MM_init 458 = .ok (.putfield 167, 3) := by decide +kernel
theorem d_MM_init_461 : decode b_MM_init 461 = .ok (.aload_n 0, 1) := by decide +kernel
theorem d_MM_init_462 : decode b_MM_init 462 = .ok (.new 26, 3) := by decide +kernel
theorem d_MM_init_465 : decode b_MM_init 465 = .ok (.dup, 1) := by decide +kernel
theorem d_MM_init_466 : decode b_MM_init 466 = .ok (.iconst 4, 1) := by decide +kernel
theorem d_MM_init_467 : decode b_MM_init 467 = .ok (.invokespecial 28, 3) := by decide +kernel
theorem d_MM_init_470 : decode b_MM_init 470 = .ok (.putfield 170, 3) := by decide +kernel
theorem d_MM_init_473 : decode b_MM_init 473 = .ok (.aload_n 0, 1) := by decide +kernel
theorem d_MM_init_474 : decode b_MM_init 474 = .ok (.new 26, 3) := by decide +kernel
theorem d_MM_init_477 : decode b_MM_init 477 = .ok (.dup, 1) := by decide +kernel
theorem d_MM_init_478 : decode b_MM_init 478 = .ok (.iconst 4, 1) := by decide +kernel
theorem d_MM_init_479 : decode b_MM_init 479 = .ok (.invokespecial 28, 3) := by decide +kernel
theorem d_MM_init_482 : decode b_MM_init 482 = .ok (.putfield 173, 3) := by decide +kernel
theorem d_MM_init_485 : decode b_MM_init 485 = .ok (.aload_n 0, 1) := by decide +kernel
theorem d_MM_init_486 : decode b_MM_init 486 = .ok (.new 26, 3) := by decide +kernel
theorem d_MM_init_489 : decode b_MM_init 489 = .ok (.dup, 1) := by decide +kernel
theorem d_MM_init_490 : decode b_MM_init 490 = .ok (.iconst 4, 1) := by decide +kernel
theorem d_MM_init_491 : decode b_MM_init 491 = .ok (.invokespecial 28, 3) := by decide +kernel
theorem d_MM_init_494 : decode b_MM_init 494 = .ok (.putfield 176, 3) := by decide +kernel
theorem d_MM_init_497 : decode b_MM_init 497 = .ok (.aload_n 0, 1) := by decide +kernel
theorem d_MM_init_498 : decode b_MM_init 498 = .ok (.new 26, 3) := by decide +kernel
theorem d_MM_init_501 : decode b_MM_init 501 = .ok (.dup, 1) := by decide +kernel
theorem d_MM_init_502 : decode b_MM_init 502 = .ok (.iconst 4, 1) := by decide +kernel
theorem d_MM_init_503 : decode b_MM_init 503 = .ok (.invokespecial 28, 3) := by decide +kernel
theorem d_MM_init_506 : decode b_MM_init 506 = .ok (.putfield 179, 3) := by decide +kernel
theorem d_MM_init_509 : decode b_MM_init 509 = .ok (.aload_n 0, 1) := by decide +kernel
theorem d_MM_init_510 : decode b_MM_init 510 = .ok (.new 26, 3) := by decide +kernel
theorem d_MM_init_513 : decode b_MM_init 513 = .ok (.dup, 1) := by decide +kernel
theorem d_MM_init_514 : decode b_MM_init 514 = .ok (.iconst 4, 1) := by decide +kernel
theorem d_MM_init_515 : decode b_MM_init 515 = .ok (.invokespecial 28, 3) := by decide +kernel
theorem d_MM_init_518 : decode b_MM_init 518 = .ok (.putfield 182, 3) := by decide +kernel
theorem d_MM_init_521 : decode b_MM_init 521 = .ok (.aload_n 0, 1) := by decide +kernel
theorem d_MM_init_522 : decode b_MM_init 522 = .ok (.new 26, 3) := by decide +kernel
theorem d_MM_init_525 : decode b_MM_init 525 = .ok (.dup, 1) := by decide +kernel
theorem d_MM_init_526 : decode b_MM_init 526 = .ok (.iconst 4, 1) := by decide +kernel
theorem d_MM_init_527 : decode b_MM_init 527 = .ok (.invokespecial 28, 3) := by decide +kernel
theorem d_MM_init_530 : decode b_MM_init 530 = .ok (.putfield 185, 3) := by decide +kernel
theorem d_MM_init_533 : decode b_MM_init 533 = .ok (.aload_n 0, 1) := by decide +kernel
theorem d_MM_init_534 : decode b_MM_init 534 = .ok (.new 139, 3) := by decide +kernel
theorem d_MM_init_537 : decode b_MM_init 537 = .ok (.dup, 1) := by decide +kernel
theorem d_MM_init_538 : decode b_MM_init 538 = .ok (.iconst 4, 1) := by decide +kernel
theorem d_MM_init_539 : decode b_MM_init 539 = .ok (.invokespecial 141, 3) := by decide +kernel
theorem d_MM_init_542 : decode b_MM_init 542 = .ok (.putfield 188, 3) := by decide +kernel
theorem d_MM_init_545 : decode b_MM_init 545 = .ok (.aload_n 0, 1) := by decide +kernel
theorem d_MM_init_546 : decode b_MM_init 546 = .ok (.bipush 80, 2) := by decide +kernel
theorem d_MM_init_548 : decode b_MM_init 548 = .ok (.newarray .int, 2) := by decide +kernel
theorem d_MM_init_550 : decode b_MM_init 550 = .ok (.putfield 191, 3) := by decide +kernel
theorem d_MM_init_553 : decode b_MM_init 553 = .ok (.aload_n 0, 1) := by decide +kernel
theorem d_MM_init_554 : decode b_MM_init 554 = .ok (.new 26, 3) := by decide +kernel
theorem d_MM_init_557 : decode b_MM_init 557 = .ok (.dup, 1) := by decide +kernel
theorem d_MM_init_558 : decode b_MM_init 558 = .ok (.iconst 4, 1) := by decide +kernel
theorem d_MM_init_559 : decode b_MM_init 559 = .ok (.invokespecial 28, 3) := by decide +kernel
theorem d_MM_init_562 : decode b_MM_init 562 = .ok (.putfield 194, 3) := by decide +kernel
theorem d_MM_init_565 : decode b_MM_init 565 = .ok (.aload_n 0, 1) := by decide +kernel
theorem d_MM_init_566 : decode b_MM_init 566 = .ok (.new 26, 3) := by decide +kernel
theorem d_MM_init_569 : decode b_MM_init 569 = .ok (.dup, 1) := by decide +kernel
theorem d_MM_init_570 : decode b_MM_init 570 = .ok (.iconst 4, 1) := by decide +kernel
theorem d_MM_init_571 : decode b_MM_init 571 = .ok (.invokespecial 28, 3) := by decide +kernel
theorem d_MM_init_574 : decode b_MM_init 574 = .ok (.putfield 197, 3) := by decide +kernel
theorem d_MM_init_577 : decode b_MM_init 577 = .ok (.aload_n 0, 1) := by decide +kernel
theorem d_MM_init_578 : decode b_MM_init 578 = .ok (.bipush 120, 2) := by decide +kernel
theorem d_MM_init_580 : decode b_MM_init 580 = .ok (.newarray .boolean, 2) := by decide +kernel
theorem d_MM_init_582 : decode b_MM_init 582 = .ok (.putfield 200, 3) := by decide +kernel
theorem d_MM_init_585 : decode b_MM_init 585 = .ok (.aload_n 0, 1) := by decide +kernel
theorem d_MM_init_586 : decode b_MM_init 586 = .ok (.new 26, 3) := by decide +kernel
theorem d_MM_init_589 : decode b_MM_init 589 = .ok (.dup, 1) := by decide +kernel
theorem d_MM_init_590 : decode b_MM_init 590 = .ok (.iconst 4, 1) := by decide +kernel
theorem d_MM_init_591 : decode b_MM_init 591 = .ok (.invokespecial 28, 3) := by decide +kernel
theorem d_MM_init_594 : decode b_MM_init 594 = .ok (.putfield 203, 3) := by decide +kernel
theorem d_MM_init_597 : decode b_MM_init 597 = .ok (.aload_n 0, 1) := by decide +kernel
theorem d_MM_init_598 : decode b_MM_init 598 = .ok (.new 26, 3) := by decide +kernel
theorem d_MM_init_601 : decode b_MM_init 601 = .ok (.dup, 1) := by decide +kernel
theorem d_MM_init_602 : decode b_MM_init 602 = .ok (.iconst 4, 1) := by decide +kernel
theorem d_MM_init_603 : decode b_MM_init 603 = .ok (.invokespecial 28, 3) := by decide +kernel
theorem d_MM_init_606 : decode b_MM_init 606 = .ok (.putfield 206, 3) := by decide +kernel
theorem d_MM_init_609 : decode b_MM_init 609 = .ok (.aload_n 0, 1) := by decide +kernel
theorem d_MM_init_610 : decode b_MM_init 610 = .ok (.bipush 10, 2) := by decide +kernel
theorem d_MM_init_612 : decode b_MM_init 612 = .ok (.anewarray 209, 3) := by decide +kernel
theorem d_MM_init_615 : decode b_MM_init 615 = .ok (.dup, 1) := by decide +kernel
theorem d_MM_init_616 : decode b_MM_init 616 = .ok (.iconst 0, 1) := by decide +kernel
theorem d_MM_init_617 : decode b_MM_init 617 = .ok (.ldc 211, 2) := by decide +kernel
theorem d_MM_init_619 : decode b_MM_init 619 = .ok (.aastore, 1) := by decide +kernel
theorem d_MM_init_620 : decode b_MM_init 620 = .ok (.dup, 1) := by decide +kernel
theorem d_MM_init_621 : decode b_MM_init 621 = .ok (.iconst 1, 1) := by decide +kernel
theorem d_MM_init_622 : decode b_MM_init 622 = .ok (.ldc 213, 2) := by decide +kernel
theorem d_MM_init_624 : decode b_MM_init 624 = .ok (.aastore, 1) := by decide +kernel
theorem d_MM_init_625 : decode b_MM_init 625 = .ok (.dup, 1) := by decide +kernel
theorem d_MM_init_626 : decode b_MM_init 626 = .ok (.iconst 2, 1) := by decide +kernel
theorem d_MM_init_627 : decode b_MM_init 627 = .ok (.ldc 215, 2) := by decide +kernel
theorem d_MM_init_629 : decode b_MM_init 629 = .ok (.aastore, 1) := by decide +kernel
theorem d_MM_init_630 : decode b_MM_init 630 = .ok (.dup, 1) := by decide +kernel
theorem d_MM_init_631 : decode b_MM_init 631 = .ok (.iconst 3, 1) := by decide +kernel
theorem d_MM_init_632 : decode b_MM_init 632 = .ok (.ldc 217, 2) := by decide +kernel
theorem d_MM_init_634 : decode b_MM_init 634 = .ok (.aastore, 1) := by decide +kernel
theorem d_MM_init_635 : decode b_MM_init 635 = .ok (.dup, 1) := by decide +kernel
theorem d_MM_init_636 : decode b_MM_init 636 = .ok (.iconst 4, 1) := by decide +kernel
theorem d_MM_init_637 : decode b_MM_init 637 = .ok (.ldc 219, 2) := by decide +kernel
theorem d_MM_init_639 : decode b_MM_init 639 = .ok (.aastore, 1) := by decide +kernel
theorem d_MM_init_640 : decode b_MM_init 640 = .ok (.dup, 1) := by decide +kernel
theorem d_MM_init_641 : decode b_MM_init 641 = .ok (.iconst 5, 1) := by decide +kernel
theorem d_MM_init_642 : decode b_MM_init 642 = .ok (.ldc 221, 2) := by decide +kernel
theorem d_MM_init_644 : decode b_MM_init 644 = .ok (.aastore, 1) := by decide +kernel
theorem d_MM_init_645 : decode b_MM_init 645 = .ok (.dup, 1) := by decide +kernel
theorem d_MM_init_646 : decode b_MM_init 646 = .ok (.bipush 6, 2) := by decide +kernel
theorem d_MM_init_648 : decode b_MM_init 648 = .ok (.ldc 223, 2) := by decide +kernel
theorem d_MM_init_650 : decode b_MM_init 650 = .ok (.aastore, 1) := by decide +kernel
theorem d_MM_init_651 : decode b_MM_init 651 = .ok (.dup, 1) := by decide +kernel
theorem d_MM_init_652 : decode b_MM_init 652 = .ok (.bipush 7, 2) := by decide +kernel
theorem d_MM_init_654 : decode b_MM_init 654 = .ok (.ldc 225, 2) := by decide +kernel
theorem d_MM_init_656 : decode b_MM_init 656 = .ok (.aastore, 1) := by decide +kernel
theorem d_MM_init_657 : decode b_MM_init 657 = .ok (.dup, 1) := by decide +kernel
theorem d_MM_init_658 : decode b_MM_init 658 = .ok (.bipush 8, 2) := by decide +kernel
theorem d_MM_init_660 : decode b_MM_init 660 = .ok (.ldc 227, 2) := by decide +kernel
theorem d_MM_init_662 : decode b_MM_init 662 = .ok (.aastore, 1) := by decide +kernel
theorem d_MM_init_663 : decode b_MM_init 663 = .ok (.dup, 1) := by decide +kernel
theorem d_MM_init_664 : decode b_MM_init 664 = .ok (.bipush 9, 2) := by decide +kernel
theorem d_MM_init_666 : decode b_MM_init 666 = .ok (.ldc 229, 2) := by decide +kernel
theorem d_MM_init_668 : decode b_MM_init 668 = .ok (.aastore, 1) := by decide +kernel
theorem d_MM_init_669 : decode b_MM_init 669 = .ok (.putfield 231, 3) := by decide +kernel
theorem d_MM_init_672 : decode b_MM_init 672 = .ok (.aload_n 0, 1) := by decide +kernel
theorem d_MM_init_673 : decode b_MM_init 673 = .ok (.bipush 6, 2) := by decide +kernel
theorem d_MM_init_675 : decode b_MM_init 675 = .ok (.anewarray 209, 3) := by decide +kernel
theorem d_MM_init_678 : decode b_MM_init 678 = .ok (.dup, 1) := by decide +kernel
theorem d_MM_init_679 : decode b_MM_init 679 = .ok (.iconst 0, 1) := by decide +kernel
theorem d_MM_init_680 : decode b_MM_init 680 = .ok (.ldc 235, 2) := by decide +kernel
theorem d_MM_init_682 : decode b_MM_init 682 = .ok (.aastore, 1) := by decide +kernel
theorem d_MM_init_683 : decode b_MM_init 683 = .ok (.dup, 1) := by decide +kernel
theorem d_MM_init_684 : decode b_MM_init 684 = .ok (.iconst 1, 1) := by decide +kernel
theorem d_MM_init_685 : decode b_MM_init 685 = .ok (.ldc 237, 2) := by decide +kernel
theorem d_MM_init_687 : decode b_MM_init 687 = .ok (.aastore, 1) := by decide +kernel
theorem d_MM_init_688 : decode b_MM_init 688 = .ok (.dup, 1) := by decide +kernel
theorem d_MM_init_689 : decode b_MM_init 689 = .ok (.iconst 2, 1) := by decide +kernel
theorem d_MM_init_690 : decode b_MM_init 690 = .ok (.ldc 239, 2) := by decide +kernel
theorem d_MM_init_692 : decode b_MM_init 692 = .ok (.aastore, 1) := by decide +kernel
theorem d_MM_init_693 : decode b_MM_init 693 = .ok (.dup, 1) := by decide +kernel
theorem d_MM_init_694 : decode b_MM_init 694 = .ok (.iconst 3, 1) := by decide +kernel
theorem d_MM_init_695 : decode b_MM_init 695 = .ok (.ldc 241, 2) := by decide +kernel
theorem d_MM_init_697 : decode b_MM_init 697 = .ok (.aastore, 1) := by decide +kernel
theorem d_MM_init_698 : decode b_MM_init 698 = .ok (.dup, 1) := by decide +kernel
theorem d_MM_init_699 : decode b_MM_init 699 = .ok (.iconst 4, 1) := by decide +kernel
theorem d_MM_init_700 : decode b_MM_init 700 = .ok (.ldc 243, 2) := by decide +kernel
theorem d_MM_init_702 : decode b_MM_init 702 = .ok (.aastore, 1) := by decide +kernel
theorem d_MM_init_703 : decode b_MM_init 703 = .ok (.dup, 1) := by decide +kernel
theorem d_MM_init_704 : decode b_MM_init 704 = .ok (.iconst 5, 1) := by decide +kernel
theorem d_MM_init_705 : decode b_MM_init 705 = .ok (.ldc 245, 2) := by decide +kernel
theorem d_MM_init_707 : decode b_MM_init 707 = .ok (.aastore, 1) := by decide +kernel
theorem d_MM_init_708 : decode b_MM_init 708 = .ok (.putfield 247, 3) := by decide +kernel
theorem d_MM_init_711 : decode b_MM_init 711 = .ok (.aload_n 0, 1) := by decide +kernel
theorem d_MM_init_712 : decode b_MM_init 712 = .ok (.bipush 64, 2) := by decide +kernel
theorem d_MM_init_714 : decode b_MM_init 714 = .ok (.newarray .int, 2) := by decide +kernel
theorem d_MM_init_716 : decode b_MM_init 716 = .ok (.putfield 250, 3) := by decide +kernel
theorem d_MM_init_719 : decode b_MM_init 719 = .ok (.aload_n 0, 1) := by decide +kernel
theorem d_MM_init_720 : decode b_MM_init 720 = .ok (.bipush 64, 2) := by decide +kernel
theorem d_MM_init_722 : decode b_MM_init 722 = .ok (.newarray .int, 2) := by decide +kernel
theorem d_MM_init_724 : decode b_MM_init 724 = .ok (.putfield 253, 3) := by decide +kernel
theorem d_MM_init_727 : decode b_MM_init 727 = .ok (.aload_n 0, 1) := by decide +kernel
theorem d_MM_init_728 : decode b_MM_init 728 = .ok (.bipush 80, 2) := by decide +kernel
theorem d_MM_init_730 : decode b_MM_init 730 = .ok (.newarray .int, 2) := by decide +kernel
theorem d_MM_init_732 : decode b_MM_init 732 = .ok (.putfield 256, 3) := by decide +kernel
theorem d_MM_init_735 : decode b_MM_init 735 = .ok (.aload_n 0, 1) := by decide +kernel
theorem d_MM_init_736 : decode b_MM_init 736 = .ok (.bipush 80, 2) := by decide +kernel
theorem d_MM_init_738 : decode b_MM_init 738 = .ok (.newarray .boolean, 2) := by decide +kernel
theorem d_MM_init_740 : decode b_MM_init 740 = .ok (.putfield 259, 3) := by decide +kernel
theorem d_MM_init_743 : decode b_MM_init 743 = .ok (.aload_n 0, 1) := by decide +kernel
theorem d_MM_init_744 : decode b_MM_init 744 = .ok (.bipush 80, 2) := by decide +kernel
theorem d_MM_init_746 : decode b_MM_init 746 = .ok (.newarray .int, 2) := by decide +kernel
theorem d_MM_init_748 : decode b_MM_init 748 = .ok (.putfield 262, 3) := by decide +kernel
theorem d_MM_init_751 : decode b_MM_init 751 = .ok (.aload_n 0, 1) := by decide +kernel
theorem d_MM_init_752 : decode b_MM_init 752 = .ok (.bipush 80, 2) := by decide +kernel
theorem d_MM_init_754 : decode b_MM_init 754 = .ok (.newarray .int, 2) := by decide +kernel
theorem d_MM_init_756 : decode b_MM_init 756 = .ok (.putfield 265, 3) := by decide +kernel
theorem d_MM_init_759 : decode b_MM_init 759 = .ok (.aload_n 0, 1) := by decide +kernel
theorem d_MM_init_760 : decode b_MM_init 760 = .ok (.new 139, 3) := by decide +kernel
theorem d_MM_init_763 : decode b_MM_init 763 = .ok (.dup, 1) := by decide +kernel
theorem d_MM_init_764 : decode b_MM_init 764 = .ok (.iconst 4, 1) := by decide +kernel
theorem d_MM_init_765 : decode b_MM_init 765 = .ok (.invokespecial 141, 3) := by decide +kernel
theorem d_MM_init_768 : decode b_MM_init 768 = .ok (.putfield 268, 3) := by decide +kernel
theorem d_MM_init_771 : decode b_MM_init 771 = .ok (.aload_n 0, 1) := by decide +kernel
theorem d_MM_init_772 : decode b_MM_init 772 = .ok (.new 26, 3) := by decide +kernel
theorem d_MM_init_775 : decode b_MM_init 775 = .ok (.dup, 1) := by decide +kernel
theorem d_MM_init_776 : decode b_MM_init 776 = .ok (.iconst 4, 1) := by decide +kernel
theorem d_MM_init_777 : decode b_MM_init 777 = .ok (.invokespecial 28, 3) := by decide +kernel
theorem d_MM_init_780 : decode b_MM_init 780 = .ok (.putfield 271, 3) := by decide +kernel
theorem d_MM_init_783 : decode b_MM_init 783 = .ok (.aload_n 0, 1) := by decide +kernel
theorem d_MM_init_784 : decode b_MM_init 784 = .ok (.new 57, 3) := by decide +kernel
theorem d_MM_init_787 : decode b_MM_init 787 = .ok (.dup, 1) := by decide +kernel
theorem d_MM_init_788 : decode b_MM_init 788 = .ok (.iconst 4, 1) := by decide +kernel
theorem d_MM_init_789 : decode b_MM_init 789 = .ok (.iconst 4, 1) := by decide +kernel
theorem d_MM_init_790 : decode b_MM_init 790 = .ok (.invokespecial 59, 3) := by decide +kernel
theorem d_MM_init_793 : decode b_MM_init 793 = .ok (.putfield 274, 3) := by decide +kernel
theorem d_MM_init_796 : decode b_MM_init 796 = .ok (.aload_n 0, 1) := by decide +kernel
theorem d_MM_init_797 : decode b_MM_init 797 = .ok (.new 16, 3) := by decide +kernel
theorem d_MM_init_800 : decode b_MM_init 800 = .ok (.dup, 1) := by decide +kernel
theorem d_MM_init_801 : decode b_MM_init 801 = .ok (.invokespecial 18, 3) := by decide +kernel
theorem d_MM_init_804 : decode b_MM_init 804 = .ok (.putfield 277, 3) := by decide +kernel
theorem d_MM_init_807 : decode b_MM_init 807 = .ok (.aload_n 0, 1) := by decide +kernel
theorem d_MM_init_808 : decode b_MM_init 808 = .ok (.new 16, 3) := by decide +kernel
theorem d_MM_init_811 : decode b_MM_init 811 = .ok (.dup, 1) := by decide +kernel
theorem d_MM_init_812 : decode b_MM_init 812 = .ok (.invokespecial 18, 3) := by decide +kernel
theorem d_MM_init_815 : decode b_MM_init 815 = .ok (.putfield 280, 3) := by decide +kernel
theorem d_MM_init_818 : decode b_MM_init 818 = .ok (.aload_n 0, 1) := by decide +kernel
theorem d_MM_init_819 : decode b_MM_init 819 = .ok (.iconst 2, 1) := by decide +kernel
theorem d_MM_init_820 : decode b_MM_init 820 = .ok (.newarray .int, 2) := by decide +kernel
theorem d_MM_init_822 : decode b_MM_init 822 = .ok (.putfield 283, 3) := by decide +kernel
theorem d_MM_init_825 : decode b_MM_init 825 = .ok (.aload_n 0, 1) := by decide +kernel
theorem d_MM_init_826 : decode b_MM_init 826 = .ok (.iconst 2, 1) := by decide +kernel
theorem d_MM_init_827 : decode b_MM_init 827 = .ok (.newarray .long, 2) := by decide +kernel
theorem d_MM_init_829 : decode b_MM_init 829 = .ok (.putfield 286, 3) := by decide +kernel
theorem d_MM_init_832 : decode b_MM_init 832 = .ok (.aload_n 0, 1) := by decide +kernel
theorem d_MM_init_833 : decode b_MM_init 833 = .ok (.iconst 2, 1) := by decide +kernel
theorem d_MM_init_834 : decode b_MM_init 834 = .ok (.newarray .int, 2) := by decide +kernel
theorem d_MM_init_836 : decode b_MM_init 836 = .ok (.putfield 290, 3) := by decide +kernel
theorem d_MM_init_839 : decode b_MM_init 839 = .ok (.aload_n 0, 1) := by decide +kernel
theorem d_MM_init_840 : decode b_MM_init 840 = .ok (.iconst 2, 1) := by decide +kernel
theorem d_MM_init_841 : decode b_MM_init 841 = .ok (.newarray .long, 2) := by decide +kernel
theorem d_MM_init_843 : decode b_MM_init 843 = .ok (.putfield 293, 3) := by decide +kernel
theorem d_MM_init_846 : decode b_MM_init 846 = .ok (.aload_n 0, 1) := by decide +kernel
theorem d_MM_init_847 : decode b_MM_init 847 = .ok (.iconst 2, 1) := by decide +kernel
theorem d_MM_init_848 : decode b_MM_init 848 = .ok (.newarray .long, 2) := by decide +kernel
theorem d_MM_init_850 : decode b_MM_init 850 = .ok (.putfield 296, 3) := by decide +kernel
theorem d_MM_init_853 : decode b_MM_init 853 = .ok (.aload_n 0, 1) := by decide +kernel
theorem d_MM_init_854 : decode b_MM_init 854 = .ok (.sipush 3200, 3) := by decide +kernel
theorem d_MM_init_857 : decode b_MM_init 857 = .ok (.newarray .long, 2) := by decide +kernel
theorem d_MM_init_859 : decode b_MM_init 859 = .ok (.putfield 299, 3) := by decide +kernel
theorem d_MM_init_862 : decode b_MM_init 862 = .ok (.aload_n 0, 1) := by decide +kernel
theorem d_MM_init_863 : decode b_MM_init 863 = .ok (.iconst 2, 1) := by decide +kernel
theorem d_MM_init_864 : decode b_MM_init 864 = .ok (.newarray .int, 2) := by decide +kernel
theorem d_MM_init_866 : decode b_MM_init 866 = .ok (.putfield 302, 3) := by decide +kernel
theorem d_MM_init_869 : decode b_MM_init 869 = .ok (.aload_n 0, 1) := by decide +kernel
theorem d_MM_init_870 : decode b_MM_init 870 = .ok (.iconst 2, 1) := by decide +kernel
theorem d_MM_init_871 : decode b_MM_init 871 = .ok (.newarray .int, 2) := by decide +kernel
theorem d_MM_init_873 : decode b_MM_init 873 = .ok (.putfield 305, 3) := by decide +kernel
theorem d_MM_init_876 : decode b_MM_init 876 = .ok (.aload_n 0, 1) := by decide +kernel
theorem d_MM_init_877 : decode b_MM_init 877 = .ok (.sipush 8000, 3) := by decide +kernel
theorem d_MM_init_880 : decode b_MM_init 880 = .ok (.newarray .int, 2) := by decide +kernel
theorem d_MM_init_882 : decode b_MM_init 882 = .ok (.putfield 308, 3) := by decide +kernel
theorem d_MM_init_885 : decode b_MM_init 885 = .ok (.aload_n 0, 1) := by decide +kernel
theorem d_MM_init_886 : decode b_MM_init 886 = .ok (.sipush 8000, 3) := by decide +kernel
theorem d_MM_init_889 : decode b_MM_init 889 = .ok (.newarray .int, 2) := by decide +kernel
theorem d_MM_init_891 : decode b_MM_init 891 = .ok (.putfield 311, 3) := by decide +kernel
theorem d_MM_init_894 : decode b_MM_init 894 = .ok (.aload_n 0, 1) := by decide +kernel
theorem d_MM_init_895 : decode b_MM_init 895 = .ok (.ldc_w 314, 3) := by decide +kernel
theorem d_MM_init_898 : decode b_MM_init 898 = .ok (.newarray .long, 2) := by decide +kernel
theorem d_MM_init_900 : decode b_MM_init 900 = .ok (.putfield 315, 3) := by decide +kernel
theorem d_MM_init_903 : decode b_MM_init 903 = .ok (.aload_n 0, 1) := by decide +kernel
theorem d_MM_init_904 : decode b_MM_init 904 = .ok (.iconst 2, 1) := by decide +kernel
theorem d_MM_init_905 : decode b_MM_init 905 = .ok (.newarray .int, 2) := by decide +kernel
theorem d_MM_init_907 : decode b_MM_init 907 = .ok (.putfield 318, 3) := by decide +kernel
theorem d_MM_init_910 : decode b_MM_init 910 = .ok (.aload_n 0, 1) := by decide +kernel
theorem d_MM_init_911 : decode b_MM_init 911 = .ok (.bipush 120, 2) := by decide +kernel
theorem d_MM_init_913 : decode b_MM_init 913 = .ok (.newarray .int, 2) := by decide +kernel
theorem d_MM_init_915 : decode b_MM_init 915 = .ok (.putfield 321, 3) := by decide +kernel
theorem d_MM_init_918 : decode b_MM_init 918 = .ok (.aload_n 0, 1) := by decide +kernel
theorem d_MM_init_919 : decode b_MM_init 919 = .ok (.bipush 120, 2) := by decide +kernel
theorem d_MM_init_921 : decode b_MM_init 921 = .ok (.newarray .int, 2) := by decide +kernel
theorem d_MM_init_923 : decode b_MM_init 923 = .ok (.putfield 324, 3) := by decide +kernel
theorem d_MM_init_926 : decode b_MM_init 926 = .ok (.aload_n 0, 1) := by decide +kernel
theorem d_MM_init_927 : decode b_MM_init 927 = .ok (.bipush 120, 2) := by decide +kernel
theorem d_MM_init_929 : decode b_MM_init 929 = .ok (.anewarray 57, 3) := by decide +kernel
theorem d_MM_init_932 : decode b_MM_init 932 = .ok (.putfield 327, 3) := by decide +kernel
theorem d_MM_init_935 : decode b_MM_init 935 = .ok (.aload_n 0, 1) := by decide +kernel
theorem d_MM_init_936 : decode b_MM_init 936 = .ok (.bipush 120, 2) := by decide +kernel
theorem d_MM_init_938 : decode b_MM_init 938 = .ok (.newarray .int, 2) := by decide +kernel
theorem d_MM_init_940 : decode b_MM_init 940 = .ok (.putfield 331, 3) := by decide +kernel
theorem d_MM_init_943 : decode b_MM_init 943 = .ok (.aload_n 0, 1) := by decide +kernel
theorem d_MM_init_944 : decode b_MM_init 944 = .ok (.bipush 120, 2) := by decide +kernel
theorem d_MM_init_946 : decode b_MM_init 946 = .ok (.newarray .int, 2) := by decide +kernel
theorem d_MM_init_948 : decode b_MM_init 948 = .ok (.putfield 334, 3) := by decide +kernel
theorem d_MM_init_951 : decode b_MM_init 951 = .ok (.aload_n 0, 1) := by decide +kernel
theorem d_MM_init_952 : decode b_MM_init 952 = .ok (.sipush 7200, 3) := by decide +kernel
theorem d_MM_init_955 : decode b_MM_init 955 = .ok (.newarray .long, 2) := by decide +kernel
theorem d_MM_init_957 : decode b_MM_init 957 = .ok (.putfield 337, 3) := by decide +kernel
theorem d_MM_init_960 : decode b_MM_init 960 = .ok (.aload_n 0, 1) := by decide +kernel
theorem d_MM_init_961 : decode b_MM_init 961 = .ok (.sipush 7440, 3) := by decide +kernel
theorem d_MM_init_964 : decode b_MM_init 964 = .ok (.newarray .long, 2) := by decide +kernel
theorem d_MM_init_966 : decode b_MM_init 966 = .ok (.putfield 340, 3) := by decide +kernel
theorem d_MM_init_969 : decode b_MM_init 969 = .ok (.return_, 1) := by decide +kernel
end
section
theorem kH_of {dC : Nat → ClassId} {dI : Nat → Nat → Nat} {ca : Nat → ClassId} {s U : State} {H : Heap} {A : Nat → Prop} {h0 q : Nat} {locs : List Loc} {f0 f1 fh : List Value} (hK : mK dC dI ca s) (hat : kA hAtoms s) (hW : s.WarmedH U.vm) (hU : U.heap = H) (hP : va_P (dC, dI) classes [(h0, .inr (0, f0)), (q, .inr (1, fh))] H) (hD : va_D A [(h0, .inr (0, f0)), (q, .inr (1, fh))]) (hS : va_S A s.heap H locs) (hA : ∀ q : Nat, s.heap.size ≤ q → A q) (hAi : (∀ q : Nat, A q → (∃ (k : Nat) (e : va_E), ([(h0, .inr (0, f1))] : va_W)[k]? = some (q, e)) ∨ s.heap.size ≤ q) ∧ ∃ cell : Cell, s.heap[h0]? = some cell ∧ cell.vm.isStatics = false)
    (hfr : ∃ kX : Class, s.vm.classes[dC 1]? = some kX ∧ H[q]? = some (freshCell (dC 1) kX)) : kH dC dI ca q U := by
  refine ⟨mK_up hK U hU hW, kA_up hA_stay hA_st hW (fun a cell h1 h2 => ?_) hat, ?_⟩
  · have hlt : a < s.heap.size := (Array.getElem?_eq_some_iff.mp h1).1
    have hn : ¬ A a := by
      intro h9
      rcases hAi.1 a h9 with ⟨k, e, hk⟩ | h9
      · have hk1 : k < 1 := (List.getElem?_eq_some_iff.mp hk).1
        have hk0 : k = 0 := by omega
        subst hk0
        cases hk
        obtain ⟨c9, e1, e2⟩ := hAi.2
        cases h1.symm.trans e1
        rw [e2] at h2
        cases h2
      · omega
    rw [hU, hS.2.1 a hlt hn]
    exact h1
  · obtain ⟨kX, h1, h2⟩ := hfr
    obtain ⟨k2, h3, h4⟩ := hW.alike.2.2 _ _ h1
    refine ⟨k2, h3, ?_⟩
    rw [hU, h2]
    have h5 : k2.instanceTypes = kX.instanceTypes := by rw [h4]
    show some _ = some _
    rw [freshCell, freshCell, h5]

set_option maxHeartbeats 40000000 in
set_option maxRecDepth 100000 in
theorem c_MM_init (l : Launch) (hl9 : l.stackTraces = false) (dC : Nat → ClassId) (dI : Nat → Nat → Nat) (ca : Nat → ClassId) (sa : Nat → Nat) (h0 : Nat) : CT l classes (dC, dI) (kM dC dI ca sa h0) wm y_MM_init b_MM_init 1 none 7 100 166 640022 [.ref h0] [(h0, .inr (0, [.int 0, .null, .null, .null, .null, .null, .int 0, .int 0, .int 0, .null, .null, .null, .null, .int 0, .null, .null, .int 0, .null, .null, .null, .null, .null, .null, .int 0, .int 0, .int 0, .int 0, .null, .null, .null, .null, .null, .null, .null, .int 0, .null, .null, .null, .null, .null, .null, .null, .null, .null, .null, .null, .null, .null, .null, .null, .null, .null, .null, .null, .null, .null, .null, .null, .null, .null, .null, .null, .int 0, .int 0, .null, .int 0, .int 0, .int 0, .int 0, .int 0, .null, .null, .null, .null, .int 0, .int 0, .null, .null, .null, .int 0, .null, .null, .int 0, .int 0, .int 0, .int 0, .int 0, .null, .null, .int 0, .null, .null, .int 0, .null, .null, .null, .null, .int 0, .int 0, .int 0, .int 0, .int 0, .int 0, .null, .null, .int 0, .null, .null, .null, .null, .null, .null, .null, .null, .null, .int 0, .null, .null, .null, .null, .null, .null, .null, .null, .null, .null, .null, .null, .null, .null, .int 0, .int 0]))] (fun (v : Option Value) (u : (Nat → Nat) × List Value × Nat) => v = none ∧ u.2.1.length = 8) (fun (u : (Nat → Nat) × List Value × Nat) => mW ca h0 u.1 u.2.1 u.2.2) := by
  refine ax_ofA (by decide) (Nat.le_of_ble_eq_true rfl) ?_
  intro p e s m below meth c A ls hAt hK hP hD hS hA hAi hl
  obtain ⟨hx, hb, hr, hml, hown, hts, hlocks, hin⟩ := hAt
  have hin : meth.name = "<init>" := hin
  obtain ⟨hK, hat, hks⟩ := hK
  have hl : lv_has ls 1 [(0, .ref h0)] := hl
  have hnA : ∀ (i : Nat) (z : Nat × String), strs[i]? = some z → ¬ A (sa i) := by
    intro i z hz h9
    obtain ⟨-, ⟨cell, h1, -⟩, hne⟩ := hks i z hz
    rcases hAi _ h9 with ⟨k, e, hk⟩ | h9
    · have hk1 : k < 1 := (List.getElem?_eq_some_iff.mp hk).1
      have hk0 : k = 0 := by omega
      subst hk0
      cases hk
      exact hne rfl
    · exact absurd h9 (Nat.not_le.mpr (Array.getElem?_eq_some_iff.mp h1).1)
  have hAi := And.intro hAi (by
    obtain ⟨cell, h1, h2, -⟩ := va_recv hK.1 hP (ci := 0) (q0 := 0) rfl rfl
    exact (⟨cell, h1, h2⟩ : ∃ cell : Cell, s.heap[h0]? = some cell ∧ cell.vm.isStatics = false))
  have M : mC p s m [Value.ref h0].toArray meth c dC dI ca A ls h0 := ⟨hx, hb, hml, hown, hts, hin, hK, hA, hl⟩
  obtain ⟨fs_0, e_0⟩ : ∃ z : List Value, z = [.int 0, .null, .null, .null, .null, .null, .int 0, .int 0, .int 0, .null, .null, .null, .null, .int 0, .null, .null, .int 0, .null, .null, .null, .null, .null, .null, .int 0, .int 0, .int 0, .int 0, .null, .null, .null, .null, .null, .null, .null, .int 0, .null, .null, .null, .null, .null, .null, .null, .null, .null, .null, .null, .null, .null, .null, .null, .null, .null, .null, .null, .null, .null, .null, .null, .null, .null, .null, .null, .int 0, .int 0, .null, .int 0, .int 0, .int 0, .int 0, .int 0, .null, .null, .null, .null, .int 0, .int 0, .null, .null, .null, .int 0, .null, .null, .int 0, .int 0, .int 0, .int 0, .int 0, .null, .null, .int 0, .null, .null, .int 0, .null, .null, .null, .null, .int 0, .int 0, .int 0, .int 0, .int 0, .int 0, .null, .null, .int 0, .null, .null, .null, .null, .null, .null, .null, .null, .null, .int 0, .null, .null, .null, .null, .null, .null, .null, .null, .null, .null, .null, .null, .null, .null, .int 0, .int 0] := ⟨_, rfl⟩
  have hlen : fs_0.length = 132 := by rw [e_0]; rfl
  rw [← e_0] at hP hD
  refine lv_aload_n hx hb d_MM_init_0 rfl (lv_at hl 0 rfl) ?_
  refine W.objInit hx hb hown (hts _ xm_17) (hts _ xm_8) (hts _ xm_9) rfl (by rw [hml]; exact hl.1) rfl d_MM_init_1 (Nat.le_of_ble_eq_true rfl) (Nat.le_of_ble_eq_true rfl) ?_
  refine W.eq (g2 := F0 m 4 ls []) rfl ?_
  refine lv_aload_n hx hb d_MM_init_4 rfl (lv_at hl 0 rfl) ?_
  refine ax_newF (ci := 1) (fs := [.null, .null, .null, .null, .null, .int 0, .int 0, .int 0]) (C := R_MH) (T := F_MH) (N := 8) hx hb hts i_MH t_MH t_MH_ok hown (hts _ xm_18) (hts _ xm_19) (hts _ xm_1) hK.1 hP hD hS hA rfl (by decide +kernel) (Nat.le_of_ble_eq_true rfl) (Nat.le_of_ble_eq_true rfl) d_MM_init_5 ?_
  clear hP hD hS
  intro q_1 H hfr hP hD hS
  refine lv_dup hx hb d_MM_init_8 rfl ?_
  replace hP : va_P (dC, dI) classes [(h0, .inr (0, fs_0)), (q_1, .inr (1, [.null, .null, .null, .null, .null, .int 0, .int 0, .int 0]))] H := hP
  replace hD : va_D A [(h0, .inr (0, fs_0)), (q_1, .inr (1, [.null, .null, .null, .null, .null, .int 0, .int 0, .int 0]))] := hD
  refine W.widen (k := 1) (n := 8) (Nat.le_of_ble_eq_true rfl) (Nat.le_of_ble_eq_true rfl) ?_
  refine ax_IN (k := 0) (As := []) (rest := [.ref q_1, .ref h0]) (wr := [(h0, .inr (0, fs_0))]) rfl hx hb hml hown hts g_wm (kH_bl dC dI ca q_1) (c_MH_init l hl9 dC dI ca q_1) rfl (hK.2.1 _ zm_0) xm_20 xm_1 xm_21 (by decide +kernel) rfl (Nat.le_of_ble_eq_true rfl) (Nat.le_of_ble_eq_true rfl) hl.1 (Nat.le_of_ble_eq_true rfl) (fun U hU hW => kH_of hK hat hW hU hP hD hS hA hAi hfr) hP hD hS hA [1] [0] rfl (by decide) rfl rfl (by decide) (by decide) (Nat.le_of_ble_eq_true rfl) (Nat.le_of_ble_eq_true rfl) d_MM_init_9 ?_
  clear hP hD hS hfr
  intro v q_2 H locs hp hP hD hS
  obtain ⟨rfl, h8_1⟩ := hp
  replace hP : va_P (dC, dI) classes [(h0, .inr (0, fs_0)), (q_1, .inr (1, q_2))] H := hP
  replace hD : va_D A [(h0, .inr (0, fs_0)), (q_1, .inr (1, q_2))] := hD
  refine W.eq (g2 := F0 m 12 ls [.ref q_1, .ref h0]) rfl ?_
  refine W.widen (k := 1) (n := 8) (Nat.le_of_ble_eq_true rfl) (Nat.le_of_ble_eq_true rfl) ?_
  refine m_put M (fs := fs_0) (wt := [(q_1, .inr (1, q_2))]) (k := 1) (ty := .object "SourceBackModel$Halt") hP hD hS hlen (by decide) xm_74 rfl rfl (by decide +kernel) rfl rfl d_MM_init_12 ?_
  clear hP hD hS hlen
  intro H locs hlen hP hD hS
  obtain ⟨fs_1, e_1⟩ : ∃ z, z = fs_0.set 1 (.ref q_1) := ⟨_, rfl⟩
  rw [← e_1] at hP hD hlen
  replace hP : va_P (dC, dI) classes [(h0, .inr (0, fs_1)), (q_1, .inr (1, q_2))] H := hP
  replace hD : va_D A [(h0, .inr (0, fs_1)), (q_1, .inr (1, q_2))] := hD
  refine lv_aload_n hx hb d_MM_init_15 rfl (lv_at hl 0 rfl) ?_
  refine m_new M (wt := [(q_1, .inr (1, q_2))]) (ci := 2) (C := R_MB) (T := F_MB) (N := 2) (f0 := [.null, .int 0]) hP hD hS i_MB t_MB_ok xm_25 xm_26 xm_2 rfl (by decide +kernel) (Nat.le_of_ble_eq_true rfl) (Nat.le_of_ble_eq_true rfl) d_MM_init_16 d_MM_init_19 ?_
  clear hP hD hS
  intro q_3 H hP hD hS
  replace hP : va_P (dC, dI) classes [(h0, .inr (0, fs_1)), (q_1, .inr (1, q_2)), (q_3, .inr (2, [.null, .int 0]))] H := hP
  replace hD : va_D A [(h0, .inr (0, fs_1)), (q_1, .inr (1, q_2)), (q_3, .inr (2, [.null, .int 0]))] := hD
  refine W.widen (k := 2) (n := 10) (Nat.le_of_ble_eq_true rfl) (Nat.le_of_ble_eq_true rfl) ?_
  refine ax_IN (k := 0) (As := []) (rest := [.ref q_3, .ref h0]) (wr := [(h0, .inr (0, fs_1)), (q_1, .inr (1, q_2))]) rfl hx hb hml hown hts g_wm (mK_bl dC dI ca) (c_MB_init l dC dI ca q_3) rfl (hK.2.1 _ zm_3) xm_27 xm_2 xm_28 (by decide +kernel) rfl (Nat.le_of_ble_eq_true rfl) (Nat.le_of_ble_eq_true rfl) hl.1 (Nat.le_of_ble_eq_true rfl) (mK_up hK) hP hD hS hA [2] [0, 1] rfl (by decide) rfl rfl (by decide) (by decide) (Nat.le_of_ble_eq_true rfl) (Nat.le_of_ble_eq_true rfl) d_MM_init_20 ?_
  clear hP hD hS
  intro v q_4 H locs hp hP hD hS
  obtain rfl : v = none := hp
  replace hP : va_P (dC, dI) classes [(h0, .inr (0, fs_1)), (q_1, .inr (1, q_2)), (q_3, .inr (2, [.ref q_4, .int 0])), (q_4, .inl (ca 0, 16, .inl (fun _ => 0)))] H := hP
  replace hD : va_D A [(h0, .inr (0, fs_1)), (q_1, .inr (1, q_2)), (q_3, .inr (2, [.ref q_4, .int 0])), (q_4, .inl (ca 0, 16, .inl (fun _ => 0)))] := hD
  refine W.eq (g2 := F0 m 23 ls [.ref q_3, .ref h0]) rfl ?_
  refine W.widen (k := 3) (n := 26) (Nat.le_of_ble_eq_true rfl) (Nat.le_of_ble_eq_true rfl) ?_
  refine m_put M (fs := fs_1) (wt := [(q_1, .inr (1, q_2)), (q_3, .inr (2, [.ref q_4, .int 0])), (q_4, .inl (ca 0, 16, .inl (fun _ => 0)))]) (k := 2) (ty := .object "SourceBackModel$Bytes") hP hD hS hlen (by decide) xm_75 rfl rfl (by decide +kernel) rfl rfl d_MM_init_23 ?_
  clear hP hD hS hlen
  intro H locs hlen hP hD hS
  obtain ⟨fs_2, e_2⟩ : ∃ z, z = fs_1.set 2 (.ref q_3) := ⟨_, rfl⟩
  rw [← e_2] at hP hD hlen
  replace hP : va_P (dC, dI) classes [(h0, .inr (0, fs_2)), (q_1, .inr (1, q_2)), (q_3, .inr (2, [.ref q_4, .int 0])), (q_4, .inl (ca 0, 16, .inl (fun _ => 0)))] H := hP
  replace hD : va_D A [(h0, .inr (0, fs_2)), (q_1, .inr (1, q_2)), (q_3, .inr (2, [.ref q_4, .int 0])), (q_4, .inl (ca 0, 16, .inl (fun _ => 0)))] := hD
  refine lv_aload_n hx hb d_MM_init_26 rfl (lv_at hl 0 rfl) ?_
  refine m_new M (wt := [(q_1, .inr (1, q_2)), (q_3, .inr (2, [.ref q_4, .int 0])), (q_4, .inl (ca 0, 16, .inl (fun _ => 0)))]) (ci := 2) (C := R_MB) (T := F_MB) (N := 2) (f0 := [.null, .int 0]) hP hD hS i_MB t_MB_ok xm_25 xm_26 xm_2 rfl (by decide +kernel) (Nat.le_of_ble_eq_true rfl) (Nat.le_of_ble_eq_true rfl) d_MM_init_27 d_MM_init_30 ?_
  clear hP hD hS
  intro q_5 H hP hD hS
  replace hP : va_P (dC, dI) classes [(h0, .inr (0, fs_2)), (q_1, .inr (1, q_2)), (q_3, .inr (2, [.ref q_4, .int 0])), (q_4, .inl (ca 0, 16, .inl (fun _ => 0))), (q_5, .inr (2, [.null, .int 0]))] H := hP
  replace hD : va_D A [(h0, .inr (0, fs_2)), (q_1, .inr (1, q_2)), (q_3, .inr (2, [.ref q_4, .int 0])), (q_4, .inl (ca 0, 16, .inl (fun _ => 0))), (q_5, .inr (2, [.null, .int 0]))] := hD
  refine W.widen (k := 4) (n := 28) (Nat.le_of_ble_eq_true rfl) (Nat.le_of_ble_eq_true rfl) ?_
  refine ax_IN (k := 0) (As := []) (rest := [.ref q_5, .ref h0]) (wr := [(h0, .inr (0, fs_2)), (q_1, .inr (1, q_2)), (q_3, .inr (2, [.ref q_4, .int 0])), (q_4, .inl (ca 0, 16, .inl (fun _ => 0)))]) rfl hx hb hml hown hts g_wm (mK_bl dC dI ca) (c_MB_init l dC dI ca q_5) rfl (hK.2.1 _ zm_3) xm_27 xm_2 xm_28 (by decide +kernel) rfl (Nat.le_of_ble_eq_true rfl) (Nat.le_of_ble_eq_true rfl) hl.1 (Nat.le_of_ble_eq_true rfl) (mK_up hK) hP hD hS hA [4] [0, 1, 2, 3] rfl (by decide) rfl rfl (by decide) (by decide) (Nat.le_of_ble_eq_true rfl) (Nat.le_of_ble_eq_true rfl) d_MM_init_31 ?_
  clear hP hD hS
  intro v q_6 H locs hp hP hD hS
  obtain rfl : v = none := hp
  replace hP : va_P (dC, dI) classes [(h0, .inr (0, fs_2)), (q_1, .inr (1, q_2)), (q_3, .inr (2, [.ref q_4, .int 0])), (q_4, .inl (ca 0, 16, .inl (fun _ => 0))), (q_5, .inr (2, [.ref q_6, .int 0])), (q_6, .inl (ca 0, 16, .inl (fun _ => 0)))] H := hP
  replace hD : va_D A [(h0, .inr (0, fs_2)), (q_1, .inr (1, q_2)), (q_3, .inr (2, [.ref q_4, .int 0])), (q_4, .inl (ca 0, 16, .inl (fun _ => 0))), (q_5, .inr (2, [.ref q_6, .int 0])), (q_6, .inl (ca 0, 16, .inl (fun _ => 0)))] := hD
  refine W.eq (g2 := F0 m 34 ls [.ref q_5, .ref h0]) rfl ?_
  refine W.widen (k := 5) (n := 44) (Nat.le_of_ble_eq_true rfl) (Nat.le_of_ble_eq_true rfl) ?_
  replace hP := hP.sub (ws' := [(h0, .inr (0, fs_2)), (q_1, .inr (1, q_2)), (q_3, .inr (2, [.ref q_4, .int 0])), (q_4, .inl (ca 0, 16, .inl (fun _ => 0)))]) [0, 1, 2, 3] rfl
  replace hD := hD.sub (ws' := [(h0, .inr (0, fs_2)), (q_1, .inr (1, q_2)), (q_3, .inr (2, [.ref q_4, .int 0])), (q_4, .inl (ca 0, 16, .inl (fun _ => 0)))]) [0, 1, 2, 3] (by decide) rfl
  refine m_put M (fs := fs_2) (wt := [(q_1, .inr (1, q_2)), (q_3, .inr (2, [.ref q_4, .int 0])), (q_4, .inl (ca 0, 16, .inl (fun _ => 0)))]) (k := 3) (ty := .object "SourceBackModel$Bytes") hP hD hS hlen (by decide) xm_76 rfl rfl (by decide +kernel) rfl rfl d_MM_init_34 ?_
  clear hP hD hS hlen
  intro H locs hlen hP hD hS
  obtain ⟨fs_3, e_3⟩ : ∃ z, z = fs_2.set 3 (.ref q_5) := ⟨_, rfl⟩
  rw [← e_3] at hP hD hlen
  replace hP : va_P (dC, dI) classes [(h0, .inr (0, fs_3)), (q_1, .inr (1, q_2)), (q_3, .inr (2, [.ref q_4, .int 0])), (q_4, .inl (ca 0, 16, .inl (fun _ => 0)))] H := hP
  replace hD : va_D A [(h0, .inr (0, fs_3)), (q_1, .inr (1, q_2)), (q_3, .inr (2, [.ref q_4, .int 0])), (q_4, .inl (ca 0, 16, .inl (fun _ => 0)))] := hD
  refine lv_aload_n hx hb d_MM_init_37 rfl (lv_at hl 0 rfl) ?_
  refine m_new M (wt := [(q_1, .inr (1, q_2)), (q_3, .inr (2, [.ref q_4, .int 0])), (q_4, .inl (ca 0, 16, .inl (fun _ => 0)))]) (ci := 3) (C := R_MI) (T := F_MI) (N := 2) (f0 := [.null, .int 0]) hP hD hS i_MI t_MI_ok xm_32 xm_33 xm_3 rfl (by decide +kernel) (Nat.le_of_ble_eq_true rfl) (Nat.le_of_ble_eq_true rfl) d_MM_init_38 d_MM_init_41 ?_
  clear hP hD hS
  intro q_7 H hP hD hS
  replace hP : va_P (dC, dI) classes [(h0, .inr (0, fs_3)), (q_1, .inr (1, q_2)), (q_3, .inr (2, [.ref q_4, .int 0])), (q_4, .inl (ca 0, 16, .inl (fun _ => 0))), (q_7, .inr (3, [.null, .int 0]))] H := hP
  replace hD : va_D A [(h0, .inr (0, fs_3)), (q_1, .inr (1, q_2)), (q_3, .inr (2, [.ref q_4, .int 0])), (q_4, .inl (ca 0, 16, .inl (fun _ => 0))), (q_7, .inr (3, [.null, .int 0]))] := hD
  refine W.widen (k := 6) (n := 46) (Nat.le_of_ble_eq_true rfl) (Nat.le_of_ble_eq_true rfl) ?_
  refine lv_iconst (v := 4) hx hb d_MM_init_42 (by decide) ?_
  refine ax_I (k := 1) (As := [.int 4]) (rest := [.ref q_7, .ref h0]) (wr := [(h0, .inr (0, fs_3)), (q_1, .inr (1, q_2)), (q_3, .inr (2, [.ref q_4, .int 0])), (q_4, .inl (ca 0, 16, .inl (fun _ => 0)))]) rfl hx hb hml hown hts g_wm (mK_bl dC dI ca) (c_MI_init l dC dI ca q_7) rfl xm_34 xm_35 xm_3 xm_36 (by decide +kernel) rfl (Nat.le_of_ble_eq_true rfl) (Nat.le_of_ble_eq_true rfl) hl.1 (Nat.le_of_ble_eq_true rfl) (mK_up hK) hP hD hS hA [4] [0, 1, 2, 3] rfl (by decide) rfl rfl (by decide) (by decide) (Nat.le_of_ble_eq_true rfl) (Nat.le_of_ble_eq_true rfl) d_MM_init_43 ?_
  clear hP hD hS
  intro v q_8 H locs hp hP hD hS
  obtain rfl : v = none := hp
  replace hP : va_P (dC, dI) classes [(h0, .inr (0, fs_3)), (q_1, .inr (1, q_2)), (q_3, .inr (2, [.ref q_4, .int 0])), (q_4, .inl (ca 0, 16, .inl (fun _ => 0))), (q_7, .inr (3, [.ref q_8, .int 0])), (q_8, .inl (ca 1, 4, .inl (fun _ => 0)))] H := hP
  replace hD : va_D A [(h0, .inr (0, fs_3)), (q_1, .inr (1, q_2)), (q_3, .inr (2, [.ref q_4, .int 0])), (q_4, .inl (ca 0, 16, .inl (fun _ => 0))), (q_7, .inr (3, [.ref q_8, .int 0])), (q_8, .inl (ca 1, 4, .inl (fun _ => 0)))] := hD
  refine W.eq (g2 := F0 m 46 ls [.ref q_7, .ref h0]) rfl ?_
  refine W.widen (k := 7) (n := 50) (Nat.le_of_ble_eq_true rfl) (Nat.le_of_ble_eq_true rfl) ?_
  replace hP := hP.sub (ws' := [(h0, .inr (0, fs_3)), (q_1, .inr (1, q_2)), (q_3, .inr (2, [.ref q_4, .int 0])), (q_4, .inl (ca 0, 16, .inl (fun _ => 0)))]) [0, 1, 2, 3] rfl
  replace hD := hD.sub (ws' := [(h0, .inr (0, fs_3)), (q_1, .inr (1, q_2)), (q_3, .inr (2, [.ref q_4, .int 0])), (q_4, .inl (ca 0, 16, .inl (fun _ => 0)))]) [0, 1, 2, 3] (by decide) rfl
  refine m_put M (fs := fs_3) (wt := [(q_1, .inr (1, q_2)), (q_3, .inr (2, [.ref q_4, .int 0])), (q_4, .inl (ca 0, 16, .inl (fun _ => 0)))]) (k := 4) (ty := .object "SourceBackModel$Ints") hP hD hS hlen (by decide) xm_77 rfl rfl (by decide +kernel) rfl rfl d_MM_init_46 ?_
  clear hP hD hS hlen
  intro H locs hlen hP hD hS
  obtain ⟨fs_4, e_4⟩ : ∃ z, z = fs_3.set 4 (.ref q_7) := ⟨_, rfl⟩
  rw [← e_4] at hP hD hlen
  replace hP : va_P (dC, dI) classes [(h0, .inr (0, fs_4)), (q_1, .inr (1, q_2)), (q_3, .inr (2, [.ref q_4, .int 0])), (q_4, .inl (ca 0, 16, .inl (fun _ => 0)))] H := hP
  replace hD : va_D A [(h0, .inr (0, fs_4)), (q_1, .inr (1, q_2)), (q_3, .inr (2, [.ref q_4, .int 0])), (q_4, .inl (ca 0, 16, .inl (fun _ => 0)))] := hD
  refine lv_aload_n hx hb d_MM_init_49 rfl (lv_at hl 0 rfl) ?_
  refine m_new M (wt := [(q_1, .inr (1, q_2)), (q_3, .inr (2, [.ref q_4, .int 0])), (q_4, .inl (ca 0, 16, .inl (fun _ => 0)))]) (ci := 3) (C := R_MI) (T := F_MI) (N := 2) (f0 := [.null, .int 0]) hP hD hS i_MI t_MI_ok xm_32 xm_33 xm_3 rfl (by decide +kernel) (Nat.le_of_ble_eq_true rfl) (Nat.le_of_ble_eq_true rfl) d_MM_init_50 d_MM_init_53 ?_
  clear hP hD hS
  intro q_9 H hP hD hS
  replace hP : va_P (dC, dI) classes [(h0, .inr (0, fs_4)), (q_1, .inr (1, q_2)), (q_3, .inr (2, [.ref q_4, .int 0])), (q_4, .inl (ca 0, 16, .inl (fun _ => 0))), (q_9, .inr (3, [.null, .int 0]))] H := hP
  replace hD : va_D A [(h0, .inr (0, fs_4)), (q_1, .inr (1, q_2)), (q_3, .inr (2, [.ref q_4, .int 0])), (q_4, .inl (ca 0, 16, .inl (fun _ => 0))), (q_9, .inr (3, [.null, .int 0]))] := hD
  refine W.widen (k := 8) (n := 52) (Nat.le_of_ble_eq_true rfl) (Nat.le_of_ble_eq_true rfl) ?_
  refine lv_iconst (v := 4) hx hb d_MM_init_54 (by decide) ?_
  refine ax_I (k := 1) (As := [.int 4]) (rest := [.ref q_9, .ref h0]) (wr := [(h0, .inr (0, fs_4)), (q_1, .inr (1, q_2)), (q_3, .inr (2, [.ref q_4, .int 0])), (q_4, .inl (ca 0, 16, .inl (fun _ => 0)))]) rfl hx hb hml hown hts g_wm (mK_bl dC dI ca) (c_MI_init l dC dI ca q_9) rfl xm_34 xm_35 xm_3 xm_36 (by decide +kernel) rfl (Nat.le_of_ble_eq_true rfl) (Nat.le_of_ble_eq_true rfl) hl.1 (Nat.le_of_ble_eq_true rfl) (mK_up hK) hP hD hS hA [4] [0, 1, 2, 3] rfl (by decide) rfl rfl (by decide) (by decide) (Nat.le_of_ble_eq_true rfl) (Nat.le_of_ble_eq_true rfl) d_MM_init_55 ?_
  clear hP hD hS
  intro v q_10 H locs hp hP hD hS
  obtain rfl : v = none := hp
  replace hP : va_P (dC, dI) classes [(h0, .inr (0, fs_4)), (q_1, .inr (1, q_2)), (q_3, .inr (2, [.ref q_4, .int 0])), (q_4, .inl (ca 0, 16, .inl (fun _ => 0))), (q_9, .inr (3, [.ref q_10, .int 0])), (q_10, .inl (ca 1, 4, .inl (fun _ => 0)))] H := hP
  replace hD : va_D A [(h0, .inr (0, fs_4)), (q_1, .inr (1, q_2)), (q_3, .inr (2, [.ref q_4, .int 0])), (q_4, .inl (ca 0, 16, .inl (fun _ => 0))), (q_9, .inr (3, [.ref q_10, .int 0])), (q_10, .inl (ca 1, 4, .inl (fun _ => 0)))] := hD
  refine W.eq (g2 := F0 m 58 ls [.ref q_9, .ref h0]) rfl ?_
  refine W.widen (k := 9) (n := 56) (Nat.le_of_ble_eq_true rfl) (Nat.le_of_ble_eq_true rfl) ?_
  replace hP := hP.sub (ws' := [(h0, .inr (0, fs_4)), (q_1, .inr (1, q_2)), (q_3, .inr (2, [.ref q_4, .int 0])), (q_4, .inl (ca 0, 16, .inl (fun _ => 0)))]) [0, 1, 2, 3] rfl
  replace hD := hD.sub (ws' := [(h0, .inr (0, fs_4)), (q_1, .inr (1, q_2)), (q_3, .inr (2, [.ref q_4, .int 0])), (q_4, .inl (ca 0, 16, .inl (fun _ => 0)))]) [0, 1, 2, 3] (by decide) rfl
  refine m_put M (fs := fs_4) (wt := [(q_1, .inr (1, q_2)), (q_3, .inr (2, [.ref q_4, .int 0])), (q_4, .inl (ca 0, 16, .inl (fun _ => 0)))]) (k := 5) (ty := .object "SourceBackModel$Ints") hP hD hS hlen (by decide) xm_78 rfl rfl (by decide +kernel) rfl rfl d_MM_init_58 ?_
  clear hP hD hS hlen
  intro H locs hlen hP hD hS
  obtain ⟨fs_5, e_5⟩ : ∃ z, z = fs_4.set 5 (.ref q_9) := ⟨_, rfl⟩
  rw [← e_5] at hP hD hlen
  replace hP : va_P (dC, dI) classes [(h0, .inr (0, fs_5)), (q_1, .inr (1, q_2)), (q_3, .inr (2, [.ref q_4, .int 0])), (q_4, .inl (ca 0, 16, .inl (fun _ => 0)))] H := hP
  replace hD : va_D A [(h0, .inr (0, fs_5)), (q_1, .inr (1, q_2)), (q_3, .inr (2, [.ref q_4, .int 0])), (q_4, .inl (ca 0, 16, .inl (fun _ => 0)))] := hD
  refine lv_aload_n hx hb d_MM_init_61 rfl (lv_at hl 0 rfl) ?_
  refine lv_bipush (v := 16) hx hb d_MM_init_62 (by decide +kernel) ?_
  refine m_refs M (fs := fs_5) (wt := [(q_1, .inr (1, q_2)), (q_3, .inr (2, [.ref q_4, .int 0])), (q_4, .inl (ca 0, 16, .inl (fun _ => 0)))]) (n := 16) (N' := 16) (k := 9) (tf := .array (.object "SourceBackModel$Box")) hP hD hS hlen xm_40 (List.mem_of_getElem? (i := 0) rfl) (by decide +kernel) (by decide +kernel) (by decide +kernel) (by decide) xm_82 rfl rfl (by decide +kernel) (fun _ => rfl) (fun _ => rfl) (Nat.le_of_ble_eq_true rfl) (Nat.le_of_ble_eq_true rfl) d_MM_init_64 d_MM_init_67 ?_
  clear hP hD hS hlen
  intro q_11 H locs hlen hP hD hS
  obtain ⟨fs_6, e_6⟩ : ∃ z, z = fs_5.set 9 (.ref q_11) := ⟨_, rfl⟩
  rw [← e_6] at hP hD hlen
  replace hP : va_P (dC, dI) classes [(h0, .inr (0, fs_6)), (q_1, .inr (1, q_2)), (q_3, .inr (2, [.ref q_4, .int 0])), (q_4, .inl (ca 0, 16, .inl (fun _ => 0)))] H := hP
  replace hD : va_D A [(h0, .inr (0, fs_6)), (q_1, .inr (1, q_2)), (q_3, .inr (2, [.ref q_4, .int 0])), (q_4, .inl (ca 0, 16, .inl (fun _ => 0)))] := hD
  refine W.widen (k := 10) (n := 72) (Nat.le_of_ble_eq_true rfl) (Nat.le_of_ble_eq_true rfl) ?_
  refine lv_aload_n hx hb d_MM_init_70 rfl (lv_at hl 0 rfl) ?_
  refine lv_sipush (v := 128) hx hb d_MM_init_71 (by decide +kernel) ?_
  refine m_refs M (fs := fs_6) (wt := [(q_1, .inr (1, q_2)), (q_3, .inr (2, [.ref q_4, .int 0])), (q_4, .inl (ca 0, 16, .inl (fun _ => 0)))]) (n := 128) (N' := 128) (k := 10) (tf := .array (.object "SourceBackModel$Box")) hP hD hS hlen xm_40 (List.mem_of_getElem? (i := 0) rfl) (by decide +kernel) (by decide +kernel) (by decide +kernel) (by decide) xm_83 rfl rfl (by decide +kernel) (fun _ => rfl) (fun _ => rfl) (Nat.le_of_ble_eq_true rfl) (Nat.le_of_ble_eq_true rfl) d_MM_init_74 d_MM_init_77 ?_
  clear hP hD hS hlen
  intro q_12 H locs hlen hP hD hS
  obtain ⟨fs_7, e_7⟩ : ∃ z, z = fs_6.set 10 (.ref q_12) := ⟨_, rfl⟩
  rw [← e_7] at hP hD hlen
  replace hP : va_P (dC, dI) classes [(h0, .inr (0, fs_7)), (q_1, .inr (1, q_2)), (q_3, .inr (2, [.ref q_4, .int 0])), (q_4, .inl (ca 0, 16, .inl (fun _ => 0)))] H := hP
  replace hD : va_D A [(h0, .inr (0, fs_7)), (q_1, .inr (1, q_2)), (q_3, .inr (2, [.ref q_4, .int 0])), (q_4, .inl (ca 0, 16, .inl (fun _ => 0)))] := hD
  refine W.widen (k := 11) (n := 200) (Nat.le_of_ble_eq_true rfl) (Nat.le_of_ble_eq_true rfl) ?_
  refine lv_aload_n hx hb d_MM_init_80 rfl (lv_at hl 0 rfl) ?_
  refine lv_bipush (v := 16) hx hb d_MM_init_81 (by decide +kernel) ?_
  refine m_arr M (atype := .int) (ty := .int) (fs := fs_7) (wt := [(q_1, .inr (1, q_2)), (q_3, .inr (2, [.ref q_4, .int 0])), (q_4, .inl (ca 0, 16, .inl (fun _ => 0)))]) (t0 := 1) (n := 16) (N' := 16) (k := 11) (tf := .array (.int)) (a0 := (16, .inl (fun _ => 0))) hP hD hS hlen rfl xm_11 rfl (fun C h => by cases h) (m_a_int 16) (by decide +kernel) (by decide +kernel) (by decide +kernel) (by decide) xm_84 rfl rfl (by decide +kernel) (fun _ => rfl) (fun _ => rfl) (Nat.le_of_ble_eq_true rfl) (Nat.le_of_ble_eq_true rfl) d_MM_init_83 d_MM_init_85 ?_
  clear hP hD hS hlen
  intro q_13 H locs hlen hP hD hS
  obtain ⟨fs_8, e_8⟩ : ∃ z, z = fs_7.set 11 (.ref q_13) := ⟨_, rfl⟩
  rw [← e_8] at hP hD hlen
  replace hP : va_P (dC, dI) classes [(h0, .inr (0, fs_8)), (q_1, .inr (1, q_2)), (q_3, .inr (2, [.ref q_4, .int 0])), (q_4, .inl (ca 0, 16, .inl (fun _ => 0)))] H := hP
  replace hD : va_D A [(h0, .inr (0, fs_8)), (q_1, .inr (1, q_2)), (q_3, .inr (2, [.ref q_4, .int 0])), (q_4, .inl (ca 0, 16, .inl (fun _ => 0)))] := hD
  refine W.widen (k := 12) (n := 216) (Nat.le_of_ble_eq_true rfl) (Nat.le_of_ble_eq_true rfl) ?_
  refine lv_aload_n hx hb d_MM_init_88 rfl (lv_at hl 0 rfl) ?_
  refine lv_sipush (v := 148) hx hb d_MM_init_89 (by decide +kernel) ?_
  refine ax_newqK (n := 148) (N' := 148) hx hb hown (hts _ xm_40) (hK.2.2 _ (List.mem_of_getElem? (i := 0) rfl)) hK.1 4 rfl hP hD hS hA (by decide +kernel) (by decide +kernel) (by decide +kernel) (Nat.le_of_ble_eq_true rfl) (Nat.le_of_ble_eq_true rfl) d_MM_init_92 ?_
  clear hP hD hS
  intro q_14 H hP hD hS
  replace hP : va_P (dC, dI) classes [(h0, .inr (0, fs_8)), (q_1, .inr (1, q_2)), (q_3, .inr (2, [.ref q_4, .int 0])), (q_4, .inl (ca 0, 16, .inl (fun _ => 0))), (q_14, .inl (ca 4, 148, .inr (.inr (.inr (.inr (fun _ => none))))))] H := hP
  replace hD : va_D A [(h0, .inr (0, fs_8)), (q_1, .inr (1, q_2)), (q_3, .inr (2, [.ref q_4, .int 0])), (q_4, .inl (ca 0, 16, .inl (fun _ => 0))), (q_14, .inl (ca 4, 148, .inr (.inr (.inr (.inr (fun _ => none))))))] := hD
  refine W.widen (k := 13) (n := 364) (Nat.le_of_ble_eq_true rfl) (Nat.le_of_ble_eq_true rfl) ?_
  refine m_put M (fs := fs_8) (wt := [(q_1, .inr (1, q_2)), (q_3, .inr (2, [.ref q_4, .int 0])), (q_4, .inl (ca 0, 16, .inl (fun _ => 0))), (q_14, .inl (ca 4, 148, .inr (.inr (.inr (.inr (fun _ => none))))))]) (k := 12) (ty := .array (.object "SourceBackModel$Box")) hP hD hS hlen (by decide) xm_85 rfl rfl (by decide +kernel) rfl rfl d_MM_init_95 ?_
  clear hP hD hS hlen
  intro H locs hlen hP hD hS
  obtain ⟨fs_9, e_9⟩ : ∃ z, z = fs_8.set 12 (.ref q_14) := ⟨_, rfl⟩
  rw [← e_9] at hP hD hlen
  replace hP : va_P (dC, dI) classes [(h0, .inr (0, fs_9)), (q_1, .inr (1, q_2)), (q_3, .inr (2, [.ref q_4, .int 0])), (q_4, .inl (ca 0, 16, .inl (fun _ => 0))), (q_14, .inl (ca 4, 148, .inr (.inr (.inr (.inr (fun _ => none))))))] H := hP
  replace hD : va_D A [(h0, .inr (0, fs_9)), (q_1, .inr (1, q_2)), (q_3, .inr (2, [.ref q_4, .int 0])), (q_4, .inl (ca 0, 16, .inl (fun _ => 0))), (q_14, .inl (ca 4, 148, .inr (.inr (.inr (.inr (fun _ => none))))))] := hD
  refine lv_aload_n hx hb d_MM_init_98 rfl (lv_at hl 0 rfl) ?_
  refine m_new M (wt := [(q_1, .inr (1, q_2)), (q_3, .inr (2, [.ref q_4, .int 0])), (q_4, .inl (ca 0, 16, .inl (fun _ => 0))), (q_14, .inl (ca 4, 148, .inr (.inr (.inr (.inr (fun _ => none))))))]) (ci := 3) (C := R_MI) (T := F_MI) (N := 2) (f0 := [.null, .int 0]) hP hD hS i_MI t_MI_ok xm_32 xm_33 xm_3 rfl (by decide +kernel) (Nat.le_of_ble_eq_true rfl) (Nat.le_of_ble_eq_true rfl) d_MM_init_99 d_MM_init_102 ?_
  clear hP hD hS
  intro q_15 H hP hD hS
  replace hP : va_P (dC, dI) classes [(h0, .inr (0, fs_9)), (q_1, .inr (1, q_2)), (q_3, .inr (2, [.ref q_4, .int 0])), (q_4, .inl (ca 0, 16, .inl (fun _ => 0))), (q_14, .inl (ca 4, 148, .inr (.inr (.inr (.inr (fun _ => none)))))), (q_15, .inr (3, [.null, .int 0]))] H := hP
  replace hD : va_D A [(h0, .inr (0, fs_9)), (q_1, .inr (1, q_2)), (q_3, .inr (2, [.ref q_4, .int 0])), (q_4, .inl (ca 0, 16, .inl (fun _ => 0))), (q_14, .inl (ca 4, 148, .inr (.inr (.inr (.inr (fun _ => none)))))), (q_15, .inr (3, [.null, .int 0]))] := hD
  refine W.widen (k := 14) (n := 366) (Nat.le_of_ble_eq_true rfl) (Nat.le_of_ble_eq_true rfl) ?_
  refine lv_iconst (v := 4) hx hb d_MM_init_103 (by decide) ?_
  refine ax_I (k := 1) (As := [.int 4]) (rest := [.ref q_15, .ref h0]) (wr := [(h0, .inr (0, fs_9)), (q_1, .inr (1, q_2)), (q_3, .inr (2, [.ref q_4, .int 0])), (q_4, .inl (ca 0, 16, .inl (fun _ => 0))), (q_14, .inl (ca 4, 148, .inr (.inr (.inr (.inr (fun _ => none))))))]) rfl hx hb hml hown hts g_wm (mK_bl dC dI ca) (c_MI_init l dC dI ca q_15) rfl xm_34 xm_35 xm_3 xm_36 (by decide +kernel) rfl (Nat.le_of_ble_eq_true rfl) (Nat.le_of_ble_eq_true rfl) hl.1 (Nat.le_of_ble_eq_true rfl) (mK_up hK) hP hD hS hA [5] [0, 1, 2, 3, 4] rfl (by decide) rfl rfl (by decide) (by decide) (Nat.le_of_ble_eq_true rfl) (Nat.le_of_ble_eq_true rfl) d_MM_init_104 ?_
  clear hP hD hS
  intro v q_16 H locs hp hP hD hS
  obtain rfl : v = none := hp
  replace hP : va_P (dC, dI) classes [(h0, .inr (0, fs_9)), (q_1, .inr (1, q_2)), (q_3, .inr (2, [.ref q_4, .int 0])), (q_4, .inl (ca 0, 16, .inl (fun _ => 0))), (q_14, .inl (ca 4, 148, .inr (.inr (.inr (.inr (fun _ => none)))))), (q_15, .inr (3, [.ref q_16, .int 0])), (q_16, .inl (ca 1, 4, .inl (fun _ => 0)))] H := hP
  replace hD : va_D A [(h0, .inr (0, fs_9)), (q_1, .inr (1, q_2)), (q_3, .inr (2, [.ref q_4, .int 0])), (q_4, .inl (ca 0, 16, .inl (fun _ => 0))), (q_14, .inl (ca 4, 148, .inr (.inr (.inr (.inr (fun _ => none)))))), (q_15, .inr (3, [.ref q_16, .int 0])), (q_16, .inl (ca 1, 4, .inl (fun _ => 0)))] := hD
  refine W.eq (g2 := F0 m 107 ls [.ref q_15, .ref h0]) rfl ?_
  refine W.widen (k := 15) (n := 370) (Nat.le_of_ble_eq_true rfl) (Nat.le_of_ble_eq_true rfl) ?_
  replace hP := hP.sub (ws' := [(h0, .inr (0, fs_9)), (q_1, .inr (1, q_2)), (q_3, .inr (2, [.ref q_4, .int 0])), (q_4, .inl (ca 0, 16, .inl (fun _ => 0))), (q_14, .inl (ca 4, 148, .inr (.inr (.inr (.inr (fun _ => none))))))]) [0, 1, 2, 3, 4] rfl
  replace hD := hD.sub (ws' := [(h0, .inr (0, fs_9)), (q_1, .inr (1, q_2)), (q_3, .inr (2, [.ref q_4, .int 0])), (q_4, .inl (ca 0, 16, .inl (fun _ => 0))), (q_14, .inl (ca 4, 148, .inr (.inr (.inr (.inr (fun _ => none))))))]) [0, 1, 2, 3, 4] (by decide) rfl
  refine m_put M (fs := fs_9) (wt := [(q_1, .inr (1, q_2)), (q_3, .inr (2, [.ref q_4, .int 0])), (q_4, .inl (ca 0, 16, .inl (fun _ => 0))), (q_14, .inl (ca 4, 148, .inr (.inr (.inr (.inr (fun _ => none))))))]) (k := 15) (ty := .object "SourceBackModel$Ints") hP hD hS hlen (by decide) xm_88 rfl rfl (by decide +kernel) rfl rfl d_MM_init_107 ?_
  clear hP hD hS hlen
  intro H locs hlen hP hD hS
  obtain ⟨fs_10, e_10⟩ : ∃ z, z = fs_9.set 15 (.ref q_15) := ⟨_, rfl⟩
  rw [← e_10] at hP hD hlen
  replace hP : va_P (dC, dI) classes [(h0, .inr (0, fs_10)), (q_1, .inr (1, q_2)), (q_3, .inr (2, [.ref q_4, .int 0])), (q_4, .inl (ca 0, 16, .inl (fun _ => 0))), (q_14, .inl (ca 4, 148, .inr (.inr (.inr (.inr (fun _ => none))))))] H := hP
  replace hD : va_D A [(h0, .inr (0, fs_10)), (q_1, .inr (1, q_2)), (q_3, .inr (2, [.ref q_4, .int 0])), (q_4, .inl (ca 0, 16, .inl (fun _ => 0))), (q_14, .inl (ca 4, 148, .inr (.inr (.inr (.inr (fun _ => none))))))] := hD
  refine lv_aload_n hx hb d_MM_init_110 rfl (lv_at hl 0 rfl) ?_
  refine m_new M (wt := [(q_1, .inr (1, q_2)), (q_3, .inr (2, [.ref q_4, .int 0])), (q_4, .inl (ca 0, 16, .inl (fun _ => 0))), (q_14, .inl (ca 4, 148, .inr (.inr (.inr (.inr (fun _ => none))))))]) (ci := 5) (C := R_MR) (T := F_MR) (N := 24) (f0 := [.int 0, .int 0, .int 0, .int 0, .int 0, .int 0, .int 0, .null, .null, .null, .null, .null, .null, .null, .null, .null, .null, .null, .int 0, .int 0, .int 0, .int 0, .null, .int 0]) hP hD hS i_MR t_MR_ok xm_41 xm_42 xm_4 rfl (by decide +kernel) (Nat.le_of_ble_eq_true rfl) (Nat.le_of_ble_eq_true rfl) d_MM_init_111 d_MM_init_114 ?_
  clear hP hD hS
  intro q_17 H hP hD hS
  replace hP : va_P (dC, dI) classes [(h0, .inr (0, fs_10)), (q_1, .inr (1, q_2)), (q_3, .inr (2, [.ref q_4, .int 0])), (q_4, .inl (ca 0, 16, .inl (fun _ => 0))), (q_14, .inl (ca 4, 148, .inr (.inr (.inr (.inr (fun _ => none)))))), (q_17, .inr (5, [.int 0, .int 0, .int 0, .int 0, .int 0, .int 0, .int 0, .null, .null, .null, .null, .null, .null, .null, .null, .null, .null, .null, .int 0, .int 0, .int 0, .int 0, .null, .int 0]))] H := hP
  replace hD : va_D A [(h0, .inr (0, fs_10)), (q_1, .inr (1, q_2)), (q_3, .inr (2, [.ref q_4, .int 0])), (q_4, .inl (ca 0, 16, .inl (fun _ => 0))), (q_14, .inl (ca 4, 148, .inr (.inr (.inr (.inr (fun _ => none)))))), (q_17, .inr (5, [.int 0, .int 0, .int 0, .int 0, .int 0, .int 0, .int 0, .null, .null, .null, .null, .null, .null, .null, .null, .null, .null, .null, .int 0, .int 0, .int 0, .int 0, .null, .int 0]))] := hD
  refine W.widen (k := 16) (n := 394) (Nat.le_of_ble_eq_true rfl) (Nat.le_of_ble_eq_true rfl) ?_
  refine lv_iconst (v := 4) hx hb d_MM_init_115 (by decide) ?_
  refine lv_iconst (v := 4) hx hb d_MM_init_116 (by decide) ?_
  refine ax_I (k := 2) (As := [.int 4, .int 4]) (rest := [.ref q_17, .ref h0]) (wr := [(h0, .inr (0, fs_10)), (q_1, .inr (1, q_2)), (q_3, .inr (2, [.ref q_4, .int 0])), (q_4, .inl (ca 0, 16, .inl (fun _ => 0))), (q_14, .inl (ca 4, 148, .inr (.inr (.inr (.inr (fun _ => none))))))]) rfl hx hb hml hown hts g_wm (mK_bl dC dI ca) (c_MR_init l dC dI ca q_17) rfl xm_43 xm_44 xm_4 xm_45 (by decide +kernel) rfl (Nat.le_of_ble_eq_true rfl) (Nat.le_of_ble_eq_true rfl) hl.1 (Nat.le_of_ble_eq_true rfl) (mK_up hK) hP hD hS hA [5] [0, 1, 2, 3, 4] rfl (by decide) rfl rfl (by decide) (by decide) (Nat.le_of_ble_eq_true rfl) (Nat.le_of_ble_eq_true rfl) d_MM_init_117 ?_
  clear hP hD hS
  intro v q_18 H locs hp hP hD hS
  obtain rfl : v = none := hp
  replace hP : va_P (dC, dI) classes [(h0, .inr (0, fs_10)), (q_1, .inr (1, q_2)), (q_3, .inr (2, [.ref q_4, .int 0])), (q_4, .inl (ca 0, 16, .inl (fun _ => 0))), (q_14, .inl (ca 4, 148, .inr (.inr (.inr (.inr (fun _ => none)))))), (q_17, .inr (5, q_18))] H := hP
  replace hD : va_D A [(h0, .inr (0, fs_10)), (q_1, .inr (1, q_2)), (q_3, .inr (2, [.ref q_4, .int 0])), (q_4, .inl (ca 0, 16, .inl (fun _ => 0))), (q_14, .inl (ca 4, 148, .inr (.inr (.inr (.inr (fun _ => none)))))), (q_17, .inr (5, q_18))] := hD
  refine W.eq (g2 := F0 m 120 ls [.ref q_17, .ref h0]) rfl ?_
  refine W.widen (k := 36) (n := 454) (Nat.le_of_ble_eq_true rfl) (Nat.le_of_ble_eq_true rfl) ?_
  replace hP := hP.sub (ws' := [(h0, .inr (0, fs_10)), (q_1, .inr (1, q_2)), (q_3, .inr (2, [.ref q_4, .int 0])), (q_4, .inl (ca 0, 16, .inl (fun _ => 0))), (q_14, .inl (ca 4, 148, .inr (.inr (.inr (.inr (fun _ => none))))))]) [0, 1, 2, 3, 4] rfl
  replace hD := hD.sub (ws' := [(h0, .inr (0, fs_10)), (q_1, .inr (1, q_2)), (q_3, .inr (2, [.ref q_4, .int 0])), (q_4, .inl (ca 0, 16, .inl (fun _ => 0))), (q_14, .inl (ca 4, 148, .inr (.inr (.inr (.inr (fun _ => none))))))]) [0, 1, 2, 3, 4] (by decide) rfl
  refine m_put M (fs := fs_10) (wt := [(q_1, .inr (1, q_2)), (q_3, .inr (2, [.ref q_4, .int 0])), (q_4, .inl (ca 0, 16, .inl (fun _ => 0))), (q_14, .inl (ca 4, 148, .inr (.inr (.inr (.inr (fun _ => none))))))]) (k := 17) (ty := .object "SourceBackModel$Member") hP hD hS hlen (by decide) xm_90 rfl rfl (by decide +kernel) rfl rfl d_MM_init_120 ?_
  clear hP hD hS hlen
  intro H locs hlen hP hD hS
  obtain ⟨fs_11, e_11⟩ : ∃ z, z = fs_10.set 17 (.ref q_17) := ⟨_, rfl⟩
  rw [← e_11] at hP hD hlen
  replace hP : va_P (dC, dI) classes [(h0, .inr (0, fs_11)), (q_1, .inr (1, q_2)), (q_3, .inr (2, [.ref q_4, .int 0])), (q_4, .inl (ca 0, 16, .inl (fun _ => 0))), (q_14, .inl (ca 4, 148, .inr (.inr (.inr (.inr (fun _ => none))))))] H := hP
  replace hD : va_D A [(h0, .inr (0, fs_11)), (q_1, .inr (1, q_2)), (q_3, .inr (2, [.ref q_4, .int 0])), (q_4, .inl (ca 0, 16, .inl (fun _ => 0))), (q_14, .inl (ca 4, 148, .inr (.inr (.inr (.inr (fun _ => none))))))] := hD
  refine lv_aload_n hx hb d_MM_init_123 rfl (lv_at hl 0 rfl) ?_
  refine lv_ldc (v := 240000) hx hb hown (hts _ xm_67) d_MM_init_124 ?_
  refine m_arr M (atype := .byte) (ty := .byte) (fs := fs_11) (wt := [(q_1, .inr (1, q_2)), (q_3, .inr (2, [.ref q_4, .int 0])), (q_4, .inl (ca 0, 16, .inl (fun _ => 0))), (q_14, .inl (ca 4, 148, .inr (.inr (.inr (.inr (fun _ => none))))))]) (t0 := 0) (n := 240000) (N' := 240000) (k := 18) (tf := .array (.byte)) (a0 := (240000, .inl (fun _ => 0))) hP hD hS hlen rfl xm_10 rfl (fun C h => by cases h) (m_a_byte 240000) (by decide +kernel) (by decide +kernel) (by decide +kernel) (by decide) xm_91 rfl rfl (by decide +kernel) (fun _ => rfl) (fun _ => rfl) (Nat.le_of_ble_eq_true rfl) (Nat.le_of_ble_eq_true rfl) d_MM_init_126 d_MM_init_128 ?_
  clear hP hD hS hlen
  intro q_19 H locs hlen hP hD hS
  obtain ⟨fs_12, e_12⟩ : ∃ z, z = fs_11.set 18 (.ref q_19) := ⟨_, rfl⟩
  rw [← e_12] at hP hD hlen
  replace hP : va_P (dC, dI) classes [(h0, .inr (0, fs_12)), (q_1, .inr (1, q_2)), (q_3, .inr (2, [.ref q_4, .int 0])), (q_4, .inl (ca 0, 16, .inl (fun _ => 0))), (q_14, .inl (ca 4, 148, .inr (.inr (.inr (.inr (fun _ => none))))))] H := hP
  replace hD : va_D A [(h0, .inr (0, fs_12)), (q_1, .inr (1, q_2)), (q_3, .inr (2, [.ref q_4, .int 0])), (q_4, .inl (ca 0, 16, .inl (fun _ => 0))), (q_14, .inl (ca 4, 148, .inr (.inr (.inr (.inr (fun _ => none))))))] := hD
  refine W.widen (k := 37) (n := 240454) (Nat.le_of_ble_eq_true rfl) (Nat.le_of_ble_eq_true rfl) ?_
  refine lv_aload_n hx hb d_MM_init_131 rfl (lv_at hl 0 rfl) ?_
  refine lv_ldc (v := 244000) hx hb hown (hts _ xm_68) d_MM_init_132 ?_
  refine m_arr M (atype := .byte) (ty := .byte) (fs := fs_12) (wt := [(q_1, .inr (1, q_2)), (q_3, .inr (2, [.ref q_4, .int 0])), (q_4, .inl (ca 0, 16, .inl (fun _ => 0))), (q_14, .inl (ca 4, 148, .inr (.inr (.inr (.inr (fun _ => none))))))]) (t0 := 0) (n := 244000) (N' := 244000) (k := 19) (tf := .array (.byte)) (a0 := (244000, .inl (fun _ => 0))) hP hD hS hlen rfl xm_10 rfl (fun C h => by cases h) (m_a_byte 244000) (by decide +kernel) (by decide +kernel) (by decide +kernel) (by decide) xm_92 rfl rfl (by decide +kernel) (fun _ => rfl) (fun _ => rfl) (Nat.le_of_ble_eq_true rfl) (Nat.le_of_ble_eq_true rfl) d_MM_init_134 d_MM_init_136 ?_
  clear hP hD hS hlen
  intro q_20 H locs hlen hP hD hS
  obtain ⟨fs_13, e_13⟩ : ∃ z, z = fs_12.set 19 (.ref q_20) := ⟨_, rfl⟩
  rw [← e_13] at hP hD hlen
  replace hP : va_P (dC, dI) classes [(h0, .inr (0, fs_13)), (q_1, .inr (1, q_2)), (q_3, .inr (2, [.ref q_4, .int 0])), (q_4, .inl (ca 0, 16, .inl (fun _ => 0))), (q_14, .inl (ca 4, 148, .inr (.inr (.inr (.inr (fun _ => none))))))] H := hP
  replace hD : va_D A [(h0, .inr (0, fs_13)), (q_1, .inr (1, q_2)), (q_3, .inr (2, [.ref q_4, .int 0])), (q_4, .inl (ca 0, 16, .inl (fun _ => 0))), (q_14, .inl (ca 4, 148, .inr (.inr (.inr (.inr (fun _ => none))))))] := hD
  refine W.widen (k := 38) (n := 484454) (Nat.le_of_ble_eq_true rfl) (Nat.le_of_ble_eq_true rfl) ?_
  refine lv_aload_n hx hb d_MM_init_139 rfl (lv_at hl 0 rfl) ?_
  refine lv_sipush (v := 4000) hx hb d_MM_init_140 (by decide +kernel) ?_
  refine m_arr M (atype := .int) (ty := .int) (fs := fs_13) (wt := [(q_1, .inr (1, q_2)), (q_3, .inr (2, [.ref q_4, .int 0])), (q_4, .inl (ca 0, 16, .inl (fun _ => 0))), (q_14, .inl (ca 4, 148, .inr (.inr (.inr (.inr (fun _ => none))))))]) (t0 := 1) (n := 4000) (N' := 4000) (k := 20) (tf := .array (.int)) (a0 := (4000, .inl (fun _ => 0))) hP hD hS hlen rfl xm_11 rfl (fun C h => by cases h) (m_a_int 4000) (by decide +kernel) (by decide +kernel) (by decide +kernel) (by decide) xm_93 rfl rfl (by decide +kernel) (fun _ => rfl) (fun _ => rfl) (Nat.le_of_ble_eq_true rfl) (Nat.le_of_ble_eq_true rfl) d_MM_init_143 d_MM_init_145 ?_
  clear hP hD hS hlen
  intro q_21 H locs hlen hP hD hS
  obtain ⟨fs_14, e_14⟩ : ∃ z, z = fs_13.set 20 (.ref q_21) := ⟨_, rfl⟩
  rw [← e_14] at hP hD hlen
  replace hP : va_P (dC, dI) classes [(h0, .inr (0, fs_14)), (q_1, .inr (1, q_2)), (q_3, .inr (2, [.ref q_4, .int 0])), (q_4, .inl (ca 0, 16, .inl (fun _ => 0))), (q_14, .inl (ca 4, 148, .inr (.inr (.inr (.inr (fun _ => none))))))] H := hP
  replace hD : va_D A [(h0, .inr (0, fs_14)), (q_1, .inr (1, q_2)), (q_3, .inr (2, [.ref q_4, .int 0])), (q_4, .inl (ca 0, 16, .inl (fun _ => 0))), (q_14, .inl (ca 4, 148, .inr (.inr (.inr (.inr (fun _ => none))))))] := hD
  refine W.widen (k := 39) (n := 488454) (Nat.le_of_ble_eq_true rfl) (Nat.le_of_ble_eq_true rfl) ?_
  refine lv_aload_n hx hb d_MM_init_148 rfl (lv_at hl 0 rfl) ?_
  refine lv_bipush (v := 60) hx hb d_MM_init_149 (by decide +kernel) ?_
  refine m_arr M (atype := .byte) (ty := .byte) (fs := fs_14) (wt := [(q_1, .inr (1, q_2)), (q_3, .inr (2, [.ref q_4, .int 0])), (q_4, .inl (ca 0, 16, .inl (fun _ => 0))), (q_14, .inl (ca 4, 148, .inr (.inr (.inr (.inr (fun _ => none))))))]) (t0 := 0) (n := 60) (N' := 60) (k := 21) (tf := .array (.byte)) (a0 := (60, .inl (fun _ => 0))) hP hD hS hlen rfl xm_10 rfl (fun C h => by cases h) (m_a_byte 60) (by decide +kernel) (by decide +kernel) (by decide +kernel) (by decide) xm_94 rfl rfl (by decide +kernel) (fun _ => rfl) (fun _ => rfl) (Nat.le_of_ble_eq_true rfl) (Nat.le_of_ble_eq_true rfl) d_MM_init_151 d_MM_init_153 ?_
  clear hP hD hS hlen
  intro q_22 H locs hlen hP hD hS
  obtain ⟨fs_15, e_15⟩ : ∃ z, z = fs_14.set 21 (.ref q_22) := ⟨_, rfl⟩
  rw [← e_15] at hP hD hlen
  replace hP : va_P (dC, dI) classes [(h0, .inr (0, fs_15)), (q_1, .inr (1, q_2)), (q_3, .inr (2, [.ref q_4, .int 0])), (q_4, .inl (ca 0, 16, .inl (fun _ => 0))), (q_14, .inl (ca 4, 148, .inr (.inr (.inr (.inr (fun _ => none))))))] H := hP
  replace hD : va_D A [(h0, .inr (0, fs_15)), (q_1, .inr (1, q_2)), (q_3, .inr (2, [.ref q_4, .int 0])), (q_4, .inl (ca 0, 16, .inl (fun _ => 0))), (q_14, .inl (ca 4, 148, .inr (.inr (.inr (.inr (fun _ => none))))))] := hD
  refine W.widen (k := 40) (n := 488514) (Nat.le_of_ble_eq_true rfl) (Nat.le_of_ble_eq_true rfl) ?_
  refine lv_aload_n hx hb d_MM_init_156 rfl (lv_at hl 0 rfl) ?_
  refine lv_bipush (v := 80) hx hb d_MM_init_157 (by decide +kernel) ?_
  refine m_arr M (atype := .byte) (ty := .byte) (fs := fs_15) (wt := [(q_1, .inr (1, q_2)), (q_3, .inr (2, [.ref q_4, .int 0])), (q_4, .inl (ca 0, 16, .inl (fun _ => 0))), (q_14, .inl (ca 4, 148, .inr (.inr (.inr (.inr (fun _ => none))))))]) (t0 := 0) (n := 80) (N' := 80) (k := 22) (tf := .array (.byte)) (a0 := (80, .inl (fun _ => 0))) hP hD hS hlen rfl xm_10 rfl (fun C h => by cases h) (m_a_byte 80) (by decide +kernel) (by decide +kernel) (by decide +kernel) (by decide) xm_95 rfl rfl (by decide +kernel) (fun _ => rfl) (fun _ => rfl) (Nat.le_of_ble_eq_true rfl) (Nat.le_of_ble_eq_true rfl) d_MM_init_159 d_MM_init_161 ?_
  clear hP hD hS hlen
  intro q_23 H locs hlen hP hD hS
  obtain ⟨fs_16, e_16⟩ : ∃ z, z = fs_15.set 22 (.ref q_23) := ⟨_, rfl⟩
  rw [← e_16] at hP hD hlen
  replace hP : va_P (dC, dI) classes [(h0, .inr (0, fs_16)), (q_1, .inr (1, q_2)), (q_3, .inr (2, [.ref q_4, .int 0])), (q_4, .inl (ca 0, 16, .inl (fun _ => 0))), (q_14, .inl (ca 4, 148, .inr (.inr (.inr (.inr (fun _ => none))))))] H := hP
  replace hD : va_D A [(h0, .inr (0, fs_16)), (q_1, .inr (1, q_2)), (q_3, .inr (2, [.ref q_4, .int 0])), (q_4, .inl (ca 0, 16, .inl (fun _ => 0))), (q_14, .inl (ca 4, 148, .inr (.inr (.inr (.inr (fun _ => none))))))] := hD
  refine W.widen (k := 41) (n := 488594) (Nat.le_of_ble_eq_true rfl) (Nat.le_of_ble_eq_true rfl) ?_
  refine lv_aload_n hx hb d_MM_init_164 rfl (lv_at hl 0 rfl) ?_
  refine lv_sipush (v := 4001) hx hb d_MM_init_165 (by decide +kernel) ?_
  refine m_arr M (atype := .boolean) (ty := .boolean) (fs := fs_16) (wt := [(q_1, .inr (1, q_2)), (q_3, .inr (2, [.ref q_4, .int 0])), (q_4, .inl (ca 0, 16, .inl (fun _ => 0))), (q_14, .inl (ca 4, 148, .inr (.inr (.inr (.inr (fun _ => none))))))]) (t0 := 3) (n := 4001) (N' := 4001) (k := 27) (tf := .array (.boolean)) (a0 := (4001, .inl (fun _ => 0))) hP hD hS hlen rfl xm_174 rfl (fun C h => by cases h) (m_a_boolean 4001) (by decide +kernel) (by decide +kernel) (by decide +kernel) (by decide) xm_97 rfl rfl (by decide +kernel) (fun _ => rfl) (fun _ => rfl) (Nat.le_of_ble_eq_true rfl) (Nat.le_of_ble_eq_true rfl) d_MM_init_168 d_MM_init_170 ?_
  clear hP hD hS hlen
  intro q_24 H locs hlen hP hD hS
  obtain ⟨fs_17, e_17⟩ : ∃ z, z = fs_16.set 27 (.ref q_24) := ⟨_, rfl⟩
  rw [← e_17] at hP hD hlen
  replace hP : va_P (dC, dI) classes [(h0, .inr (0, fs_17)), (q_1, .inr (1, q_2)), (q_3, .inr (2, [.ref q_4, .int 0])), (q_4, .inl (ca 0, 16, .inl (fun _ => 0))), (q_14, .inl (ca 4, 148, .inr (.inr (.inr (.inr (fun _ => none))))))] H := hP
  replace hD : va_D A [(h0, .inr (0, fs_17)), (q_1, .inr (1, q_2)), (q_3, .inr (2, [.ref q_4, .int 0])), (q_4, .inl (ca 0, 16, .inl (fun _ => 0))), (q_14, .inl (ca 4, 148, .inr (.inr (.inr (.inr (fun _ => none))))))] := hD
  refine W.widen (k := 42) (n := 492595) (Nat.le_of_ble_eq_true rfl) (Nat.le_of_ble_eq_true rfl) ?_
  refine lv_aload_n hx hb d_MM_init_173 rfl (lv_at hl 0 rfl) ?_
  refine lv_sipush (v := 4000) hx hb d_MM_init_174 (by decide +kernel) ?_
  refine m_arr M (atype := .int) (ty := .int) (fs := fs_17) (wt := [(q_1, .inr (1, q_2)), (q_3, .inr (2, [.ref q_4, .int 0])), (q_4, .inl (ca 0, 16, .inl (fun _ => 0))), (q_14, .inl (ca 4, 148, .inr (.inr (.inr (.inr (fun _ => none))))))]) (t0 := 1) (n := 4000) (N' := 4000) (k := 28) (tf := .array (.int)) (a0 := (4000, .inl (fun _ => 0))) hP hD hS hlen rfl xm_11 rfl (fun C h => by cases h) (m_a_int 4000) (by decide +kernel) (by decide +kernel) (by decide +kernel) (by decide) xm_98 rfl rfl (by decide +kernel) (fun _ => rfl) (fun _ => rfl) (Nat.le_of_ble_eq_true rfl) (Nat.le_of_ble_eq_true rfl) d_MM_init_177 d_MM_init_179 ?_
  clear hP hD hS hlen
  intro q_25 H locs hlen hP hD hS
  obtain ⟨fs_18, e_18⟩ : ∃ z, z = fs_17.set 28 (.ref q_25) := ⟨_, rfl⟩
  rw [← e_18] at hP hD hlen
  replace hP : va_P (dC, dI) classes [(h0, .inr (0, fs_18)), (q_1, .inr (1, q_2)), (q_3, .inr (2, [.ref q_4, .int 0])), (q_4, .inl (ca 0, 16, .inl (fun _ => 0))), (q_14, .inl (ca 4, 148, .inr (.inr (.inr (.inr (fun _ => none))))))] H := hP
  replace hD : va_D A [(h0, .inr (0, fs_18)), (q_1, .inr (1, q_2)), (q_3, .inr (2, [.ref q_4, .int 0])), (q_4, .inl (ca 0, 16, .inl (fun _ => 0))), (q_14, .inl (ca 4, 148, .inr (.inr (.inr (.inr (fun _ => none))))))] := hD
  refine W.widen (k := 43) (n := 496595) (Nat.le_of_ble_eq_true rfl) (Nat.le_of_ble_eq_true rfl) ?_
  refine lv_aload_n hx hb d_MM_init_182 rfl (lv_at hl 0 rfl) ?_
  refine lv_sipush (v := 4000) hx hb d_MM_init_183 (by decide +kernel) ?_
  refine m_arr M (atype := .int) (ty := .int) (fs := fs_18) (wt := [(q_1, .inr (1, q_2)), (q_3, .inr (2, [.ref q_4, .int 0])), (q_4, .inl (ca 0, 16, .inl (fun _ => 0))), (q_14, .inl (ca 4, 148, .inr (.inr (.inr (.inr (fun _ => none))))))]) (t0 := 1) (n := 4000) (N' := 4000) (k := 29) (tf := .array (.int)) (a0 := (4000, .inl (fun _ => 0))) hP hD hS hlen rfl xm_11 rfl (fun C h => by cases h) (m_a_int 4000) (by decide +kernel) (by decide +kernel) (by decide +kernel) (by decide) xm_99 rfl rfl (by decide +kernel) (fun _ => rfl) (fun _ => rfl) (Nat.le_of_ble_eq_true rfl) (Nat.le_of_ble_eq_true rfl) d_MM_init_186 d_MM_init_188 ?_
  clear hP hD hS hlen
  intro q_26 H locs hlen hP hD hS
  obtain ⟨fs_19, e_19⟩ : ∃ z, z = fs_18.set 29 (.ref q_26) := ⟨_, rfl⟩
  rw [← e_19] at hP hD hlen
  replace hP : va_P (dC, dI) classes [(h0, .inr (0, fs_19)), (q_1, .inr (1, q_2)), (q_3, .inr (2, [.ref q_4, .int 0])), (q_4, .inl (ca 0, 16, .inl (fun _ => 0))), (q_14, .inl (ca 4, 148, .inr (.inr (.inr (.inr (fun _ => none))))))] H := hP
  replace hD : va_D A [(h0, .inr (0, fs_19)), (q_1, .inr (1, q_2)), (q_3, .inr (2, [.ref q_4, .int 0])), (q_4, .inl (ca 0, 16, .inl (fun _ => 0))), (q_14, .inl (ca 4, 148, .inr (.inr (.inr (.inr (fun _ => none))))))] := hD
  refine W.widen (k := 44) (n := 500595) (Nat.le_of_ble_eq_true rfl) (Nat.le_of_ble_eq_true rfl) ?_
  refine lv_aload_n hx hb d_MM_init_191 rfl (lv_at hl 0 rfl) ?_
  refine lv_sipush (v := 4000) hx hb d_MM_init_192 (by decide +kernel) ?_
  refine m_arr M (atype := .int) (ty := .int) (fs := fs_19) (wt := [(q_1, .inr (1, q_2)), (q_3, .inr (2, [.ref q_4, .int 0])), (q_4, .inl (ca 0, 16, .inl (fun _ => 0))), (q_14, .inl (ca 4, 148, .inr (.inr (.inr (.inr (fun _ => none))))))]) (t0 := 1) (n := 4000) (N' := 4000) (k := 30) (tf := .array (.int)) (a0 := (4000, .inl (fun _ => 0))) hP hD hS hlen rfl xm_11 rfl (fun C h => by cases h) (m_a_int 4000) (by decide +kernel) (by decide +kernel) (by decide +kernel) (by decide) xm_100 rfl rfl (by decide +kernel) (fun _ => rfl) (fun _ => rfl) (Nat.le_of_ble_eq_true rfl) (Nat.le_of_ble_eq_true rfl) d_MM_init_195 d_MM_init_197 ?_
  clear hP hD hS hlen
  intro q_27 H locs hlen hP hD hS
  obtain ⟨fs_20, e_20⟩ : ∃ z, z = fs_19.set 30 (.ref q_27) := ⟨_, rfl⟩
  rw [← e_20] at hP hD hlen
  replace hP : va_P (dC, dI) classes [(h0, .inr (0, fs_20)), (q_1, .inr (1, q_2)), (q_3, .inr (2, [.ref q_4, .int 0])), (q_4, .inl (ca 0, 16, .inl (fun _ => 0))), (q_14, .inl (ca 4, 148, .inr (.inr (.inr (.inr (fun _ => none))))))] H := hP
  replace hD : va_D A [(h0, .inr (0, fs_20)), (q_1, .inr (1, q_2)), (q_3, .inr (2, [.ref q_4, .int 0])), (q_4, .inl (ca 0, 16, .inl (fun _ => 0))), (q_14, .inl (ca 4, 148, .inr (.inr (.inr (.inr (fun _ => none))))))] := hD
  refine W.widen (k := 45) (n := 504595) (Nat.le_of_ble_eq_true rfl) (Nat.le_of_ble_eq_true rfl) ?_
  refine lv_aload_n hx hb d_MM_init_200 rfl (lv_at hl 0 rfl) ?_
  refine lv_sipush (v := 4000) hx hb d_MM_init_201 (by decide +kernel) ?_
  refine m_arr M (atype := .int) (ty := .int) (fs := fs_20) (wt := [(q_1, .inr (1, q_2)), (q_3, .inr (2, [.ref q_4, .int 0])), (q_4, .inl (ca 0, 16, .inl (fun _ => 0))), (q_14, .inl (ca 4, 148, .inr (.inr (.inr (.inr (fun _ => none))))))]) (t0 := 1) (n := 4000) (N' := 4000) (k := 31) (tf := .array (.int)) (a0 := (4000, .inl (fun _ => 0))) hP hD hS hlen rfl xm_11 rfl (fun C h => by cases h) (m_a_int 4000) (by decide +kernel) (by decide +kernel) (by decide +kernel) (by decide) xm_101 rfl rfl (by decide +kernel) (fun _ => rfl) (fun _ => rfl) (Nat.le_of_ble_eq_true rfl) (Nat.le_of_ble_eq_true rfl) d_MM_init_204 d_MM_init_206 ?_
  clear hP hD hS hlen
  intro q_28 H locs hlen hP hD hS
  obtain ⟨fs_21, e_21⟩ : ∃ z, z = fs_20.set 31 (.ref q_28) := ⟨_, rfl⟩
  rw [← e_21] at hP hD hlen
  replace hP : va_P (dC, dI) classes [(h0, .inr (0, fs_21)), (q_1, .inr (1, q_2)), (q_3, .inr (2, [.ref q_4, .int 0])), (q_4, .inl (ca 0, 16, .inl (fun _ => 0))), (q_14, .inl (ca 4, 148, .inr (.inr (.inr (.inr (fun _ => none))))))] H := hP
  replace hD : va_D A [(h0, .inr (0, fs_21)), (q_1, .inr (1, q_2)), (q_3, .inr (2, [.ref q_4, .int 0])), (q_4, .inl (ca 0, 16, .inl (fun _ => 0))), (q_14, .inl (ca 4, 148, .inr (.inr (.inr (.inr (fun _ => none))))))] := hD
  refine W.widen (k := 46) (n := 508595) (Nat.le_of_ble_eq_true rfl) (Nat.le_of_ble_eq_true rfl) ?_
  refine lv_aload_n hx hb d_MM_init_209 rfl (lv_at hl 0 rfl) ?_
  refine lv_sipush (v := 4000) hx hb d_MM_init_210 (by decide +kernel) ?_
  refine m_arr M (atype := .boolean) (ty := .boolean) (fs := fs_21) (wt := [(q_1, .inr (1, q_2)), (q_3, .inr (2, [.ref q_4, .int 0])), (q_4, .inl (ca 0, 16, .inl (fun _ => 0))), (q_14, .inl (ca 4, 148, .inr (.inr (.inr (.inr (fun _ => none))))))]) (t0 := 3) (n := 4000) (N' := 4000) (k := 32) (tf := .array (.boolean)) (a0 := (4000, .inl (fun _ => 0))) hP hD hS hlen rfl xm_174 rfl (fun C h => by cases h) (m_a_boolean 4000) (by decide +kernel) (by decide +kernel) (by decide +kernel) (by decide) xm_102 rfl rfl (by decide +kernel) (fun _ => rfl) (fun _ => rfl) (Nat.le_of_ble_eq_true rfl) (Nat.le_of_ble_eq_true rfl) d_MM_init_213 d_MM_init_215 ?_
  clear hP hD hS hlen
  intro q_29 H locs hlen hP hD hS
  obtain ⟨fs_22, e_22⟩ : ∃ z, z = fs_21.set 32 (.ref q_29) := ⟨_, rfl⟩
  rw [← e_22] at hP hD hlen
  replace hP : va_P (dC, dI) classes [(h0, .inr (0, fs_22)), (q_1, .inr (1, q_2)), (q_3, .inr (2, [.ref q_4, .int 0])), (q_4, .inl (ca 0, 16, .inl (fun _ => 0))), (q_14, .inl (ca 4, 148, .inr (.inr (.inr (.inr (fun _ => none))))))] H := hP
  replace hD : va_D A [(h0, .inr (0, fs_22)), (q_1, .inr (1, q_2)), (q_3, .inr (2, [.ref q_4, .int 0])), (q_4, .inl (ca 0, 16, .inl (fun _ => 0))), (q_14, .inl (ca 4, 148, .inr (.inr (.inr (.inr (fun _ => none))))))] := hD
  refine W.widen (k := 47) (n := 512595) (Nat.le_of_ble_eq_true rfl) (Nat.le_of_ble_eq_true rfl) ?_
  refine lv_aload_n hx hb d_MM_init_218 rfl (lv_at hl 0 rfl) ?_
  refine lv_sipush (v := 4000) hx hb d_MM_init_219 (by decide +kernel) ?_
  refine m_arr M (atype := .boolean) (ty := .boolean) (fs := fs_22) (wt := [(q_1, .inr (1, q_2)), (q_3, .inr (2, [.ref q_4, .int 0])), (q_4, .inl (ca 0, 16, .inl (fun _ => 0))), (q_14, .inl (ca 4, 148, .inr (.inr (.inr (.inr (fun _ => none))))))]) (t0 := 3) (n := 4000) (N' := 4000) (k := 33) (tf := .array (.boolean)) (a0 := (4000, .inl (fun _ => 0))) hP hD hS hlen rfl xm_174 rfl (fun C h => by cases h) (m_a_boolean 4000) (by decide +kernel) (by decide +kernel) (by decide +kernel) (by decide) xm_103 rfl rfl (by decide +kernel) (fun _ => rfl) (fun _ => rfl) (Nat.le_of_ble_eq_true rfl) (Nat.le_of_ble_eq_true rfl) d_MM_init_222 d_MM_init_224 ?_
  clear hP hD hS hlen
  intro q_30 H locs hlen hP hD hS
  obtain ⟨fs_23, e_23⟩ : ∃ z, z = fs_22.set 33 (.ref q_30) := ⟨_, rfl⟩
  rw [← e_23] at hP hD hlen
  replace hP : va_P (dC, dI) classes [(h0, .inr (0, fs_23)), (q_1, .inr (1, q_2)), (q_3, .inr (2, [.ref q_4, .int 0])), (q_4, .inl (ca 0, 16, .inl (fun _ => 0))), (q_14, .inl (ca 4, 148, .inr (.inr (.inr (.inr (fun _ => none))))))] H := hP
  replace hD : va_D A [(h0, .inr (0, fs_23)), (q_1, .inr (1, q_2)), (q_3, .inr (2, [.ref q_4, .int 0])), (q_4, .inl (ca 0, 16, .inl (fun _ => 0))), (q_14, .inl (ca 4, 148, .inr (.inr (.inr (.inr (fun _ => none))))))] := hD
  refine W.widen (k := 48) (n := 516595) (Nat.le_of_ble_eq_true rfl) (Nat.le_of_ble_eq_true rfl) ?_
  refine lv_aload_n hx hb d_MM_init_227 rfl (lv_at hl 0 rfl) ?_
  refine lv_sipush (v := 4001) hx hb d_MM_init_228 (by decide +kernel) ?_
  refine m_arr M (atype := .int) (ty := .int) (fs := fs_23) (wt := [(q_1, .inr (1, q_2)), (q_3, .inr (2, [.ref q_4, .int 0])), (q_4, .inl (ca 0, 16, .inl (fun _ => 0))), (q_14, .inl (ca 4, 148, .inr (.inr (.inr (.inr (fun _ => none))))))]) (t0 := 1) (n := 4001) (N' := 4001) (k := 35) (tf := .array (.int)) (a0 := (4001, .inl (fun _ => 0))) hP hD hS hlen rfl xm_11 rfl (fun C h => by cases h) (m_a_int 4001) (by decide +kernel) (by decide +kernel) (by decide +kernel) (by decide) xm_104 rfl rfl (by decide +kernel) (fun _ => rfl) (fun _ => rfl) (Nat.le_of_ble_eq_true rfl) (Nat.le_of_ble_eq_true rfl) d_MM_init_231 d_MM_init_233 ?_
  clear hP hD hS hlen
  intro q_31 H locs hlen hP hD hS
  obtain ⟨fs_24, e_24⟩ : ∃ z, z = fs_23.set 35 (.ref q_31) := ⟨_, rfl⟩
  rw [← e_24] at hP hD hlen
  replace hP : va_P (dC, dI) classes [(h0, .inr (0, fs_24)), (q_1, .inr (1, q_2)), (q_3, .inr (2, [.ref q_4, .int 0])), (q_4, .inl (ca 0, 16, .inl (fun _ => 0))), (q_14, .inl (ca 4, 148, .inr (.inr (.inr (.inr (fun _ => none))))))] H := hP
  replace hD : va_D A [(h0, .inr (0, fs_24)), (q_1, .inr (1, q_2)), (q_3, .inr (2, [.ref q_4, .int 0])), (q_4, .inl (ca 0, 16, .inl (fun _ => 0))), (q_14, .inl (ca 4, 148, .inr (.inr (.inr (.inr (fun _ => none))))))] := hD
  refine W.widen (k := 49) (n := 520596) (Nat.le_of_ble_eq_true rfl) (Nat.le_of_ble_eq_true rfl) ?_
  refine lv_aload_n hx hb d_MM_init_236 rfl (lv_at hl 0 rfl) ?_
  refine m_new M (wt := [(q_1, .inr (1, q_2)), (q_3, .inr (2, [.ref q_4, .int 0])), (q_4, .inl (ca 0, 16, .inl (fun _ => 0))), (q_14, .inl (ca 4, 148, .inr (.inr (.inr (.inr (fun _ => none))))))]) (ci := 3) (C := R_MI) (T := F_MI) (N := 2) (f0 := [.null, .int 0]) hP hD hS i_MI t_MI_ok xm_32 xm_33 xm_3 rfl (by decide +kernel) (Nat.le_of_ble_eq_true rfl) (Nat.le_of_ble_eq_true rfl) d_MM_init_237 d_MM_init_240 ?_
  clear hP hD hS
  intro q_32 H hP hD hS
  replace hP : va_P (dC, dI) classes [(h0, .inr (0, fs_24)), (q_1, .inr (1, q_2)), (q_3, .inr (2, [.ref q_4, .int 0])), (q_4, .inl (ca 0, 16, .inl (fun _ => 0))), (q_14, .inl (ca 4, 148, .inr (.inr (.inr (.inr (fun _ => none)))))), (q_32, .inr (3, [.null, .int 0]))] H := hP
  replace hD : va_D A [(h0, .inr (0, fs_24)), (q_1, .inr (1, q_2)), (q_3, .inr (2, [.ref q_4, .int 0])), (q_4, .inl (ca 0, 16, .inl (fun _ => 0))), (q_14, .inl (ca 4, 148, .inr (.inr (.inr (.inr (fun _ => none)))))), (q_32, .inr (3, [.null, .int 0]))] := hD
  refine W.widen (k := 50) (n := 520598) (Nat.le_of_ble_eq_true rfl) (Nat.le_of_ble_eq_true rfl) ?_
  refine lv_iconst (v := 4) hx hb d_MM_init_241 (by decide) ?_
  refine ax_I (k := 1) (As := [.int 4]) (rest := [.ref q_32, .ref h0]) (wr := [(h0, .inr (0, fs_24)), (q_1, .inr (1, q_2)), (q_3, .inr (2, [.ref q_4, .int 0])), (q_4, .inl (ca 0, 16, .inl (fun _ => 0))), (q_14, .inl (ca 4, 148, .inr (.inr (.inr (.inr (fun _ => none))))))]) rfl hx hb hml hown hts g_wm (mK_bl dC dI ca) (c_MI_init l dC dI ca q_32) rfl xm_34 xm_35 xm_3 xm_36 (by decide +kernel) rfl (Nat.le_of_ble_eq_true rfl) (Nat.le_of_ble_eq_true rfl) hl.1 (Nat.le_of_ble_eq_true rfl) (mK_up hK) hP hD hS hA [5] [0, 1, 2, 3, 4] rfl (by decide) rfl rfl (by decide) (by decide) (Nat.le_of_ble_eq_true rfl) (Nat.le_of_ble_eq_true rfl) d_MM_init_242 ?_
  clear hP hD hS
  intro v q_33 H locs hp hP hD hS
  obtain rfl : v = none := hp
  replace hP : va_P (dC, dI) classes [(h0, .inr (0, fs_24)), (q_1, .inr (1, q_2)), (q_3, .inr (2, [.ref q_4, .int 0])), (q_4, .inl (ca 0, 16, .inl (fun _ => 0))), (q_14, .inl (ca 4, 148, .inr (.inr (.inr (.inr (fun _ => none)))))), (q_32, .inr (3, [.ref q_33, .int 0])), (q_33, .inl (ca 1, 4, .inl (fun _ => 0)))] H := hP
  replace hD : va_D A [(h0, .inr (0, fs_24)), (q_1, .inr (1, q_2)), (q_3, .inr (2, [.ref q_4, .int 0])), (q_4, .inl (ca 0, 16, .inl (fun _ => 0))), (q_14, .inl (ca 4, 148, .inr (.inr (.inr (.inr (fun _ => none)))))), (q_32, .inr (3, [.ref q_33, .int 0])), (q_33, .inl (ca 1, 4, .inl (fun _ => 0)))] := hD
  refine W.eq (g2 := F0 m 245 ls [.ref q_32, .ref h0]) rfl ?_
  refine W.widen (k := 51) (n := 520602) (Nat.le_of_ble_eq_true rfl) (Nat.le_of_ble_eq_true rfl) ?_
  replace hP := hP.sub (ws' := [(h0, .inr (0, fs_24)), (q_1, .inr (1, q_2)), (q_3, .inr (2, [.ref q_4, .int 0])), (q_4, .inl (ca 0, 16, .inl (fun _ => 0))), (q_14, .inl (ca 4, 148, .inr (.inr (.inr (.inr (fun _ => none))))))]) [0, 1, 2, 3, 4] rfl
  replace hD := hD.sub (ws' := [(h0, .inr (0, fs_24)), (q_1, .inr (1, q_2)), (q_3, .inr (2, [.ref q_4, .int 0])), (q_4, .inl (ca 0, 16, .inl (fun _ => 0))), (q_14, .inl (ca 4, 148, .inr (.inr (.inr (.inr (fun _ => none))))))]) [0, 1, 2, 3, 4] (by decide) rfl
  refine m_put M (fs := fs_24) (wt := [(q_1, .inr (1, q_2)), (q_3, .inr (2, [.ref q_4, .int 0])), (q_4, .inl (ca 0, 16, .inl (fun _ => 0))), (q_14, .inl (ca 4, 148, .inr (.inr (.inr (.inr (fun _ => none))))))]) (k := 36) (ty := .object "SourceBackModel$Ints") hP hD hS hlen (by decide) xm_105 rfl rfl (by decide +kernel) rfl rfl d_MM_init_245 ?_
  clear hP hD hS hlen
  intro H locs hlen hP hD hS
  obtain ⟨fs_25, e_25⟩ : ∃ z, z = fs_24.set 36 (.ref q_32) := ⟨_, rfl⟩
  rw [← e_25] at hP hD hlen
  replace hP : va_P (dC, dI) classes [(h0, .inr (0, fs_25)), (q_1, .inr (1, q_2)), (q_3, .inr (2, [.ref q_4, .int 0])), (q_4, .inl (ca 0, 16, .inl (fun _ => 0))), (q_14, .inl (ca 4, 148, .inr (.inr (.inr (.inr (fun _ => none))))))] H := hP
  replace hD : va_D A [(h0, .inr (0, fs_25)), (q_1, .inr (1, q_2)), (q_3, .inr (2, [.ref q_4, .int 0])), (q_4, .inl (ca 0, 16, .inl (fun _ => 0))), (q_14, .inl (ca 4, 148, .inr (.inr (.inr (.inr (fun _ => none))))))] := hD
  refine lv_aload_n hx hb d_MM_init_248 rfl (lv_at hl 0 rfl) ?_
  refine m_new M (wt := [(q_1, .inr (1, q_2)), (q_3, .inr (2, [.ref q_4, .int 0])), (q_4, .inl (ca 0, 16, .inl (fun _ => 0))), (q_14, .inl (ca 4, 148, .inr (.inr (.inr (.inr (fun _ => none))))))]) (ci := 3) (C := R_MI) (T := F_MI) (N := 2) (f0 := [.null, .int 0]) hP hD hS i_MI t_MI_ok xm_32 xm_33 xm_3 rfl (by decide +kernel) (Nat.le_of_ble_eq_true rfl) (Nat.le_of_ble_eq_true rfl) d_MM_init_249 d_MM_init_252 ?_
  clear hP hD hS
  intro q_34 H hP hD hS
  replace hP : va_P (dC, dI) classes [(h0, .inr (0, fs_25)), (q_1, .inr (1, q_2)), (q_3, .inr (2, [.ref q_4, .int 0])), (q_4, .inl (ca 0, 16, .inl (fun _ => 0))), (q_14, .inl (ca 4, 148, .inr (.inr (.inr (.inr (fun _ => none)))))), (q_34, .inr (3, [.null, .int 0]))] H := hP
  replace hD : va_D A [(h0, .inr (0, fs_25)), (q_1, .inr (1, q_2)), (q_3, .inr (2, [.ref q_4, .int 0])), (q_4, .inl (ca 0, 16, .inl (fun _ => 0))), (q_14, .inl (ca 4, 148, .inr (.inr (.inr (.inr (fun _ => none)))))), (q_34, .inr (3, [.null, .int 0]))] := hD
  refine W.widen (k := 52) (n := 520604) (Nat.le_of_ble_eq_true rfl) (Nat.le_of_ble_eq_true rfl) ?_
  refine lv_iconst (v := 4) hx hb d_MM_init_253 (by decide) ?_
  refine ax_I (k := 1) (As := [.int 4]) (rest := [.ref q_34, .ref h0]) (wr := [(h0, .inr (0, fs_25)), (q_1, .inr (1, q_2)), (q_3, .inr (2, [.ref q_4, .int 0])), (q_4, .inl (ca 0, 16, .inl (fun _ => 0))), (q_14, .inl (ca 4, 148, .inr (.inr (.inr (.inr (fun _ => none))))))]) rfl hx hb hml hown hts g_wm (mK_bl dC dI ca) (c_MI_init l dC dI ca q_34) rfl xm_34 xm_35 xm_3 xm_36 (by decide +kernel) rfl (Nat.le_of_ble_eq_true rfl) (Nat.le_of_ble_eq_true rfl) hl.1 (Nat.le_of_ble_eq_true rfl) (mK_up hK) hP hD hS hA [5] [0, 1, 2, 3, 4] rfl (by decide) rfl rfl (by decide) (by decide) (Nat.le_of_ble_eq_true rfl) (Nat.le_of_ble_eq_true rfl) d_MM_init_254 ?_
  clear hP hD hS
  intro v q_35 H locs hp hP hD hS
  obtain rfl : v = none := hp
  replace hP : va_P (dC, dI) classes [(h0, .inr (0, fs_25)), (q_1, .inr (1, q_2)), (q_3, .inr (2, [.ref q_4, .int 0])), (q_4, .inl (ca 0, 16, .inl (fun _ => 0))), (q_14, .inl (ca 4, 148, .inr (.inr (.inr (.inr (fun _ => none)))))), (q_34, .inr (3, [.ref q_35, .int 0])), (q_35, .inl (ca 1, 4, .inl (fun _ => 0)))] H := hP
  replace hD : va_D A [(h0, .inr (0, fs_25)), (q_1, .inr (1, q_2)), (q_3, .inr (2, [.ref q_4, .int 0])), (q_4, .inl (ca 0, 16, .inl (fun _ => 0))), (q_14, .inl (ca 4, 148, .inr (.inr (.inr (.inr (fun _ => none)))))), (q_34, .inr (3, [.ref q_35, .int 0])), (q_35, .inl (ca 1, 4, .inl (fun _ => 0)))] := hD
  refine W.eq (g2 := F0 m 257 ls [.ref q_34, .ref h0]) rfl ?_
  refine W.widen (k := 53) (n := 520608) (Nat.le_of_ble_eq_true rfl) (Nat.le_of_ble_eq_true rfl) ?_
  replace hP := hP.sub (ws' := [(h0, .inr (0, fs_25)), (q_1, .inr (1, q_2)), (q_3, .inr (2, [.ref q_4, .int 0])), (q_4, .inl (ca 0, 16, .inl (fun _ => 0))), (q_14, .inl (ca 4, 148, .inr (.inr (.inr (.inr (fun _ => none))))))]) [0, 1, 2, 3, 4] rfl
  replace hD := hD.sub (ws' := [(h0, .inr (0, fs_25)), (q_1, .inr (1, q_2)), (q_3, .inr (2, [.ref q_4, .int 0])), (q_4, .inl (ca 0, 16, .inl (fun _ => 0))), (q_14, .inl (ca 4, 148, .inr (.inr (.inr (.inr (fun _ => none))))))]) [0, 1, 2, 3, 4] (by decide) rfl
  refine m_put M (fs := fs_25) (wt := [(q_1, .inr (1, q_2)), (q_3, .inr (2, [.ref q_4, .int 0])), (q_4, .inl (ca 0, 16, .inl (fun _ => 0))), (q_14, .inl (ca 4, 148, .inr (.inr (.inr (.inr (fun _ => none))))))]) (k := 37) (ty := .object "SourceBackModel$Ints") hP hD hS hlen (by decide) xm_106 rfl rfl (by decide +kernel) rfl rfl d_MM_init_257 ?_
  clear hP hD hS hlen
  intro H locs hlen hP hD hS
  obtain ⟨fs_26, e_26⟩ : ∃ z, z = fs_25.set 37 (.ref q_34) := ⟨_, rfl⟩
  rw [← e_26] at hP hD hlen
  replace hP : va_P (dC, dI) classes [(h0, .inr (0, fs_26)), (q_1, .inr (1, q_2)), (q_3, .inr (2, [.ref q_4, .int 0])), (q_4, .inl (ca 0, 16, .inl (fun _ => 0))), (q_14, .inl (ca 4, 148, .inr (.inr (.inr (.inr (fun _ => none))))))] H := hP
  replace hD : va_D A [(h0, .inr (0, fs_26)), (q_1, .inr (1, q_2)), (q_3, .inr (2, [.ref q_4, .int 0])), (q_4, .inl (ca 0, 16, .inl (fun _ => 0))), (q_14, .inl (ca 4, 148, .inr (.inr (.inr (.inr (fun _ => none))))))] := hD
  refine lv_aload_n hx hb d_MM_init_260 rfl (lv_at hl 0 rfl) ?_
  refine m_new M (wt := [(q_1, .inr (1, q_2)), (q_3, .inr (2, [.ref q_4, .int 0])), (q_4, .inl (ca 0, 16, .inl (fun _ => 0))), (q_14, .inl (ca 4, 148, .inr (.inr (.inr (.inr (fun _ => none))))))]) (ci := 3) (C := R_MI) (T := F_MI) (N := 2) (f0 := [.null, .int 0]) hP hD hS i_MI t_MI_ok xm_32 xm_33 xm_3 rfl (by decide +kernel) (Nat.le_of_ble_eq_true rfl) (Nat.le_of_ble_eq_true rfl) d_MM_init_261 d_MM_init_264 ?_
  clear hP hD hS
  intro q_36 H hP hD hS
  replace hP : va_P (dC, dI) classes [(h0, .inr (0, fs_26)), (q_1, .inr (1, q_2)), (q_3, .inr (2, [.ref q_4, .int 0])), (q_4, .inl (ca 0, 16, .inl (fun _ => 0))), (q_14, .inl (ca 4, 148, .inr (.inr (.inr (.inr (fun _ => none)))))), (q_36, .inr (3, [.null, .int 0]))] H := hP
  replace hD : va_D A [(h0, .inr (0, fs_26)), (q_1, .inr (1, q_2)), (q_3, .inr (2, [.ref q_4, .int 0])), (q_4, .inl (ca 0, 16, .inl (fun _ => 0))), (q_14, .inl (ca 4, 148, .inr (.inr (.inr (.inr (fun _ => none)))))), (q_36, .inr (3, [.null, .int 0]))] := hD
  refine W.widen (k := 54) (n := 520610) (Nat.le_of_ble_eq_true rfl) (Nat.le_of_ble_eq_true rfl) ?_
  refine lv_iconst (v := 4) hx hb d_MM_init_265 (by decide) ?_
  refine ax_I (k := 1) (As := [.int 4]) (rest := [.ref q_36, .ref h0]) (wr := [(h0, .inr (0, fs_26)), (q_1, .inr (1, q_2)), (q_3, .inr (2, [.ref q_4, .int 0])), (q_4, .inl (ca 0, 16, .inl (fun _ => 0))), (q_14, .inl (ca 4, 148, .inr (.inr (.inr (.inr (fun _ => none))))))]) rfl hx hb hml hown hts g_wm (mK_bl dC dI ca) (c_MI_init l dC dI ca q_36) rfl xm_34 xm_35 xm_3 xm_36 (by decide +kernel) rfl (Nat.le_of_ble_eq_true rfl) (Nat.le_of_ble_eq_true rfl) hl.1 (Nat.le_of_ble_eq_true rfl) (mK_up hK) hP hD hS hA [5] [0, 1, 2, 3, 4] rfl (by decide) rfl rfl (by decide) (by decide) (Nat.le_of_ble_eq_true rfl) (Nat.le_of_ble_eq_true rfl) d_MM_init_266 ?_
  clear hP hD hS
  intro v q_37 H locs hp hP hD hS
  obtain rfl : v = none := hp
  replace hP : va_P (dC, dI) classes [(h0, .inr (0, fs_26)), (q_1, .inr (1, q_2)), (q_3, .inr (2, [.ref q_4, .int 0])), (q_4, .inl (ca 0, 16, .inl (fun _ => 0))), (q_14, .inl (ca 4, 148, .inr (.inr (.inr (.inr (fun _ => none)))))), (q_36, .inr (3, [.ref q_37, .int 0])), (q_37, .inl (ca 1, 4, .inl (fun _ => 0)))] H := hP
  replace hD : va_D A [(h0, .inr (0, fs_26)), (q_1, .inr (1, q_2)), (q_3, .inr (2, [.ref q_4, .int 0])), (q_4, .inl (ca 0, 16, .inl (fun _ => 0))), (q_14, .inl (ca 4, 148, .inr (.inr (.inr (.inr (fun _ => none)))))), (q_36, .inr (3, [.ref q_37, .int 0])), (q_37, .inl (ca 1, 4, .inl (fun _ => 0)))] := hD
  refine W.eq (g2 := F0 m 269 ls [.ref q_36, .ref h0]) rfl ?_
  refine W.widen (k := 55) (n := 520614) (Nat.le_of_ble_eq_true rfl) (Nat.le_of_ble_eq_true rfl) ?_
  replace hP := hP.sub (ws' := [(h0, .inr (0, fs_26)), (q_1, .inr (1, q_2)), (q_3, .inr (2, [.ref q_4, .int 0])), (q_4, .inl (ca 0, 16, .inl (fun _ => 0))), (q_14, .inl (ca 4, 148, .inr (.inr (.inr (.inr (fun _ => none))))))]) [0, 1, 2, 3, 4] rfl
  replace hD := hD.sub (ws' := [(h0, .inr (0, fs_26)), (q_1, .inr (1, q_2)), (q_3, .inr (2, [.ref q_4, .int 0])), (q_4, .inl (ca 0, 16, .inl (fun _ => 0))), (q_14, .inl (ca 4, 148, .inr (.inr (.inr (.inr (fun _ => none))))))]) [0, 1, 2, 3, 4] (by decide) rfl
  refine m_put M (fs := fs_26) (wt := [(q_1, .inr (1, q_2)), (q_3, .inr (2, [.ref q_4, .int 0])), (q_4, .inl (ca 0, 16, .inl (fun _ => 0))), (q_14, .inl (ca 4, 148, .inr (.inr (.inr (.inr (fun _ => none))))))]) (k := 38) (ty := .object "SourceBackModel$Ints") hP hD hS hlen (by decide) xm_107 rfl rfl (by decide +kernel) rfl rfl d_MM_init_269 ?_
  clear hP hD hS hlen
  intro H locs hlen hP hD hS
  obtain ⟨fs_27, e_27⟩ : ∃ z, z = fs_26.set 38 (.ref q_36) := ⟨_, rfl⟩
  rw [← e_27] at hP hD hlen
  replace hP : va_P (dC, dI) classes [(h0, .inr (0, fs_27)), (q_1, .inr (1, q_2)), (q_3, .inr (2, [.ref q_4, .int 0])), (q_4, .inl (ca 0, 16, .inl (fun _ => 0))), (q_14, .inl (ca 4, 148, .inr (.inr (.inr (.inr (fun _ => none))))))] H := hP
  replace hD : va_D A [(h0, .inr (0, fs_27)), (q_1, .inr (1, q_2)), (q_3, .inr (2, [.ref q_4, .int 0])), (q_4, .inl (ca 0, 16, .inl (fun _ => 0))), (q_14, .inl (ca 4, 148, .inr (.inr (.inr (.inr (fun _ => none))))))] := hD
  refine lv_aload_n hx hb d_MM_init_272 rfl (lv_at hl 0 rfl) ?_
  refine m_new M (wt := [(q_1, .inr (1, q_2)), (q_3, .inr (2, [.ref q_4, .int 0])), (q_4, .inl (ca 0, 16, .inl (fun _ => 0))), (q_14, .inl (ca 4, 148, .inr (.inr (.inr (.inr (fun _ => none))))))]) (ci := 3) (C := R_MI) (T := F_MI) (N := 2) (f0 := [.null, .int 0]) hP hD hS i_MI t_MI_ok xm_32 xm_33 xm_3 rfl (by decide +kernel) (Nat.le_of_ble_eq_true rfl) (Nat.le_of_ble_eq_true rfl) d_MM_init_273 d_MM_init_276 ?_
  clear hP hD hS
  intro q_38 H hP hD hS
  replace hP : va_P (dC, dI) classes [(h0, .inr (0, fs_27)), (q_1, .inr (1, q_2)), (q_3, .inr (2, [.ref q_4, .int 0])), (q_4, .inl (ca 0, 16, .inl (fun _ => 0))), (q_14, .inl (ca 4, 148, .inr (.inr (.inr (.inr (fun _ => none)))))), (q_38, .inr (3, [.null, .int 0]))] H := hP
  replace hD : va_D A [(h0, .inr (0, fs_27)), (q_1, .inr (1, q_2)), (q_3, .inr (2, [.ref q_4, .int 0])), (q_4, .inl (ca 0, 16, .inl (fun _ => 0))), (q_14, .inl (ca 4, 148, .inr (.inr (.inr (.inr (fun _ => none)))))), (q_38, .inr (3, [.null, .int 0]))] := hD
  refine W.widen (k := 56) (n := 520616) (Nat.le_of_ble_eq_true rfl) (Nat.le_of_ble_eq_true rfl) ?_
  refine lv_iconst (v := 4) hx hb d_MM_init_277 (by decide) ?_
  refine ax_I (k := 1) (As := [.int 4]) (rest := [.ref q_38, .ref h0]) (wr := [(h0, .inr (0, fs_27)), (q_1, .inr (1, q_2)), (q_3, .inr (2, [.ref q_4, .int 0])), (q_4, .inl (ca 0, 16, .inl (fun _ => 0))), (q_14, .inl (ca 4, 148, .inr (.inr (.inr (.inr (fun _ => none))))))]) rfl hx hb hml hown hts g_wm (mK_bl dC dI ca) (c_MI_init l dC dI ca q_38) rfl xm_34 xm_35 xm_3 xm_36 (by decide +kernel) rfl (Nat.le_of_ble_eq_true rfl) (Nat.le_of_ble_eq_true rfl) hl.1 (Nat.le_of_ble_eq_true rfl) (mK_up hK) hP hD hS hA [5] [0, 1, 2, 3, 4] rfl (by decide) rfl rfl (by decide) (by decide) (Nat.le_of_ble_eq_true rfl) (Nat.le_of_ble_eq_true rfl) d_MM_init_278 ?_
  clear hP hD hS
  intro v q_39 H locs hp hP hD hS
  obtain rfl : v = none := hp
  replace hP : va_P (dC, dI) classes [(h0, .inr (0, fs_27)), (q_1, .inr (1, q_2)), (q_3, .inr (2, [.ref q_4, .int 0])), (q_4, .inl (ca 0, 16, .inl (fun _ => 0))), (q_14, .inl (ca 4, 148, .inr (.inr (.inr (.inr (fun _ => none)))))), (q_38, .inr (3, [.ref q_39, .int 0])), (q_39, .inl (ca 1, 4, .inl (fun _ => 0)))] H := hP
  replace hD : va_D A [(h0, .inr (0, fs_27)), (q_1, .inr (1, q_2)), (q_3, .inr (2, [.ref q_4, .int 0])), (q_4, .inl (ca 0, 16, .inl (fun _ => 0))), (q_14, .inl (ca 4, 148, .inr (.inr (.inr (.inr (fun _ => none)))))), (q_38, .inr (3, [.ref q_39, .int 0])), (q_39, .inl (ca 1, 4, .inl (fun _ => 0)))] := hD
  refine W.eq (g2 := F0 m 281 ls [.ref q_38, .ref h0]) rfl ?_
  refine W.widen (k := 57) (n := 520620) (Nat.le_of_ble_eq_true rfl) (Nat.le_of_ble_eq_true rfl) ?_
  replace hP := hP.sub (ws' := [(h0, .inr (0, fs_27)), (q_1, .inr (1, q_2)), (q_3, .inr (2, [.ref q_4, .int 0])), (q_4, .inl (ca 0, 16, .inl (fun _ => 0))), (q_14, .inl (ca 4, 148, .inr (.inr (.inr (.inr (fun _ => none))))))]) [0, 1, 2, 3, 4] rfl
  replace hD := hD.sub (ws' := [(h0, .inr (0, fs_27)), (q_1, .inr (1, q_2)), (q_3, .inr (2, [.ref q_4, .int 0])), (q_4, .inl (ca 0, 16, .inl (fun _ => 0))), (q_14, .inl (ca 4, 148, .inr (.inr (.inr (.inr (fun _ => none))))))]) [0, 1, 2, 3, 4] (by decide) rfl
  refine m_put M (fs := fs_27) (wt := [(q_1, .inr (1, q_2)), (q_3, .inr (2, [.ref q_4, .int 0])), (q_4, .inl (ca 0, 16, .inl (fun _ => 0))), (q_14, .inl (ca 4, 148, .inr (.inr (.inr (.inr (fun _ => none))))))]) (k := 39) (ty := .object "SourceBackModel$Ints") hP hD hS hlen (by decide) xm_108 rfl rfl (by decide +kernel) rfl rfl d_MM_init_281 ?_
  clear hP hD hS hlen
  intro H locs hlen hP hD hS
  obtain ⟨fs_28, e_28⟩ : ∃ z, z = fs_27.set 39 (.ref q_38) := ⟨_, rfl⟩
  rw [← e_28] at hP hD hlen
  replace hP : va_P (dC, dI) classes [(h0, .inr (0, fs_28)), (q_1, .inr (1, q_2)), (q_3, .inr (2, [.ref q_4, .int 0])), (q_4, .inl (ca 0, 16, .inl (fun _ => 0))), (q_14, .inl (ca 4, 148, .inr (.inr (.inr (.inr (fun _ => none))))))] H := hP
  replace hD : va_D A [(h0, .inr (0, fs_28)), (q_1, .inr (1, q_2)), (q_3, .inr (2, [.ref q_4, .int 0])), (q_4, .inl (ca 0, 16, .inl (fun _ => 0))), (q_14, .inl (ca 4, 148, .inr (.inr (.inr (.inr (fun _ => none))))))] := hD
  refine lv_aload_n hx hb d_MM_init_284 rfl (lv_at hl 0 rfl) ?_
  refine m_new M (wt := [(q_1, .inr (1, q_2)), (q_3, .inr (2, [.ref q_4, .int 0])), (q_4, .inl (ca 0, 16, .inl (fun _ => 0))), (q_14, .inl (ca 4, 148, .inr (.inr (.inr (.inr (fun _ => none))))))]) (ci := 3) (C := R_MI) (T := F_MI) (N := 2) (f0 := [.null, .int 0]) hP hD hS i_MI t_MI_ok xm_32 xm_33 xm_3 rfl (by decide +kernel) (Nat.le_of_ble_eq_true rfl) (Nat.le_of_ble_eq_true rfl) d_MM_init_285 d_MM_init_288 ?_
  clear hP hD hS
  intro q_40 H hP hD hS
  replace hP : va_P (dC, dI) classes [(h0, .inr (0, fs_28)), (q_1, .inr (1, q_2)), (q_3, .inr (2, [.ref q_4, .int 0])), (q_4, .inl (ca 0, 16, .inl (fun _ => 0))), (q_14, .inl (ca 4, 148, .inr (.inr (.inr (.inr (fun _ => none)))))), (q_40, .inr (3, [.null, .int 0]))] H := hP
  replace hD : va_D A [(h0, .inr (0, fs_28)), (q_1, .inr (1, q_2)), (q_3, .inr (2, [.ref q_4, .int 0])), (q_4, .inl (ca 0, 16, .inl (fun _ => 0))), (q_14, .inl (ca 4, 148, .inr (.inr (.inr (.inr (fun _ => none)))))), (q_40, .inr (3, [.null, .int 0]))] := hD
  refine W.widen (k := 58) (n := 520622) (Nat.le_of_ble_eq_true rfl) (Nat.le_of_ble_eq_true rfl) ?_
  refine lv_iconst (v := 4) hx hb d_MM_init_289 (by decide) ?_
  refine ax_I (k := 1) (As := [.int 4]) (rest := [.ref q_40, .ref h0]) (wr := [(h0, .inr (0, fs_28)), (q_1, .inr (1, q_2)), (q_3, .inr (2, [.ref q_4, .int 0])), (q_4, .inl (ca 0, 16, .inl (fun _ => 0))), (q_14, .inl (ca 4, 148, .inr (.inr (.inr (.inr (fun _ => none))))))]) rfl hx hb hml hown hts g_wm (mK_bl dC dI ca) (c_MI_init l dC dI ca q_40) rfl xm_34 xm_35 xm_3 xm_36 (by decide +kernel) rfl (Nat.le_of_ble_eq_true rfl) (Nat.le_of_ble_eq_true rfl) hl.1 (Nat.le_of_ble_eq_true rfl) (mK_up hK) hP hD hS hA [5] [0, 1, 2, 3, 4] rfl (by decide) rfl rfl (by decide) (by decide) (Nat.le_of_ble_eq_true rfl) (Nat.le_of_ble_eq_true rfl) d_MM_init_290 ?_
  clear hP hD hS
  intro v q_41 H locs hp hP hD hS
  obtain rfl : v = none := hp
  replace hP : va_P (dC, dI) classes [(h0, .inr (0, fs_28)), (q_1, .inr (1, q_2)), (q_3, .inr (2, [.ref q_4, .int 0])), (q_4, .inl (ca 0, 16, .inl (fun _ => 0))), (q_14, .inl (ca 4, 148, .inr (.inr (.inr (.inr (fun _ => none)))))), (q_40, .inr (3, [.ref q_41, .int 0])), (q_41, .inl (ca 1, 4, .inl (fun _ => 0)))] H := hP
  replace hD : va_D A [(h0, .inr (0, fs_28)), (q_1, .inr (1, q_2)), (q_3, .inr (2, [.ref q_4, .int 0])), (q_4, .inl (ca 0, 16, .inl (fun _ => 0))), (q_14, .inl (ca 4, 148, .inr (.inr (.inr (.inr (fun _ => none)))))), (q_40, .inr (3, [.ref q_41, .int 0])), (q_41, .inl (ca 1, 4, .inl (fun _ => 0)))] := hD
  refine W.eq (g2 := F0 m 293 ls [.ref q_40, .ref h0]) rfl ?_
  refine W.widen (k := 59) (n := 520626) (Nat.le_of_ble_eq_true rfl) (Nat.le_of_ble_eq_true rfl) ?_
  replace hP := hP.sub (ws' := [(h0, .inr (0, fs_28)), (q_1, .inr (1, q_2)), (q_3, .inr (2, [.ref q_4, .int 0])), (q_4, .inl (ca 0, 16, .inl (fun _ => 0))), (q_14, .inl (ca 4, 148, .inr (.inr (.inr (.inr (fun _ => none))))))]) [0, 1, 2, 3, 4] rfl
  replace hD := hD.sub (ws' := [(h0, .inr (0, fs_28)), (q_1, .inr (1, q_2)), (q_3, .inr (2, [.ref q_4, .int 0])), (q_4, .inl (ca 0, 16, .inl (fun _ => 0))), (q_14, .inl (ca 4, 148, .inr (.inr (.inr (.inr (fun _ => none))))))]) [0, 1, 2, 3, 4] (by decide) rfl
  refine m_put M (fs := fs_28) (wt := [(q_1, .inr (1, q_2)), (q_3, .inr (2, [.ref q_4, .int 0])), (q_4, .inl (ca 0, 16, .inl (fun _ => 0))), (q_14, .inl (ca 4, 148, .inr (.inr (.inr (.inr (fun _ => none))))))]) (k := 40) (ty := .object "SourceBackModel$Ints") hP hD hS hlen (by decide) xm_109 rfl rfl (by decide +kernel) rfl rfl d_MM_init_293 ?_
  clear hP hD hS hlen
  intro H locs hlen hP hD hS
  obtain ⟨fs_29, e_29⟩ : ∃ z, z = fs_28.set 40 (.ref q_40) := ⟨_, rfl⟩
  rw [← e_29] at hP hD hlen
  replace hP : va_P (dC, dI) classes [(h0, .inr (0, fs_29)), (q_1, .inr (1, q_2)), (q_3, .inr (2, [.ref q_4, .int 0])), (q_4, .inl (ca 0, 16, .inl (fun _ => 0))), (q_14, .inl (ca 4, 148, .inr (.inr (.inr (.inr (fun _ => none))))))] H := hP
  replace hD : va_D A [(h0, .inr (0, fs_29)), (q_1, .inr (1, q_2)), (q_3, .inr (2, [.ref q_4, .int 0])), (q_4, .inl (ca 0, 16, .inl (fun _ => 0))), (q_14, .inl (ca 4, 148, .inr (.inr (.inr (.inr (fun _ => none))))))] := hD
  refine lv_aload_n hx hb d_MM_init_296 rfl (lv_at hl 0 rfl) ?_
  refine lv_sipush (v := 4000) hx hb d_MM_init_297 (by decide +kernel) ?_
  refine m_arr M (atype := .int) (ty := .int) (fs := fs_29) (wt := [(q_1, .inr (1, q_2)), (q_3, .inr (2, [.ref q_4, .int 0])), (q_4, .inl (ca 0, 16, .inl (fun _ => 0))), (q_14, .inl (ca 4, 148, .inr (.inr (.inr (.inr (fun _ => none))))))]) (t0 := 1) (n := 4000) (N' := 4000) (k := 41) (tf := .array (.int)) (a0 := (4000, .inl (fun _ => 0))) hP hD hS hlen rfl xm_11 rfl (fun C h => by cases h) (m_a_int 4000) (by decide +kernel) (by decide +kernel) (by decide +kernel) (by decide) xm_110 rfl rfl (by decide +kernel) (fun _ => rfl) (fun _ => rfl) (Nat.le_of_ble_eq_true rfl) (Nat.le_of_ble_eq_true rfl) d_MM_init_300 d_MM_init_302 ?_
  clear hP hD hS hlen
  intro q_42 H locs hlen hP hD hS
  obtain ⟨fs_30, e_30⟩ : ∃ z, z = fs_29.set 41 (.ref q_42) := ⟨_, rfl⟩
  rw [← e_30] at hP hD hlen
  replace hP : va_P (dC, dI) classes [(h0, .inr (0, fs_30)), (q_1, .inr (1, q_2)), (q_3, .inr (2, [.ref q_4, .int 0])), (q_4, .inl (ca 0, 16, .inl (fun _ => 0))), (q_14, .inl (ca 4, 148, .inr (.inr (.inr (.inr (fun _ => none))))))] H := hP
  replace hD : va_D A [(h0, .inr (0, fs_30)), (q_1, .inr (1, q_2)), (q_3, .inr (2, [.ref q_4, .int 0])), (q_4, .inl (ca 0, 16, .inl (fun _ => 0))), (q_14, .inl (ca 4, 148, .inr (.inr (.inr (.inr (fun _ => none))))))] := hD
  refine W.widen (k := 60) (n := 524626) (Nat.le_of_ble_eq_true rfl) (Nat.le_of_ble_eq_true rfl) ?_
  refine lv_aload_n hx hb d_MM_init_305 rfl (lv_at hl 0 rfl) ?_
  refine m_new M (wt := [(q_1, .inr (1, q_2)), (q_3, .inr (2, [.ref q_4, .int 0])), (q_4, .inl (ca 0, 16, .inl (fun _ => 0))), (q_14, .inl (ca 4, 148, .inr (.inr (.inr (.inr (fun _ => none))))))]) (ci := 3) (C := R_MI) (T := F_MI) (N := 2) (f0 := [.null, .int 0]) hP hD hS i_MI t_MI_ok xm_32 xm_33 xm_3 rfl (by decide +kernel) (Nat.le_of_ble_eq_true rfl) (Nat.le_of_ble_eq_true rfl) d_MM_init_306 d_MM_init_309 ?_
  clear hP hD hS
  intro q_43 H hP hD hS
  replace hP : va_P (dC, dI) classes [(h0, .inr (0, fs_30)), (q_1, .inr (1, q_2)), (q_3, .inr (2, [.ref q_4, .int 0])), (q_4, .inl (ca 0, 16, .inl (fun _ => 0))), (q_14, .inl (ca 4, 148, .inr (.inr (.inr (.inr (fun _ => none)))))), (q_43, .inr (3, [.null, .int 0]))] H := hP
  replace hD : va_D A [(h0, .inr (0, fs_30)), (q_1, .inr (1, q_2)), (q_3, .inr (2, [.ref q_4, .int 0])), (q_4, .inl (ca 0, 16, .inl (fun _ => 0))), (q_14, .inl (ca 4, 148, .inr (.inr (.inr (.inr (fun _ => none)))))), (q_43, .inr (3, [.null, .int 0]))] := hD
  refine W.widen (k := 61) (n := 524628) (Nat.le_of_ble_eq_true rfl) (Nat.le_of_ble_eq_true rfl) ?_
  refine lv_iconst (v := 4) hx hb d_MM_init_310 (by decide) ?_
  refine ax_I (k := 1) (As := [.int 4]) (rest := [.ref q_43, .ref h0]) (wr := [(h0, .inr (0, fs_30)), (q_1, .inr (1, q_2)), (q_3, .inr (2, [.ref q_4, .int 0])), (q_4, .inl (ca 0, 16, .inl (fun _ => 0))), (q_14, .inl (ca 4, 148, .inr (.inr (.inr (.inr (fun _ => none))))))]) rfl hx hb hml hown hts g_wm (mK_bl dC dI ca) (c_MI_init l dC dI ca q_43) rfl xm_34 xm_35 xm_3 xm_36 (by decide +kernel) rfl (Nat.le_of_ble_eq_true rfl) (Nat.le_of_ble_eq_true rfl) hl.1 (Nat.le_of_ble_eq_true rfl) (mK_up hK) hP hD hS hA [5] [0, 1, 2, 3, 4] rfl (by decide) rfl rfl (by decide) (by decide) (Nat.le_of_ble_eq_true rfl) (Nat.le_of_ble_eq_true rfl) d_MM_init_311 ?_
  clear hP hD hS
  intro v q_44 H locs hp hP hD hS
  obtain rfl : v = none := hp
  replace hP : va_P (dC, dI) classes [(h0, .inr (0, fs_30)), (q_1, .inr (1, q_2)), (q_3, .inr (2, [.ref q_4, .int 0])), (q_4, .inl (ca 0, 16, .inl (fun _ => 0))), (q_14, .inl (ca 4, 148, .inr (.inr (.inr (.inr (fun _ => none)))))), (q_43, .inr (3, [.ref q_44, .int 0])), (q_44, .inl (ca 1, 4, .inl (fun _ => 0)))] H := hP
  replace hD : va_D A [(h0, .inr (0, fs_30)), (q_1, .inr (1, q_2)), (q_3, .inr (2, [.ref q_4, .int 0])), (q_4, .inl (ca 0, 16, .inl (fun _ => 0))), (q_14, .inl (ca 4, 148, .inr (.inr (.inr (.inr (fun _ => none)))))), (q_43, .inr (3, [.ref q_44, .int 0])), (q_44, .inl (ca 1, 4, .inl (fun _ => 0)))] := hD
  refine W.eq (g2 := F0 m 314 ls [.ref q_43, .ref h0]) rfl ?_
  refine W.widen (k := 62) (n := 524632) (Nat.le_of_ble_eq_true rfl) (Nat.le_of_ble_eq_true rfl) ?_
  replace hP := hP.sub (ws' := [(h0, .inr (0, fs_30)), (q_1, .inr (1, q_2)), (q_3, .inr (2, [.ref q_4, .int 0])), (q_4, .inl (ca 0, 16, .inl (fun _ => 0))), (q_14, .inl (ca 4, 148, .inr (.inr (.inr (.inr (fun _ => none))))))]) [0, 1, 2, 3, 4] rfl
  replace hD := hD.sub (ws' := [(h0, .inr (0, fs_30)), (q_1, .inr (1, q_2)), (q_3, .inr (2, [.ref q_4, .int 0])), (q_4, .inl (ca 0, 16, .inl (fun _ => 0))), (q_14, .inl (ca 4, 148, .inr (.inr (.inr (.inr (fun _ => none))))))]) [0, 1, 2, 3, 4] (by decide) rfl
  refine m_put M (fs := fs_30) (wt := [(q_1, .inr (1, q_2)), (q_3, .inr (2, [.ref q_4, .int 0])), (q_4, .inl (ca 0, 16, .inl (fun _ => 0))), (q_14, .inl (ca 4, 148, .inr (.inr (.inr (.inr (fun _ => none))))))]) (k := 42) (ty := .object "SourceBackModel$Ints") hP hD hS hlen (by decide) xm_111 rfl rfl (by decide +kernel) rfl rfl d_MM_init_314 ?_
  clear hP hD hS hlen
  intro H locs hlen hP hD hS
  obtain ⟨fs_31, e_31⟩ : ∃ z, z = fs_30.set 42 (.ref q_43) := ⟨_, rfl⟩
  rw [← e_31] at hP hD hlen
  replace hP : va_P (dC, dI) classes [(h0, .inr (0, fs_31)), (q_1, .inr (1, q_2)), (q_3, .inr (2, [.ref q_4, .int 0])), (q_4, .inl (ca 0, 16, .inl (fun _ => 0))), (q_14, .inl (ca 4, 148, .inr (.inr (.inr (.inr (fun _ => none))))))] H := hP
  replace hD : va_D A [(h0, .inr (0, fs_31)), (q_1, .inr (1, q_2)), (q_3, .inr (2, [.ref q_4, .int 0])), (q_4, .inl (ca 0, 16, .inl (fun _ => 0))), (q_14, .inl (ca 4, 148, .inr (.inr (.inr (.inr (fun _ => none))))))] := hD
  refine lv_aload_n hx hb d_MM_init_317 rfl (lv_at hl 0 rfl) ?_
  refine m_new M (wt := [(q_1, .inr (1, q_2)), (q_3, .inr (2, [.ref q_4, .int 0])), (q_4, .inl (ca 0, 16, .inl (fun _ => 0))), (q_14, .inl (ca 4, 148, .inr (.inr (.inr (.inr (fun _ => none))))))]) (ci := 3) (C := R_MI) (T := F_MI) (N := 2) (f0 := [.null, .int 0]) hP hD hS i_MI t_MI_ok xm_32 xm_33 xm_3 rfl (by decide +kernel) (Nat.le_of_ble_eq_true rfl) (Nat.le_of_ble_eq_true rfl) d_MM_init_318 d_MM_init_321 ?_
  clear hP hD hS
  intro q_45 H hP hD hS
  replace hP : va_P (dC, dI) classes [(h0, .inr (0, fs_31)), (q_1, .inr (1, q_2)), (q_3, .inr (2, [.ref q_4, .int 0])), (q_4, .inl (ca 0, 16, .inl (fun _ => 0))), (q_14, .inl (ca 4, 148, .inr (.inr (.inr (.inr (fun _ => none)))))), (q_45, .inr (3, [.null, .int 0]))] H := hP
  replace hD : va_D A [(h0, .inr (0, fs_31)), (q_1, .inr (1, q_2)), (q_3, .inr (2, [.ref q_4, .int 0])), (q_4, .inl (ca 0, 16, .inl (fun _ => 0))), (q_14, .inl (ca 4, 148, .inr (.inr (.inr (.inr (fun _ => none)))))), (q_45, .inr (3, [.null, .int 0]))] := hD
  refine W.widen (k := 63) (n := 524634) (Nat.le_of_ble_eq_true rfl) (Nat.le_of_ble_eq_true rfl) ?_
  refine lv_iconst (v := 4) hx hb d_MM_init_322 (by decide) ?_
  refine ax_I (k := 1) (As := [.int 4]) (rest := [.ref q_45, .ref h0]) (wr := [(h0, .inr (0, fs_31)), (q_1, .inr (1, q_2)), (q_3, .inr (2, [.ref q_4, .int 0])), (q_4, .inl (ca 0, 16, .inl (fun _ => 0))), (q_14, .inl (ca 4, 148, .inr (.inr (.inr (.inr (fun _ => none))))))]) rfl hx hb hml hown hts g_wm (mK_bl dC dI ca) (c_MI_init l dC dI ca q_45) rfl xm_34 xm_35 xm_3 xm_36 (by decide +kernel) rfl (Nat.le_of_ble_eq_true rfl) (Nat.le_of_ble_eq_true rfl) hl.1 (Nat.le_of_ble_eq_true rfl) (mK_up hK) hP hD hS hA [5] [0, 1, 2, 3, 4] rfl (by decide) rfl rfl (by decide) (by decide) (Nat.le_of_ble_eq_true rfl) (Nat.le_of_ble_eq_true rfl) d_MM_init_323 ?_
  clear hP hD hS
  intro v q_46 H locs hp hP hD hS
  obtain rfl : v = none := hp
  replace hP : va_P (dC, dI) classes [(h0, .inr (0, fs_31)), (q_1, .inr (1, q_2)), (q_3, .inr (2, [.ref q_4, .int 0])), (q_4, .inl (ca 0, 16, .inl (fun _ => 0))), (q_14, .inl (ca 4, 148, .inr (.inr (.inr (.inr (fun _ => none)))))), (q_45, .inr (3, [.ref q_46, .int 0])), (q_46, .inl (ca 1, 4, .inl (fun _ => 0)))] H := hP
  replace hD : va_D A [(h0, .inr (0, fs_31)), (q_1, .inr (1, q_2)), (q_3, .inr (2, [.ref q_4, .int 0])), (q_4, .inl (ca 0, 16, .inl (fun _ => 0))), (q_14, .inl (ca 4, 148, .inr (.inr (.inr (.inr (fun _ => none)))))), (q_45, .inr (3, [.ref q_46, .int 0])), (q_46, .inl (ca 1, 4, .inl (fun _ => 0)))] := hD
  refine W.eq (g2 := F0 m 326 ls [.ref q_45, .ref h0]) rfl ?_
  refine W.widen (k := 64) (n := 524638) (Nat.le_of_ble_eq_true rfl) (Nat.le_of_ble_eq_true rfl) ?_
  replace hP := hP.sub (ws' := [(h0, .inr (0, fs_31)), (q_1, .inr (1, q_2)), (q_3, .inr (2, [.ref q_4, .int 0])), (q_4, .inl (ca 0, 16, .inl (fun _ => 0))), (q_14, .inl (ca 4, 148, .inr (.inr (.inr (.inr (fun _ => none))))))]) [0, 1, 2, 3, 4] rfl
  replace hD := hD.sub (ws' := [(h0, .inr (0, fs_31)), (q_1, .inr (1, q_2)), (q_3, .inr (2, [.ref q_4, .int 0])), (q_4, .inl (ca 0, 16, .inl (fun _ => 0))), (q_14, .inl (ca 4, 148, .inr (.inr (.inr (.inr (fun _ => none))))))]) [0, 1, 2, 3, 4] (by decide) rfl
  refine m_put M (fs := fs_31) (wt := [(q_1, .inr (1, q_2)), (q_3, .inr (2, [.ref q_4, .int 0])), (q_4, .inl (ca 0, 16, .inl (fun _ => 0))), (q_14, .inl (ca 4, 148, .inr (.inr (.inr (.inr (fun _ => none))))))]) (k := 43) (ty := .object "SourceBackModel$Ints") hP hD hS hlen (by decide) xm_112 rfl rfl (by decide +kernel) rfl rfl d_MM_init_326 ?_
  clear hP hD hS hlen
  intro H locs hlen hP hD hS
  obtain ⟨fs_32, e_32⟩ : ∃ z, z = fs_31.set 43 (.ref q_45) := ⟨_, rfl⟩
  rw [← e_32] at hP hD hlen
  replace hP : va_P (dC, dI) classes [(h0, .inr (0, fs_32)), (q_1, .inr (1, q_2)), (q_3, .inr (2, [.ref q_4, .int 0])), (q_4, .inl (ca 0, 16, .inl (fun _ => 0))), (q_14, .inl (ca 4, 148, .inr (.inr (.inr (.inr (fun _ => none))))))] H := hP
  replace hD : va_D A [(h0, .inr (0, fs_32)), (q_1, .inr (1, q_2)), (q_3, .inr (2, [.ref q_4, .int 0])), (q_4, .inl (ca 0, 16, .inl (fun _ => 0))), (q_14, .inl (ca 4, 148, .inr (.inr (.inr (.inr (fun _ => none))))))] := hD
  refine lv_aload_n hx hb d_MM_init_329 rfl (lv_at hl 0 rfl) ?_
  refine m_new M (wt := [(q_1, .inr (1, q_2)), (q_3, .inr (2, [.ref q_4, .int 0])), (q_4, .inl (ca 0, 16, .inl (fun _ => 0))), (q_14, .inl (ca 4, 148, .inr (.inr (.inr (.inr (fun _ => none))))))]) (ci := 3) (C := R_MI) (T := F_MI) (N := 2) (f0 := [.null, .int 0]) hP hD hS i_MI t_MI_ok xm_32 xm_33 xm_3 rfl (by decide +kernel) (Nat.le_of_ble_eq_true rfl) (Nat.le_of_ble_eq_true rfl) d_MM_init_330 d_MM_init_333 ?_
  clear hP hD hS
  intro q_47 H hP hD hS
  replace hP : va_P (dC, dI) classes [(h0, .inr (0, fs_32)), (q_1, .inr (1, q_2)), (q_3, .inr (2, [.ref q_4, .int 0])), (q_4, .inl (ca 0, 16, .inl (fun _ => 0))), (q_14, .inl (ca 4, 148, .inr (.inr (.inr (.inr (fun _ => none)))))), (q_47, .inr (3, [.null, .int 0]))] H := hP
  replace hD : va_D A [(h0, .inr (0, fs_32)), (q_1, .inr (1, q_2)), (q_3, .inr (2, [.ref q_4, .int 0])), (q_4, .inl (ca 0, 16, .inl (fun _ => 0))), (q_14, .inl (ca 4, 148, .inr (.inr (.inr (.inr (fun _ => none)))))), (q_47, .inr (3, [.null, .int 0]))] := hD
  refine W.widen (k := 65) (n := 524640) (Nat.le_of_ble_eq_true rfl) (Nat.le_of_ble_eq_true rfl) ?_
  refine lv_iconst (v := 4) hx hb d_MM_init_334 (by decide) ?_
  refine ax_I (k := 1) (As := [.int 4]) (rest := [.ref q_47, .ref h0]) (wr := [(h0, .inr (0, fs_32)), (q_1, .inr (1, q_2)), (q_3, .inr (2, [.ref q_4, .int 0])), (q_4, .inl (ca 0, 16, .inl (fun _ => 0))), (q_14, .inl (ca 4, 148, .inr (.inr (.inr (.inr (fun _ => none))))))]) rfl hx hb hml hown hts g_wm (mK_bl dC dI ca) (c_MI_init l dC dI ca q_47) rfl xm_34 xm_35 xm_3 xm_36 (by decide +kernel) rfl (Nat.le_of_ble_eq_true rfl) (Nat.le_of_ble_eq_true rfl) hl.1 (Nat.le_of_ble_eq_true rfl) (mK_up hK) hP hD hS hA [5] [0, 1, 2, 3, 4] rfl (by decide) rfl rfl (by decide) (by decide) (Nat.le_of_ble_eq_true rfl) (Nat.le_of_ble_eq_true rfl) d_MM_init_335 ?_
  clear hP hD hS
  intro v q_48 H locs hp hP hD hS
  obtain rfl : v = none := hp
  replace hP : va_P (dC, dI) classes [(h0, .inr (0, fs_32)), (q_1, .inr (1, q_2)), (q_3, .inr (2, [.ref q_4, .int 0])), (q_4, .inl (ca 0, 16, .inl (fun _ => 0))), (q_14, .inl (ca 4, 148, .inr (.inr (.inr (.inr (fun _ => none)))))), (q_47, .inr (3, [.ref q_48, .int 0])), (q_48, .inl (ca 1, 4, .inl (fun _ => 0)))] H := hP
  replace hD : va_D A [(h0, .inr (0, fs_32)), (q_1, .inr (1, q_2)), (q_3, .inr (2, [.ref q_4, .int 0])), (q_4, .inl (ca 0, 16, .inl (fun _ => 0))), (q_14, .inl (ca 4, 148, .inr (.inr (.inr (.inr (fun _ => none)))))), (q_47, .inr (3, [.ref q_48, .int 0])), (q_48, .inl (ca 1, 4, .inl (fun _ => 0)))] := hD
  refine W.eq (g2 := F0 m 338 ls [.ref q_47, .ref h0]) rfl ?_
  refine W.widen (k := 66) (n := 524644) (Nat.le_of_ble_eq_true rfl) (Nat.le_of_ble_eq_true rfl) ?_
  replace hP := hP.sub (ws' := [(h0, .inr (0, fs_32)), (q_1, .inr (1, q_2)), (q_3, .inr (2, [.ref q_4, .int 0])), (q_4, .inl (ca 0, 16, .inl (fun _ => 0))), (q_14, .inl (ca 4, 148, .inr (.inr (.inr (.inr (fun _ => none))))))]) [0, 1, 2, 3, 4] rfl
  replace hD := hD.sub (ws' := [(h0, .inr (0, fs_32)), (q_1, .inr (1, q_2)), (q_3, .inr (2, [.ref q_4, .int 0])), (q_4, .inl (ca 0, 16, .inl (fun _ => 0))), (q_14, .inl (ca 4, 148, .inr (.inr (.inr (.inr (fun _ => none))))))]) [0, 1, 2, 3, 4] (by decide) rfl
  refine m_put M (fs := fs_32) (wt := [(q_1, .inr (1, q_2)), (q_3, .inr (2, [.ref q_4, .int 0])), (q_4, .inl (ca 0, 16, .inl (fun _ => 0))), (q_14, .inl (ca 4, 148, .inr (.inr (.inr (.inr (fun _ => none))))))]) (k := 44) (ty := .object "SourceBackModel$Ints") hP hD hS hlen (by decide) xm_113 rfl rfl (by decide +kernel) rfl rfl d_MM_init_338 ?_
  clear hP hD hS hlen
  intro H locs hlen hP hD hS
  obtain ⟨fs_33, e_33⟩ : ∃ z, z = fs_32.set 44 (.ref q_47) := ⟨_, rfl⟩
  rw [← e_33] at hP hD hlen
  replace hP : va_P (dC, dI) classes [(h0, .inr (0, fs_33)), (q_1, .inr (1, q_2)), (q_3, .inr (2, [.ref q_4, .int 0])), (q_4, .inl (ca 0, 16, .inl (fun _ => 0))), (q_14, .inl (ca 4, 148, .inr (.inr (.inr (.inr (fun _ => none))))))] H := hP
  replace hD : va_D A [(h0, .inr (0, fs_33)), (q_1, .inr (1, q_2)), (q_3, .inr (2, [.ref q_4, .int 0])), (q_4, .inl (ca 0, 16, .inl (fun _ => 0))), (q_14, .inl (ca 4, 148, .inr (.inr (.inr (.inr (fun _ => none))))))] := hD
  refine lv_aload_n hx hb d_MM_init_341 rfl (lv_at hl 0 rfl) ?_
  refine m_new M (wt := [(q_1, .inr (1, q_2)), (q_3, .inr (2, [.ref q_4, .int 0])), (q_4, .inl (ca 0, 16, .inl (fun _ => 0))), (q_14, .inl (ca 4, 148, .inr (.inr (.inr (.inr (fun _ => none))))))]) (ci := 3) (C := R_MI) (T := F_MI) (N := 2) (f0 := [.null, .int 0]) hP hD hS i_MI t_MI_ok xm_32 xm_33 xm_3 rfl (by decide +kernel) (Nat.le_of_ble_eq_true rfl) (Nat.le_of_ble_eq_true rfl) d_MM_init_342 d_MM_init_345 ?_
  clear hP hD hS
  intro q_49 H hP hD hS
  replace hP : va_P (dC, dI) classes [(h0, .inr (0, fs_33)), (q_1, .inr (1, q_2)), (q_3, .inr (2, [.ref q_4, .int 0])), (q_4, .inl (ca 0, 16, .inl (fun _ => 0))), (q_14, .inl (ca 4, 148, .inr (.inr (.inr (.inr (fun _ => none)))))), (q_49, .inr (3, [.null, .int 0]))] H := hP
  replace hD : va_D A [(h0, .inr (0, fs_33)), (q_1, .inr (1, q_2)), (q_3, .inr (2, [.ref q_4, .int 0])), (q_4, .inl (ca 0, 16, .inl (fun _ => 0))), (q_14, .inl (ca 4, 148, .inr (.inr (.inr (.inr (fun _ => none)))))), (q_49, .inr (3, [.null, .int 0]))] := hD
  refine W.widen (k := 67) (n := 524646) (Nat.le_of_ble_eq_true rfl) (Nat.le_of_ble_eq_true rfl) ?_
  refine lv_iconst (v := 4) hx hb d_MM_init_346 (by decide) ?_
  refine ax_I (k := 1) (As := [.int 4]) (rest := [.ref q_49, .ref h0]) (wr := [(h0, .inr (0, fs_33)), (q_1, .inr (1, q_2)), (q_3, .inr (2, [.ref q_4, .int 0])), (q_4, .inl (ca 0, 16, .inl (fun _ => 0))), (q_14, .inl (ca 4, 148, .inr (.inr (.inr (.inr (fun _ => none))))))]) rfl hx hb hml hown hts g_wm (mK_bl dC dI ca) (c_MI_init l dC dI ca q_49) rfl xm_34 xm_35 xm_3 xm_36 (by decide +kernel) rfl (Nat.le_of_ble_eq_true rfl) (Nat.le_of_ble_eq_true rfl) hl.1 (Nat.le_of_ble_eq_true rfl) (mK_up hK) hP hD hS hA [5] [0, 1, 2, 3, 4] rfl (by decide) rfl rfl (by decide) (by decide) (Nat.le_of_ble_eq_true rfl) (Nat.le_of_ble_eq_true rfl) d_MM_init_347 ?_
  clear hP hD hS
  intro v q_50 H locs hp hP hD hS
  obtain rfl : v = none := hp
  replace hP : va_P (dC, dI) classes [(h0, .inr (0, fs_33)), (q_1, .inr (1, q_2)), (q_3, .inr (2, [.ref q_4, .int 0])), (q_4, .inl (ca 0, 16, .inl (fun _ => 0))), (q_14, .inl (ca 4, 148, .inr (.inr (.inr (.inr (fun _ => none)))))), (q_49, .inr (3, [.ref q_50, .int 0])), (q_50, .inl (ca 1, 4, .inl (fun _ => 0)))] H := hP
  replace hD : va_D A [(h0, .inr (0, fs_33)), (q_1, .inr (1, q_2)), (q_3, .inr (2, [.ref q_4, .int 0])), (q_4, .inl (ca 0, 16, .inl (fun _ => 0))), (q_14, .inl (ca 4, 148, .inr (.inr (.inr (.inr (fun _ => none)))))), (q_49, .inr (3, [.ref q_50, .int 0])), (q_50, .inl (ca 1, 4, .inl (fun _ => 0)))] := hD
  refine W.eq (g2 := F0 m 350 ls [.ref q_49, .ref h0]) rfl ?_
  refine W.widen (k := 68) (n := 524650) (Nat.le_of_ble_eq_true rfl) (Nat.le_of_ble_eq_true rfl) ?_
  replace hP := hP.sub (ws' := [(h0, .inr (0, fs_33)), (q_1, .inr (1, q_2)), (q_3, .inr (2, [.ref q_4, .int 0])), (q_4, .inl (ca 0, 16, .inl (fun _ => 0))), (q_14, .inl (ca 4, 148, .inr (.inr (.inr (.inr (fun _ => none))))))]) [0, 1, 2, 3, 4] rfl
  replace hD := hD.sub (ws' := [(h0, .inr (0, fs_33)), (q_1, .inr (1, q_2)), (q_3, .inr (2, [.ref q_4, .int 0])), (q_4, .inl (ca 0, 16, .inl (fun _ => 0))), (q_14, .inl (ca 4, 148, .inr (.inr (.inr (.inr (fun _ => none))))))]) [0, 1, 2, 3, 4] (by decide) rfl
  refine m_put M (fs := fs_33) (wt := [(q_1, .inr (1, q_2)), (q_3, .inr (2, [.ref q_4, .int 0])), (q_4, .inl (ca 0, 16, .inl (fun _ => 0))), (q_14, .inl (ca 4, 148, .inr (.inr (.inr (.inr (fun _ => none))))))]) (k := 45) (ty := .object "SourceBackModel$Ints") hP hD hS hlen (by decide) xm_114 rfl rfl (by decide +kernel) rfl rfl d_MM_init_350 ?_
  clear hP hD hS hlen
  intro H locs hlen hP hD hS
  obtain ⟨fs_34, e_34⟩ : ∃ z, z = fs_33.set 45 (.ref q_49) := ⟨_, rfl⟩
  rw [← e_34] at hP hD hlen
  replace hP : va_P (dC, dI) classes [(h0, .inr (0, fs_34)), (q_1, .inr (1, q_2)), (q_3, .inr (2, [.ref q_4, .int 0])), (q_4, .inl (ca 0, 16, .inl (fun _ => 0))), (q_14, .inl (ca 4, 148, .inr (.inr (.inr (.inr (fun _ => none))))))] H := hP
  replace hD : va_D A [(h0, .inr (0, fs_34)), (q_1, .inr (1, q_2)), (q_3, .inr (2, [.ref q_4, .int 0])), (q_4, .inl (ca 0, 16, .inl (fun _ => 0))), (q_14, .inl (ca 4, 148, .inr (.inr (.inr (.inr (fun _ => none))))))] := hD
  refine lv_aload_n hx hb d_MM_init_353 rfl (lv_at hl 0 rfl) ?_
  refine m_new M (wt := [(q_1, .inr (1, q_2)), (q_3, .inr (2, [.ref q_4, .int 0])), (q_4, .inl (ca 0, 16, .inl (fun _ => 0))), (q_14, .inl (ca 4, 148, .inr (.inr (.inr (.inr (fun _ => none))))))]) (ci := 4) (C := R_ML) (T := F_ML) (N := 2) (f0 := [.null, .int 0]) hP hD hS i_ML t_ML_ok xm_69 xm_50 xm_5 rfl (by decide +kernel) (Nat.le_of_ble_eq_true rfl) (Nat.le_of_ble_eq_true rfl) d_MM_init_354 d_MM_init_357 ?_
  clear hP hD hS
  intro q_51 H hP hD hS
  replace hP : va_P (dC, dI) classes [(h0, .inr (0, fs_34)), (q_1, .inr (1, q_2)), (q_3, .inr (2, [.ref q_4, .int 0])), (q_4, .inl (ca 0, 16, .inl (fun _ => 0))), (q_14, .inl (ca 4, 148, .inr (.inr (.inr (.inr (fun _ => none)))))), (q_51, .inr (4, [.null, .int 0]))] H := hP
  replace hD : va_D A [(h0, .inr (0, fs_34)), (q_1, .inr (1, q_2)), (q_3, .inr (2, [.ref q_4, .int 0])), (q_4, .inl (ca 0, 16, .inl (fun _ => 0))), (q_14, .inl (ca 4, 148, .inr (.inr (.inr (.inr (fun _ => none)))))), (q_51, .inr (4, [.null, .int 0]))] := hD
  refine W.widen (k := 69) (n := 524652) (Nat.le_of_ble_eq_true rfl) (Nat.le_of_ble_eq_true rfl) ?_
  refine lv_iconst (v := 4) hx hb d_MM_init_358 (by decide) ?_
  refine ax_I (k := 1) (As := [.int 4]) (rest := [.ref q_51, .ref h0]) (wr := [(h0, .inr (0, fs_34)), (q_1, .inr (1, q_2)), (q_3, .inr (2, [.ref q_4, .int 0])), (q_4, .inl (ca 0, 16, .inl (fun _ => 0))), (q_14, .inl (ca 4, 148, .inr (.inr (.inr (.inr (fun _ => none))))))]) rfl hx hb hml hown hts g_wm (mK_bl dC dI ca) (c_ML_init l dC dI ca q_51) rfl xm_70 xm_52 xm_5 xm_53 (by decide +kernel) rfl (Nat.le_of_ble_eq_true rfl) (Nat.le_of_ble_eq_true rfl) hl.1 (Nat.le_of_ble_eq_true rfl) (mK_up hK) hP hD hS hA [5] [0, 1, 2, 3, 4] rfl (by decide) rfl rfl (by decide) (by decide) (Nat.le_of_ble_eq_true rfl) (Nat.le_of_ble_eq_true rfl) d_MM_init_359 ?_
  clear hP hD hS
  intro v q_52 H locs hp hP hD hS
  obtain rfl : v = none := hp
  replace hP : va_P (dC, dI) classes [(h0, .inr (0, fs_34)), (q_1, .inr (1, q_2)), (q_3, .inr (2, [.ref q_4, .int 0])), (q_4, .inl (ca 0, 16, .inl (fun _ => 0))), (q_14, .inl (ca 4, 148, .inr (.inr (.inr (.inr (fun _ => none)))))), (q_51, .inr (4, [.ref q_52, .int 0])), (q_52, .inl (ca 2, 4, .inr (.inl (fun _ => 0))))] H := hP
  replace hD : va_D A [(h0, .inr (0, fs_34)), (q_1, .inr (1, q_2)), (q_3, .inr (2, [.ref q_4, .int 0])), (q_4, .inl (ca 0, 16, .inl (fun _ => 0))), (q_14, .inl (ca 4, 148, .inr (.inr (.inr (.inr (fun _ => none)))))), (q_51, .inr (4, [.ref q_52, .int 0])), (q_52, .inl (ca 2, 4, .inr (.inl (fun _ => 0))))] := hD
  refine W.eq (g2 := F0 m 362 ls [.ref q_51, .ref h0]) rfl ?_
  refine W.widen (k := 70) (n := 524656) (Nat.le_of_ble_eq_true rfl) (Nat.le_of_ble_eq_true rfl) ?_
  replace hP := hP.sub (ws' := [(h0, .inr (0, fs_34)), (q_1, .inr (1, q_2)), (q_3, .inr (2, [.ref q_4, .int 0])), (q_4, .inl (ca 0, 16, .inl (fun _ => 0))), (q_14, .inl (ca 4, 148, .inr (.inr (.inr (.inr (fun _ => none))))))]) [0, 1, 2, 3, 4] rfl
  replace hD := hD.sub (ws' := [(h0, .inr (0, fs_34)), (q_1, .inr (1, q_2)), (q_3, .inr (2, [.ref q_4, .int 0])), (q_4, .inl (ca 0, 16, .inl (fun _ => 0))), (q_14, .inl (ca 4, 148, .inr (.inr (.inr (.inr (fun _ => none))))))]) [0, 1, 2, 3, 4] (by decide) rfl
  refine m_put M (fs := fs_34) (wt := [(q_1, .inr (1, q_2)), (q_3, .inr (2, [.ref q_4, .int 0])), (q_4, .inl (ca 0, 16, .inl (fun _ => 0))), (q_14, .inl (ca 4, 148, .inr (.inr (.inr (.inr (fun _ => none))))))]) (k := 46) (ty := .object "SourceBackModel$Longs") hP hD hS hlen (by decide) xm_115 rfl rfl (by decide +kernel) rfl rfl d_MM_init_362 ?_
  clear hP hD hS hlen
  intro H locs hlen hP hD hS
  obtain ⟨fs_35, e_35⟩ : ∃ z, z = fs_34.set 46 (.ref q_51) := ⟨_, rfl⟩
  rw [← e_35] at hP hD hlen
  replace hP : va_P (dC, dI) classes [(h0, .inr (0, fs_35)), (q_1, .inr (1, q_2)), (q_3, .inr (2, [.ref q_4, .int 0])), (q_4, .inl (ca 0, 16, .inl (fun _ => 0))), (q_14, .inl (ca 4, 148, .inr (.inr (.inr (.inr (fun _ => none))))))] H := hP
  replace hD : va_D A [(h0, .inr (0, fs_35)), (q_1, .inr (1, q_2)), (q_3, .inr (2, [.ref q_4, .int 0])), (q_4, .inl (ca 0, 16, .inl (fun _ => 0))), (q_14, .inl (ca 4, 148, .inr (.inr (.inr (.inr (fun _ => none))))))] := hD
  refine lv_aload_n hx hb d_MM_init_365 rfl (lv_at hl 0 rfl) ?_
  refine m_new M (wt := [(q_1, .inr (1, q_2)), (q_3, .inr (2, [.ref q_4, .int 0])), (q_4, .inl (ca 0, 16, .inl (fun _ => 0))), (q_14, .inl (ca 4, 148, .inr (.inr (.inr (.inr (fun _ => none))))))]) (ci := 3) (C := R_MI) (T := F_MI) (N := 2) (f0 := [.null, .int 0]) hP hD hS i_MI t_MI_ok xm_32 xm_33 xm_3 rfl (by decide +kernel) (Nat.le_of_ble_eq_true rfl) (Nat.le_of_ble_eq_true rfl) d_MM_init_366 d_MM_init_369 ?_
  clear hP hD hS
  intro q_53 H hP hD hS
  replace hP : va_P (dC, dI) classes [(h0, .inr (0, fs_35)), (q_1, .inr (1, q_2)), (q_3, .inr (2, [.ref q_4, .int 0])), (q_4, .inl (ca 0, 16, .inl (fun _ => 0))), (q_14, .inl (ca 4, 148, .inr (.inr (.inr (.inr (fun _ => none)))))), (q_53, .inr (3, [.null, .int 0]))] H := hP
  replace hD : va_D A [(h0, .inr (0, fs_35)), (q_1, .inr (1, q_2)), (q_3, .inr (2, [.ref q_4, .int 0])), (q_4, .inl (ca 0, 16, .inl (fun _ => 0))), (q_14, .inl (ca 4, 148, .inr (.inr (.inr (.inr (fun _ => none)))))), (q_53, .inr (3, [.null, .int 0]))] := hD
  refine W.widen (k := 71) (n := 524658) (Nat.le_of_ble_eq_true rfl) (Nat.le_of_ble_eq_true rfl) ?_
  refine lv_iconst (v := 4) hx hb d_MM_init_370 (by decide) ?_
  refine ax_I (k := 1) (As := [.int 4]) (rest := [.ref q_53, .ref h0]) (wr := [(h0, .inr (0, fs_35)), (q_1, .inr (1, q_2)), (q_3, .inr (2, [.ref q_4, .int 0])), (q_4, .inl (ca 0, 16, .inl (fun _ => 0))), (q_14, .inl (ca 4, 148, .inr (.inr (.inr (.inr (fun _ => none))))))]) rfl hx hb hml hown hts g_wm (mK_bl dC dI ca) (c_MI_init l dC dI ca q_53) rfl xm_34 xm_35 xm_3 xm_36 (by decide +kernel) rfl (Nat.le_of_ble_eq_true rfl) (Nat.le_of_ble_eq_true rfl) hl.1 (Nat.le_of_ble_eq_true rfl) (mK_up hK) hP hD hS hA [5] [0, 1, 2, 3, 4] rfl (by decide) rfl rfl (by decide) (by decide) (Nat.le_of_ble_eq_true rfl) (Nat.le_of_ble_eq_true rfl) d_MM_init_371 ?_
  clear hP hD hS
  intro v q_54 H locs hp hP hD hS
  obtain rfl : v = none := hp
  replace hP : va_P (dC, dI) classes [(h0, .inr (0, fs_35)), (q_1, .inr (1, q_2)), (q_3, .inr (2, [.ref q_4, .int 0])), (q_4, .inl (ca 0, 16, .inl (fun _ => 0))), (q_14, .inl (ca 4, 148, .inr (.inr (.inr (.inr (fun _ => none)))))), (q_53, .inr (3, [.ref q_54, .int 0])), (q_54, .inl (ca 1, 4, .inl (fun _ => 0)))] H := hP
  replace hD : va_D A [(h0, .inr (0, fs_35)), (q_1, .inr (1, q_2)), (q_3, .inr (2, [.ref q_4, .int 0])), (q_4, .inl (ca 0, 16, .inl (fun _ => 0))), (q_14, .inl (ca 4, 148, .inr (.inr (.inr (.inr (fun _ => none)))))), (q_53, .inr (3, [.ref q_54, .int 0])), (q_54, .inl (ca 1, 4, .inl (fun _ => 0)))] := hD
  refine W.eq (g2 := F0 m 374 ls [.ref q_53, .ref h0]) rfl ?_
  refine W.widen (k := 72) (n := 524662) (Nat.le_of_ble_eq_true rfl) (Nat.le_of_ble_eq_true rfl) ?_
  replace hP := hP.sub (ws' := [(h0, .inr (0, fs_35)), (q_1, .inr (1, q_2)), (q_3, .inr (2, [.ref q_4, .int 0])), (q_4, .inl (ca 0, 16, .inl (fun _ => 0))), (q_14, .inl (ca 4, 148, .inr (.inr (.inr (.inr (fun _ => none))))))]) [0, 1, 2, 3, 4] rfl
  replace hD := hD.sub (ws' := [(h0, .inr (0, fs_35)), (q_1, .inr (1, q_2)), (q_3, .inr (2, [.ref q_4, .int 0])), (q_4, .inl (ca 0, 16, .inl (fun _ => 0))), (q_14, .inl (ca 4, 148, .inr (.inr (.inr (.inr (fun _ => none))))))]) [0, 1, 2, 3, 4] (by decide) rfl
  refine m_put M (fs := fs_35) (wt := [(q_1, .inr (1, q_2)), (q_3, .inr (2, [.ref q_4, .int 0])), (q_4, .inl (ca 0, 16, .inl (fun _ => 0))), (q_14, .inl (ca 4, 148, .inr (.inr (.inr (.inr (fun _ => none))))))]) (k := 47) (ty := .object "SourceBackModel$Ints") hP hD hS hlen (by decide) xm_116 rfl rfl (by decide +kernel) rfl rfl d_MM_init_374 ?_
  clear hP hD hS hlen
  intro H locs hlen hP hD hS
  obtain ⟨fs_36, e_36⟩ : ∃ z, z = fs_35.set 47 (.ref q_53) := ⟨_, rfl⟩
  rw [← e_36] at hP hD hlen
  replace hP : va_P (dC, dI) classes [(h0, .inr (0, fs_36)), (q_1, .inr (1, q_2)), (q_3, .inr (2, [.ref q_4, .int 0])), (q_4, .inl (ca 0, 16, .inl (fun _ => 0))), (q_14, .inl (ca 4, 148, .inr (.inr (.inr (.inr (fun _ => none))))))] H := hP
  replace hD : va_D A [(h0, .inr (0, fs_36)), (q_1, .inr (1, q_2)), (q_3, .inr (2, [.ref q_4, .int 0])), (q_4, .inl (ca 0, 16, .inl (fun _ => 0))), (q_14, .inl (ca 4, 148, .inr (.inr (.inr (.inr (fun _ => none))))))] := hD
  refine lv_aload_n hx hb d_MM_init_377 rfl (lv_at hl 0 rfl) ?_
  refine m_new M (wt := [(q_1, .inr (1, q_2)), (q_3, .inr (2, [.ref q_4, .int 0])), (q_4, .inl (ca 0, 16, .inl (fun _ => 0))), (q_14, .inl (ca 4, 148, .inr (.inr (.inr (.inr (fun _ => none))))))]) (ci := 3) (C := R_MI) (T := F_MI) (N := 2) (f0 := [.null, .int 0]) hP hD hS i_MI t_MI_ok xm_32 xm_33 xm_3 rfl (by decide +kernel) (Nat.le_of_ble_eq_true rfl) (Nat.le_of_ble_eq_true rfl) d_MM_init_378 d_MM_init_381 ?_
  clear hP hD hS
  intro q_55 H hP hD hS
  replace hP : va_P (dC, dI) classes [(h0, .inr (0, fs_36)), (q_1, .inr (1, q_2)), (q_3, .inr (2, [.ref q_4, .int 0])), (q_4, .inl (ca 0, 16, .inl (fun _ => 0))), (q_14, .inl (ca 4, 148, .inr (.inr (.inr (.inr (fun _ => none)))))), (q_55, .inr (3, [.null, .int 0]))] H := hP
  replace hD : va_D A [(h0, .inr (0, fs_36)), (q_1, .inr (1, q_2)), (q_3, .inr (2, [.ref q_4, .int 0])), (q_4, .inl (ca 0, 16, .inl (fun _ => 0))), (q_14, .inl (ca 4, 148, .inr (.inr (.inr (.inr (fun _ => none)))))), (q_55, .inr (3, [.null, .int 0]))] := hD
  refine W.widen (k := 73) (n := 524664) (Nat.le_of_ble_eq_true rfl) (Nat.le_of_ble_eq_true rfl) ?_
  refine lv_iconst (v := 4) hx hb d_MM_init_382 (by decide) ?_
  refine ax_I (k := 1) (As := [.int 4]) (rest := [.ref q_55, .ref h0]) (wr := [(h0, .inr (0, fs_36)), (q_1, .inr (1, q_2)), (q_3, .inr (2, [.ref q_4, .int 0])), (q_4, .inl (ca 0, 16, .inl (fun _ => 0))), (q_14, .inl (ca 4, 148, .inr (.inr (.inr (.inr (fun _ => none))))))]) rfl hx hb hml hown hts g_wm (mK_bl dC dI ca) (c_MI_init l dC dI ca q_55) rfl xm_34 xm_35 xm_3 xm_36 (by decide +kernel) rfl (Nat.le_of_ble_eq_true rfl) (Nat.le_of_ble_eq_true rfl) hl.1 (Nat.le_of_ble_eq_true rfl) (mK_up hK) hP hD hS hA [5] [0, 1, 2, 3, 4] rfl (by decide) rfl rfl (by decide) (by decide) (Nat.le_of_ble_eq_true rfl) (Nat.le_of_ble_eq_true rfl) d_MM_init_383 ?_
  clear hP hD hS
  intro v q_56 H locs hp hP hD hS
  obtain rfl : v = none := hp
  replace hP : va_P (dC, dI) classes [(h0, .inr (0, fs_36)), (q_1, .inr (1, q_2)), (q_3, .inr (2, [.ref q_4, .int 0])), (q_4, .inl (ca 0, 16, .inl (fun _ => 0))), (q_14, .inl (ca 4, 148, .inr (.inr (.inr (.inr (fun _ => none)))))), (q_55, .inr (3, [.ref q_56, .int 0])), (q_56, .inl (ca 1, 4, .inl (fun _ => 0)))] H := hP
  replace hD : va_D A [(h0, .inr (0, fs_36)), (q_1, .inr (1, q_2)), (q_3, .inr (2, [.ref q_4, .int 0])), (q_4, .inl (ca 0, 16, .inl (fun _ => 0))), (q_14, .inl (ca 4, 148, .inr (.inr (.inr (.inr (fun _ => none)))))), (q_55, .inr (3, [.ref q_56, .int 0])), (q_56, .inl (ca 1, 4, .inl (fun _ => 0)))] := hD
  refine W.eq (g2 := F0 m 386 ls [.ref q_55, .ref h0]) rfl ?_
  refine W.widen (k := 74) (n := 524668) (Nat.le_of_ble_eq_true rfl) (Nat.le_of_ble_eq_true rfl) ?_
  replace hP := hP.sub (ws' := [(h0, .inr (0, fs_36)), (q_1, .inr (1, q_2)), (q_3, .inr (2, [.ref q_4, .int 0])), (q_4, .inl (ca 0, 16, .inl (fun _ => 0))), (q_14, .inl (ca 4, 148, .inr (.inr (.inr (.inr (fun _ => none))))))]) [0, 1, 2, 3, 4] rfl
  replace hD := hD.sub (ws' := [(h0, .inr (0, fs_36)), (q_1, .inr (1, q_2)), (q_3, .inr (2, [.ref q_4, .int 0])), (q_4, .inl (ca 0, 16, .inl (fun _ => 0))), (q_14, .inl (ca 4, 148, .inr (.inr (.inr (.inr (fun _ => none))))))]) [0, 1, 2, 3, 4] (by decide) rfl
  refine m_put M (fs := fs_36) (wt := [(q_1, .inr (1, q_2)), (q_3, .inr (2, [.ref q_4, .int 0])), (q_4, .inl (ca 0, 16, .inl (fun _ => 0))), (q_14, .inl (ca 4, 148, .inr (.inr (.inr (.inr (fun _ => none))))))]) (k := 48) (ty := .object "SourceBackModel$Ints") hP hD hS hlen (by decide) xm_117 rfl rfl (by decide +kernel) rfl rfl d_MM_init_386 ?_
  clear hP hD hS hlen
  intro H locs hlen hP hD hS
  obtain ⟨fs_37, e_37⟩ : ∃ z, z = fs_36.set 48 (.ref q_55) := ⟨_, rfl⟩
  rw [← e_37] at hP hD hlen
  replace hP : va_P (dC, dI) classes [(h0, .inr (0, fs_37)), (q_1, .inr (1, q_2)), (q_3, .inr (2, [.ref q_4, .int 0])), (q_4, .inl (ca 0, 16, .inl (fun _ => 0))), (q_14, .inl (ca 4, 148, .inr (.inr (.inr (.inr (fun _ => none))))))] H := hP
  replace hD : va_D A [(h0, .inr (0, fs_37)), (q_1, .inr (1, q_2)), (q_3, .inr (2, [.ref q_4, .int 0])), (q_4, .inl (ca 0, 16, .inl (fun _ => 0))), (q_14, .inl (ca 4, 148, .inr (.inr (.inr (.inr (fun _ => none))))))] := hD
  refine lv_aload_n hx hb d_MM_init_389 rfl (lv_at hl 0 rfl) ?_
  refine m_new M (wt := [(q_1, .inr (1, q_2)), (q_3, .inr (2, [.ref q_4, .int 0])), (q_4, .inl (ca 0, 16, .inl (fun _ => 0))), (q_14, .inl (ca 4, 148, .inr (.inr (.inr (.inr (fun _ => none))))))]) (ci := 3) (C := R_MI) (T := F_MI) (N := 2) (f0 := [.null, .int 0]) hP hD hS i_MI t_MI_ok xm_32 xm_33 xm_3 rfl (by decide +kernel) (Nat.le_of_ble_eq_true rfl) (Nat.le_of_ble_eq_true rfl) d_MM_init_390 d_MM_init_393 ?_
  clear hP hD hS
  intro q_57 H hP hD hS
  replace hP : va_P (dC, dI) classes [(h0, .inr (0, fs_37)), (q_1, .inr (1, q_2)), (q_3, .inr (2, [.ref q_4, .int 0])), (q_4, .inl (ca 0, 16, .inl (fun _ => 0))), (q_14, .inl (ca 4, 148, .inr (.inr (.inr (.inr (fun _ => none)))))), (q_57, .inr (3, [.null, .int 0]))] H := hP
  replace hD : va_D A [(h0, .inr (0, fs_37)), (q_1, .inr (1, q_2)), (q_3, .inr (2, [.ref q_4, .int 0])), (q_4, .inl (ca 0, 16, .inl (fun _ => 0))), (q_14, .inl (ca 4, 148, .inr (.inr (.inr (.inr (fun _ => none)))))), (q_57, .inr (3, [.null, .int 0]))] := hD
  refine W.widen (k := 75) (n := 524670) (Nat.le_of_ble_eq_true rfl) (Nat.le_of_ble_eq_true rfl) ?_
  refine lv_iconst (v := 4) hx hb d_MM_init_394 (by decide) ?_
  refine ax_I (k := 1) (As := [.int 4]) (rest := [.ref q_57, .ref h0]) (wr := [(h0, .inr (0, fs_37)), (q_1, .inr (1, q_2)), (q_3, .inr (2, [.ref q_4, .int 0])), (q_4, .inl (ca 0, 16, .inl (fun _ => 0))), (q_14, .inl (ca 4, 148, .inr (.inr (.inr (.inr (fun _ => none))))))]) rfl hx hb hml hown hts g_wm (mK_bl dC dI ca) (c_MI_init l dC dI ca q_57) rfl xm_34 xm_35 xm_3 xm_36 (by decide +kernel) rfl (Nat.le_of_ble_eq_true rfl) (Nat.le_of_ble_eq_true rfl) hl.1 (Nat.le_of_ble_eq_true rfl) (mK_up hK) hP hD hS hA [5] [0, 1, 2, 3, 4] rfl (by decide) rfl rfl (by decide) (by decide) (Nat.le_of_ble_eq_true rfl) (Nat.le_of_ble_eq_true rfl) d_MM_init_395 ?_
  clear hP hD hS
  intro v q_58 H locs hp hP hD hS
  obtain rfl : v = none := hp
  replace hP : va_P (dC, dI) classes [(h0, .inr (0, fs_37)), (q_1, .inr (1, q_2)), (q_3, .inr (2, [.ref q_4, .int 0])), (q_4, .inl (ca 0, 16, .inl (fun _ => 0))), (q_14, .inl (ca 4, 148, .inr (.inr (.inr (.inr (fun _ => none)))))), (q_57, .inr (3, [.ref q_58, .int 0])), (q_58, .inl (ca 1, 4, .inl (fun _ => 0)))] H := hP
  replace hD : va_D A [(h0, .inr (0, fs_37)), (q_1, .inr (1, q_2)), (q_3, .inr (2, [.ref q_4, .int 0])), (q_4, .inl (ca 0, 16, .inl (fun _ => 0))), (q_14, .inl (ca 4, 148, .inr (.inr (.inr (.inr (fun _ => none)))))), (q_57, .inr (3, [.ref q_58, .int 0])), (q_58, .inl (ca 1, 4, .inl (fun _ => 0)))] := hD
  refine W.eq (g2 := F0 m 398 ls [.ref q_57, .ref h0]) rfl ?_
  refine W.widen (k := 76) (n := 524674) (Nat.le_of_ble_eq_true rfl) (Nat.le_of_ble_eq_true rfl) ?_
  replace hP := hP.sub (ws' := [(h0, .inr (0, fs_37)), (q_1, .inr (1, q_2)), (q_3, .inr (2, [.ref q_4, .int 0])), (q_4, .inl (ca 0, 16, .inl (fun _ => 0))), (q_14, .inl (ca 4, 148, .inr (.inr (.inr (.inr (fun _ => none))))))]) [0, 1, 2, 3, 4] rfl
  replace hD := hD.sub (ws' := [(h0, .inr (0, fs_37)), (q_1, .inr (1, q_2)), (q_3, .inr (2, [.ref q_4, .int 0])), (q_4, .inl (ca 0, 16, .inl (fun _ => 0))), (q_14, .inl (ca 4, 148, .inr (.inr (.inr (.inr (fun _ => none))))))]) [0, 1, 2, 3, 4] (by decide) rfl
  refine m_put M (fs := fs_37) (wt := [(q_1, .inr (1, q_2)), (q_3, .inr (2, [.ref q_4, .int 0])), (q_4, .inl (ca 0, 16, .inl (fun _ => 0))), (q_14, .inl (ca 4, 148, .inr (.inr (.inr (.inr (fun _ => none))))))]) (k := 49) (ty := .object "SourceBackModel$Ints") hP hD hS hlen (by decide) xm_118 rfl rfl (by decide +kernel) rfl rfl d_MM_init_398 ?_
  clear hP hD hS hlen
  intro H locs hlen hP hD hS
  obtain ⟨fs_38, e_38⟩ : ∃ z, z = fs_37.set 49 (.ref q_57) := ⟨_, rfl⟩
  rw [← e_38] at hP hD hlen
  replace hP : va_P (dC, dI) classes [(h0, .inr (0, fs_38)), (q_1, .inr (1, q_2)), (q_3, .inr (2, [.ref q_4, .int 0])), (q_4, .inl (ca 0, 16, .inl (fun _ => 0))), (q_14, .inl (ca 4, 148, .inr (.inr (.inr (.inr (fun _ => none))))))] H := hP
  replace hD : va_D A [(h0, .inr (0, fs_38)), (q_1, .inr (1, q_2)), (q_3, .inr (2, [.ref q_4, .int 0])), (q_4, .inl (ca 0, 16, .inl (fun _ => 0))), (q_14, .inl (ca 4, 148, .inr (.inr (.inr (.inr (fun _ => none))))))] := hD
  refine lv_aload_n hx hb d_MM_init_401 rfl (lv_at hl 0 rfl) ?_
  refine m_new M (wt := [(q_1, .inr (1, q_2)), (q_3, .inr (2, [.ref q_4, .int 0])), (q_4, .inl (ca 0, 16, .inl (fun _ => 0))), (q_14, .inl (ca 4, 148, .inr (.inr (.inr (.inr (fun _ => none))))))]) (ci := 3) (C := R_MI) (T := F_MI) (N := 2) (f0 := [.null, .int 0]) hP hD hS i_MI t_MI_ok xm_32 xm_33 xm_3 rfl (by decide +kernel) (Nat.le_of_ble_eq_true rfl) (Nat.le_of_ble_eq_true rfl) d_MM_init_402 d_MM_init_405 ?_
  clear hP hD hS
  intro q_59 H hP hD hS
  replace hP : va_P (dC, dI) classes [(h0, .inr (0, fs_38)), (q_1, .inr (1, q_2)), (q_3, .inr (2, [.ref q_4, .int 0])), (q_4, .inl (ca 0, 16, .inl (fun _ => 0))), (q_14, .inl (ca 4, 148, .inr (.inr (.inr (.inr (fun _ => none)))))), (q_59, .inr (3, [.null, .int 0]))] H := hP
  replace hD : va_D A [(h0, .inr (0, fs_38)), (q_1, .inr (1, q_2)), (q_3, .inr (2, [.ref q_4, .int 0])), (q_4, .inl (ca 0, 16, .inl (fun _ => 0))), (q_14, .inl (ca 4, 148, .inr (.inr (.inr (.inr (fun _ => none)))))), (q_59, .inr (3, [.null, .int 0]))] := hD
  refine W.widen (k := 77) (n := 524676) (Nat.le_of_ble_eq_true rfl) (Nat.le_of_ble_eq_true rfl) ?_
  refine lv_iconst (v := 4) hx hb d_MM_init_406 (by decide) ?_
  refine ax_I (k := 1) (As := [.int 4]) (rest := [.ref q_59, .ref h0]) (wr := [(h0, .inr (0, fs_38)), (q_1, .inr (1, q_2)), (q_3, .inr (2, [.ref q_4, .int 0])), (q_4, .inl (ca 0, 16, .inl (fun _ => 0))), (q_14, .inl (ca 4, 148, .inr (.inr (.inr (.inr (fun _ => none))))))]) rfl hx hb hml hown hts g_wm (mK_bl dC dI ca) (c_MI_init l dC dI ca q_59) rfl xm_34 xm_35 xm_3 xm_36 (by decide +kernel) rfl (Nat.le_of_ble_eq_true rfl) (Nat.le_of_ble_eq_true rfl) hl.1 (Nat.le_of_ble_eq_true rfl) (mK_up hK) hP hD hS hA [5] [0, 1, 2, 3, 4] rfl (by decide) rfl rfl (by decide) (by decide) (Nat.le_of_ble_eq_true rfl) (Nat.le_of_ble_eq_true rfl) d_MM_init_407 ?_
  clear hP hD hS
  intro v q_60 H locs hp hP hD hS
  obtain rfl : v = none := hp
  replace hP : va_P (dC, dI) classes [(h0, .inr (0, fs_38)), (q_1, .inr (1, q_2)), (q_3, .inr (2, [.ref q_4, .int 0])), (q_4, .inl (ca 0, 16, .inl (fun _ => 0))), (q_14, .inl (ca 4, 148, .inr (.inr (.inr (.inr (fun _ => none)))))), (q_59, .inr (3, [.ref q_60, .int 0])), (q_60, .inl (ca 1, 4, .inl (fun _ => 0)))] H := hP
  replace hD : va_D A [(h0, .inr (0, fs_38)), (q_1, .inr (1, q_2)), (q_3, .inr (2, [.ref q_4, .int 0])), (q_4, .inl (ca 0, 16, .inl (fun _ => 0))), (q_14, .inl (ca 4, 148, .inr (.inr (.inr (.inr (fun _ => none)))))), (q_59, .inr (3, [.ref q_60, .int 0])), (q_60, .inl (ca 1, 4, .inl (fun _ => 0)))] := hD
  refine W.eq (g2 := F0 m 410 ls [.ref q_59, .ref h0]) rfl ?_
  refine W.widen (k := 78) (n := 524680) (Nat.le_of_ble_eq_true rfl) (Nat.le_of_ble_eq_true rfl) ?_
  replace hP := hP.sub (ws' := [(h0, .inr (0, fs_38)), (q_1, .inr (1, q_2)), (q_3, .inr (2, [.ref q_4, .int 0])), (q_4, .inl (ca 0, 16, .inl (fun _ => 0))), (q_14, .inl (ca 4, 148, .inr (.inr (.inr (.inr (fun _ => none))))))]) [0, 1, 2, 3, 4] rfl
  replace hD := hD.sub (ws' := [(h0, .inr (0, fs_38)), (q_1, .inr (1, q_2)), (q_3, .inr (2, [.ref q_4, .int 0])), (q_4, .inl (ca 0, 16, .inl (fun _ => 0))), (q_14, .inl (ca 4, 148, .inr (.inr (.inr (.inr (fun _ => none))))))]) [0, 1, 2, 3, 4] (by decide) rfl
  refine m_put M (fs := fs_38) (wt := [(q_1, .inr (1, q_2)), (q_3, .inr (2, [.ref q_4, .int 0])), (q_4, .inl (ca 0, 16, .inl (fun _ => 0))), (q_14, .inl (ca 4, 148, .inr (.inr (.inr (.inr (fun _ => none))))))]) (k := 50) (ty := .object "SourceBackModel$Ints") hP hD hS hlen (by decide) xm_119 rfl rfl (by decide +kernel) rfl rfl d_MM_init_410 ?_
  clear hP hD hS hlen
  intro H locs hlen hP hD hS
  obtain ⟨fs_39, e_39⟩ : ∃ z, z = fs_38.set 50 (.ref q_59) := ⟨_, rfl⟩
  rw [← e_39] at hP hD hlen
  replace hP : va_P (dC, dI) classes [(h0, .inr (0, fs_39)), (q_1, .inr (1, q_2)), (q_3, .inr (2, [.ref q_4, .int 0])), (q_4, .inl (ca 0, 16, .inl (fun _ => 0))), (q_14, .inl (ca 4, 148, .inr (.inr (.inr (.inr (fun _ => none))))))] H := hP
  replace hD : va_D A [(h0, .inr (0, fs_39)), (q_1, .inr (1, q_2)), (q_3, .inr (2, [.ref q_4, .int 0])), (q_4, .inl (ca 0, 16, .inl (fun _ => 0))), (q_14, .inl (ca 4, 148, .inr (.inr (.inr (.inr (fun _ => none))))))] := hD
  refine lv_aload_n hx hb d_MM_init_413 rfl (lv_at hl 0 rfl) ?_
  refine m_new M (wt := [(q_1, .inr (1, q_2)), (q_3, .inr (2, [.ref q_4, .int 0])), (q_4, .inl (ca 0, 16, .inl (fun _ => 0))), (q_14, .inl (ca 4, 148, .inr (.inr (.inr (.inr (fun _ => none))))))]) (ci := 3) (C := R_MI) (T := F_MI) (N := 2) (f0 := [.null, .int 0]) hP hD hS i_MI t_MI_ok xm_32 xm_33 xm_3 rfl (by decide +kernel) (Nat.le_of_ble_eq_true rfl) (Nat.le_of_ble_eq_true rfl) d_MM_init_414 d_MM_init_417 ?_
  clear hP hD hS
  intro q_61 H hP hD hS
  replace hP : va_P (dC, dI) classes [(h0, .inr (0, fs_39)), (q_1, .inr (1, q_2)), (q_3, .inr (2, [.ref q_4, .int 0])), (q_4, .inl (ca 0, 16, .inl (fun _ => 0))), (q_14, .inl (ca 4, 148, .inr (.inr (.inr (.inr (fun _ => none)))))), (q_61, .inr (3, [.null, .int 0]))] H := hP
  replace hD : va_D A [(h0, .inr (0, fs_39)), (q_1, .inr (1, q_2)), (q_3, .inr (2, [.ref q_4, .int 0])), (q_4, .inl (ca 0, 16, .inl (fun _ => 0))), (q_14, .inl (ca 4, 148, .inr (.inr (.inr (.inr (fun _ => none)))))), (q_61, .inr (3, [.null, .int 0]))] := hD
  refine W.widen (k := 79) (n := 524682) (Nat.le_of_ble_eq_true rfl) (Nat.le_of_ble_eq_true rfl) ?_
  refine lv_iconst (v := 4) hx hb d_MM_init_418 (by decide) ?_
  refine ax_I (k := 1) (As := [.int 4]) (rest := [.ref q_61, .ref h0]) (wr := [(h0, .inr (0, fs_39)), (q_1, .inr (1, q_2)), (q_3, .inr (2, [.ref q_4, .int 0])), (q_4, .inl (ca 0, 16, .inl (fun _ => 0))), (q_14, .inl (ca 4, 148, .inr (.inr (.inr (.inr (fun _ => none))))))]) rfl hx hb hml hown hts g_wm (mK_bl dC dI ca) (c_MI_init l dC dI ca q_61) rfl xm_34 xm_35 xm_3 xm_36 (by decide +kernel) rfl (Nat.le_of_ble_eq_true rfl) (Nat.le_of_ble_eq_true rfl) hl.1 (Nat.le_of_ble_eq_true rfl) (mK_up hK) hP hD hS hA [5] [0, 1, 2, 3, 4] rfl (by decide) rfl rfl (by decide) (by decide) (Nat.le_of_ble_eq_true rfl) (Nat.le_of_ble_eq_true rfl) d_MM_init_419 ?_
  clear hP hD hS
  intro v q_62 H locs hp hP hD hS
  obtain rfl : v = none := hp
  replace hP : va_P (dC, dI) classes [(h0, .inr (0, fs_39)), (q_1, .inr (1, q_2)), (q_3, .inr (2, [.ref q_4, .int 0])), (q_4, .inl (ca 0, 16, .inl (fun _ => 0))), (q_14, .inl (ca 4, 148, .inr (.inr (.inr (.inr (fun _ => none)))))), (q_61, .inr (3, [.ref q_62, .int 0])), (q_62, .inl (ca 1, 4, .inl (fun _ => 0)))] H := hP
  replace hD : va_D A [(h0, .inr (0, fs_39)), (q_1, .inr (1, q_2)), (q_3, .inr (2, [.ref q_4, .int 0])), (q_4, .inl (ca 0, 16, .inl (fun _ => 0))), (q_14, .inl (ca 4, 148, .inr (.inr (.inr (.inr (fun _ => none)))))), (q_61, .inr (3, [.ref q_62, .int 0])), (q_62, .inl (ca 1, 4, .inl (fun _ => 0)))] := hD
  refine W.eq (g2 := F0 m 422 ls [.ref q_61, .ref h0]) rfl ?_
  refine W.widen (k := 80) (n := 524686) (Nat.le_of_ble_eq_true rfl) (Nat.le_of_ble_eq_true rfl) ?_
  replace hP := hP.sub (ws' := [(h0, .inr (0, fs_39)), (q_1, .inr (1, q_2)), (q_3, .inr (2, [.ref q_4, .int 0])), (q_4, .inl (ca 0, 16, .inl (fun _ => 0))), (q_14, .inl (ca 4, 148, .inr (.inr (.inr (.inr (fun _ => none))))))]) [0, 1, 2, 3, 4] rfl
  replace hD := hD.sub (ws' := [(h0, .inr (0, fs_39)), (q_1, .inr (1, q_2)), (q_3, .inr (2, [.ref q_4, .int 0])), (q_4, .inl (ca 0, 16, .inl (fun _ => 0))), (q_14, .inl (ca 4, 148, .inr (.inr (.inr (.inr (fun _ => none))))))]) [0, 1, 2, 3, 4] (by decide) rfl
  refine m_put M (fs := fs_39) (wt := [(q_1, .inr (1, q_2)), (q_3, .inr (2, [.ref q_4, .int 0])), (q_4, .inl (ca 0, 16, .inl (fun _ => 0))), (q_14, .inl (ca 4, 148, .inr (.inr (.inr (.inr (fun _ => none))))))]) (k := 51) (ty := .object "SourceBackModel$Ints") hP hD hS hlen (by decide) xm_120 rfl rfl (by decide +kernel) rfl rfl d_MM_init_422 ?_
  clear hP hD hS hlen
  intro H locs hlen hP hD hS
  obtain ⟨fs_40, e_40⟩ : ∃ z, z = fs_39.set 51 (.ref q_61) := ⟨_, rfl⟩
  rw [← e_40] at hP hD hlen
  replace hP : va_P (dC, dI) classes [(h0, .inr (0, fs_40)), (q_1, .inr (1, q_2)), (q_3, .inr (2, [.ref q_4, .int 0])), (q_4, .inl (ca 0, 16, .inl (fun _ => 0))), (q_14, .inl (ca 4, 148, .inr (.inr (.inr (.inr (fun _ => none))))))] H := hP
  replace hD : va_D A [(h0, .inr (0, fs_40)), (q_1, .inr (1, q_2)), (q_3, .inr (2, [.ref q_4, .int 0])), (q_4, .inl (ca 0, 16, .inl (fun _ => 0))), (q_14, .inl (ca 4, 148, .inr (.inr (.inr (.inr (fun _ => none))))))] := hD
  refine lv_aload_n hx hb d_MM_init_425 rfl (lv_at hl 0 rfl) ?_
  refine m_new M (wt := [(q_1, .inr (1, q_2)), (q_3, .inr (2, [.ref q_4, .int 0])), (q_4, .inl (ca 0, 16, .inl (fun _ => 0))), (q_14, .inl (ca 4, 148, .inr (.inr (.inr (.inr (fun _ => none))))))]) (ci := 3) (C := R_MI) (T := F_MI) (N := 2) (f0 := [.null, .int 0]) hP hD hS i_MI t_MI_ok xm_32 xm_33 xm_3 rfl (by decide +kernel) (Nat.le_of_ble_eq_true rfl) (Nat.le_of_ble_eq_true rfl) d_MM_init_426 d_MM_init_429 ?_
  clear hP hD hS
  intro q_63 H hP hD hS
  replace hP : va_P (dC, dI) classes [(h0, .inr (0, fs_40)), (q_1, .inr (1, q_2)), (q_3, .inr (2, [.ref q_4, .int 0])), (q_4, .inl (ca 0, 16, .inl (fun _ => 0))), (q_14, .inl (ca 4, 148, .inr (.inr (.inr (.inr (fun _ => none)))))), (q_63, .inr (3, [.null, .int 0]))] H := hP
  replace hD : va_D A [(h0, .inr (0, fs_40)), (q_1, .inr (1, q_2)), (q_3, .inr (2, [.ref q_4, .int 0])), (q_4, .inl (ca 0, 16, .inl (fun _ => 0))), (q_14, .inl (ca 4, 148, .inr (.inr (.inr (.inr (fun _ => none)))))), (q_63, .inr (3, [.null, .int 0]))] := hD
  refine W.widen (k := 81) (n := 524688) (Nat.le_of_ble_eq_true rfl) (Nat.le_of_ble_eq_true rfl) ?_
  refine lv_iconst (v := 4) hx hb d_MM_init_430 (by decide) ?_
  refine ax_I (k := 1) (As := [.int 4]) (rest := [.ref q_63, .ref h0]) (wr := [(h0, .inr (0, fs_40)), (q_1, .inr (1, q_2)), (q_3, .inr (2, [.ref q_4, .int 0])), (q_4, .inl (ca 0, 16, .inl (fun _ => 0))), (q_14, .inl (ca 4, 148, .inr (.inr (.inr (.inr (fun _ => none))))))]) rfl hx hb hml hown hts g_wm (mK_bl dC dI ca) (c_MI_init l dC dI ca q_63) rfl xm_34 xm_35 xm_3 xm_36 (by decide +kernel) rfl (Nat.le_of_ble_eq_true rfl) (Nat.le_of_ble_eq_true rfl) hl.1 (Nat.le_of_ble_eq_true rfl) (mK_up hK) hP hD hS hA [5] [0, 1, 2, 3, 4] rfl (by decide) rfl rfl (by decide) (by decide) (Nat.le_of_ble_eq_true rfl) (Nat.le_of_ble_eq_true rfl) d_MM_init_431 ?_
  clear hP hD hS
  intro v q_64 H locs hp hP hD hS
  obtain rfl : v = none := hp
  replace hP : va_P (dC, dI) classes [(h0, .inr (0, fs_40)), (q_1, .inr (1, q_2)), (q_3, .inr (2, [.ref q_4, .int 0])), (q_4, .inl (ca 0, 16, .inl (fun _ => 0))), (q_14, .inl (ca 4, 148, .inr (.inr (.inr (.inr (fun _ => none)))))), (q_63, .inr (3, [.ref q_64, .int 0])), (q_64, .inl (ca 1, 4, .inl (fun _ => 0)))] H := hP
  replace hD : va_D A [(h0, .inr (0, fs_40)), (q_1, .inr (1, q_2)), (q_3, .inr (2, [.ref q_4, .int 0])), (q_4, .inl (ca 0, 16, .inl (fun _ => 0))), (q_14, .inl (ca 4, 148, .inr (.inr (.inr (.inr (fun _ => none)))))), (q_63, .inr (3, [.ref q_64, .int 0])), (q_64, .inl (ca 1, 4, .inl (fun _ => 0)))] := hD
  refine W.eq (g2 := F0 m 434 ls [.ref q_63, .ref h0]) rfl ?_
  refine W.widen (k := 82) (n := 524692) (Nat.le_of_ble_eq_true rfl) (Nat.le_of_ble_eq_true rfl) ?_
  replace hP := hP.sub (ws' := [(h0, .inr (0, fs_40)), (q_1, .inr (1, q_2)), (q_3, .inr (2, [.ref q_4, .int 0])), (q_4, .inl (ca 0, 16, .inl (fun _ => 0))), (q_14, .inl (ca 4, 148, .inr (.inr (.inr (.inr (fun _ => none))))))]) [0, 1, 2, 3, 4] rfl
  replace hD := hD.sub (ws' := [(h0, .inr (0, fs_40)), (q_1, .inr (1, q_2)), (q_3, .inr (2, [.ref q_4, .int 0])), (q_4, .inl (ca 0, 16, .inl (fun _ => 0))), (q_14, .inl (ca 4, 148, .inr (.inr (.inr (.inr (fun _ => none))))))]) [0, 1, 2, 3, 4] (by decide) rfl
  refine m_put M (fs := fs_40) (wt := [(q_1, .inr (1, q_2)), (q_3, .inr (2, [.ref q_4, .int 0])), (q_4, .inl (ca 0, 16, .inl (fun _ => 0))), (q_14, .inl (ca 4, 148, .inr (.inr (.inr (.inr (fun _ => none))))))]) (k := 52) (ty := .object "SourceBackModel$Ints") hP hD hS hlen (by decide) xm_121 rfl rfl (by decide +kernel) rfl rfl d_MM_init_434 ?_
  clear hP hD hS hlen
  intro H locs hlen hP hD hS
  obtain ⟨fs_41, e_41⟩ : ∃ z, z = fs_40.set 52 (.ref q_63) := ⟨_, rfl⟩
  rw [← e_41] at hP hD hlen
  replace hP : va_P (dC, dI) classes [(h0, .inr (0, fs_41)), (q_1, .inr (1, q_2)), (q_3, .inr (2, [.ref q_4, .int 0])), (q_4, .inl (ca 0, 16, .inl (fun _ => 0))), (q_14, .inl (ca 4, 148, .inr (.inr (.inr (.inr (fun _ => none))))))] H := hP
  replace hD : va_D A [(h0, .inr (0, fs_41)), (q_1, .inr (1, q_2)), (q_3, .inr (2, [.ref q_4, .int 0])), (q_4, .inl (ca 0, 16, .inl (fun _ => 0))), (q_14, .inl (ca 4, 148, .inr (.inr (.inr (.inr (fun _ => none))))))] := hD
  refine lv_aload_n hx hb d_MM_init_437 rfl (lv_at hl 0 rfl) ?_
  refine m_new M (wt := [(q_1, .inr (1, q_2)), (q_3, .inr (2, [.ref q_4, .int 0])), (q_4, .inl (ca 0, 16, .inl (fun _ => 0))), (q_14, .inl (ca 4, 148, .inr (.inr (.inr (.inr (fun _ => none))))))]) (ci := 4) (C := R_ML) (T := F_ML) (N := 2) (f0 := [.null, .int 0]) hP hD hS i_ML t_ML_ok xm_69 xm_50 xm_5 rfl (by decide +kernel) (Nat.le_of_ble_eq_true rfl) (Nat.le_of_ble_eq_true rfl) d_MM_init_438 d_MM_init_441 ?_
  clear hP hD hS
  intro q_65 H hP hD hS
  replace hP : va_P (dC, dI) classes [(h0, .inr (0, fs_41)), (q_1, .inr (1, q_2)), (q_3, .inr (2, [.ref q_4, .int 0])), (q_4, .inl (ca 0, 16, .inl (fun _ => 0))), (q_14, .inl (ca 4, 148, .inr (.inr (.inr (.inr (fun _ => none)))))), (q_65, .inr (4, [.null, .int 0]))] H := hP
  replace hD : va_D A [(h0, .inr (0, fs_41)), (q_1, .inr (1, q_2)), (q_3, .inr (2, [.ref q_4, .int 0])), (q_4, .inl (ca 0, 16, .inl (fun _ => 0))), (q_14, .inl (ca 4, 148, .inr (.inr (.inr (.inr (fun _ => none)))))), (q_65, .inr (4, [.null, .int 0]))] := hD
  refine W.widen (k := 83) (n := 524694) (Nat.le_of_ble_eq_true rfl) (Nat.le_of_ble_eq_true rfl) ?_
  refine lv_iconst (v := 4) hx hb d_MM_init_442 (by decide) ?_
  refine ax_I (k := 1) (As := [.int 4]) (rest := [.ref q_65, .ref h0]) (wr := [(h0, .inr (0, fs_41)), (q_1, .inr (1, q_2)), (q_3, .inr (2, [.ref q_4, .int 0])), (q_4, .inl (ca 0, 16, .inl (fun _ => 0))), (q_14, .inl (ca 4, 148, .inr (.inr (.inr (.inr (fun _ => none))))))]) rfl hx hb hml hown hts g_wm (mK_bl dC dI ca) (c_ML_init l dC dI ca q_65) rfl xm_70 xm_52 xm_5 xm_53 (by decide +kernel) rfl (Nat.le_of_ble_eq_true rfl) (Nat.le_of_ble_eq_true rfl) hl.1 (Nat.le_of_ble_eq_true rfl) (mK_up hK) hP hD hS hA [5] [0, 1, 2, 3, 4] rfl (by decide) rfl rfl (by decide) (by decide) (Nat.le_of_ble_eq_true rfl) (Nat.le_of_ble_eq_true rfl) d_MM_init_443 ?_
  clear hP hD hS
  intro v q_66 H locs hp hP hD hS
  obtain rfl : v = none := hp
  replace hP : va_P (dC, dI) classes [(h0, .inr (0, fs_41)), (q_1, .inr (1, q_2)), (q_3, .inr (2, [.ref q_4, .int 0])), (q_4, .inl (ca 0, 16, .inl (fun _ => 0))), (q_14, .inl (ca 4, 148, .inr (.inr (.inr (.inr (fun _ => none)))))), (q_65, .inr (4, [.ref q_66, .int 0])), (q_66, .inl (ca 2, 4, .inr (.inl (fun _ => 0))))] H := hP
  replace hD : va_D A [(h0, .inr (0, fs_41)), (q_1, .inr (1, q_2)), (q_3, .inr (2, [.ref q_4, .int 0])), (q_4, .inl (ca 0, 16, .inl (fun _ => 0))), (q_14, .inl (ca 4, 148, .inr (.inr (.inr (.inr (fun _ => none)))))), (q_65, .inr (4, [.ref q_66, .int 0])), (q_66, .inl (ca 2, 4, .inr (.inl (fun _ => 0))))] := hD
  refine W.eq (g2 := F0 m 446 ls [.ref q_65, .ref h0]) rfl ?_
  refine W.widen (k := 84) (n := 524698) (Nat.le_of_ble_eq_true rfl) (Nat.le_of_ble_eq_true rfl) ?_
  replace hP := hP.sub (ws' := [(h0, .inr (0, fs_41)), (q_1, .inr (1, q_2)), (q_3, .inr (2, [.ref q_4, .int 0])), (q_4, .inl (ca 0, 16, .inl (fun _ => 0))), (q_14, .inl (ca 4, 148, .inr (.inr (.inr (.inr (fun _ => none))))))]) [0, 1, 2, 3, 4] rfl
  replace hD := hD.sub (ws' := [(h0, .inr (0, fs_41)), (q_1, .inr (1, q_2)), (q_3, .inr (2, [.ref q_4, .int 0])), (q_4, .inl (ca 0, 16, .inl (fun _ => 0))), (q_14, .inl (ca 4, 148, .inr (.inr (.inr (.inr (fun _ => none))))))]) [0, 1, 2, 3, 4] (by decide) rfl
  refine m_put M (fs := fs_41) (wt := [(q_1, .inr (1, q_2)), (q_3, .inr (2, [.ref q_4, .int 0])), (q_4, .inl (ca 0, 16, .inl (fun _ => 0))), (q_14, .inl (ca 4, 148, .inr (.inr (.inr (.inr (fun _ => none))))))]) (k := 53) (ty := .object "SourceBackModel$Longs") hP hD hS hlen (by decide) xm_122 rfl rfl (by decide +kernel) rfl rfl d_MM_init_446 ?_
  clear hP hD hS hlen
  intro H locs hlen hP hD hS
  obtain ⟨fs_42, e_42⟩ : ∃ z, z = fs_41.set 53 (.ref q_65) := ⟨_, rfl⟩
  rw [← e_42] at hP hD hlen
  replace hP : va_P (dC, dI) classes [(h0, .inr (0, fs_42)), (q_1, .inr (1, q_2)), (q_3, .inr (2, [.ref q_4, .int 0])), (q_4, .inl (ca 0, 16, .inl (fun _ => 0))), (q_14, .inl (ca 4, 148, .inr (.inr (.inr (.inr (fun _ => none))))))] H := hP
  replace hD : va_D A [(h0, .inr (0, fs_42)), (q_1, .inr (1, q_2)), (q_3, .inr (2, [.ref q_4, .int 0])), (q_4, .inl (ca 0, 16, .inl (fun _ => 0))), (q_14, .inl (ca 4, 148, .inr (.inr (.inr (.inr (fun _ => none))))))] := hD
  refine lv_aload_n hx hb d_MM_init_449 rfl (lv_at hl 0 rfl) ?_
  refine m_new M (wt := [(q_1, .inr (1, q_2)), (q_3, .inr (2, [.ref q_4, .int 0])), (q_4, .inl (ca 0, 16, .inl (fun _ => 0))), (q_14, .inl (ca 4, 148, .inr (.inr (.inr (.inr (fun _ => none))))))]) (ci := 3) (C := R_MI) (T := F_MI) (N := 2) (f0 := [.null, .int 0]) hP hD hS i_MI t_MI_ok xm_32 xm_33 xm_3 rfl (by decide +kernel) (Nat.le_of_ble_eq_true rfl) (Nat.le_of_ble_eq_true rfl) d_MM_init_450 d_MM_init_453 ?_
  clear hP hD hS
  intro q_67 H hP hD hS
  replace hP : va_P (dC, dI) classes [(h0, .inr (0, fs_42)), (q_1, .inr (1, q_2)), (q_3, .inr (2, [.ref q_4, .int 0])), (q_4, .inl (ca 0, 16, .inl (fun _ => 0))), (q_14, .inl (ca 4, 148, .inr (.inr (.inr (.inr (fun _ => none)))))), (q_67, .inr (3, [.null, .int 0]))] H := hP
  replace hD : va_D A [(h0, .inr (0, fs_42)), (q_1, .inr (1, q_2)), (q_3, .inr (2, [.ref q_4, .int 0])), (q_4, .inl (ca 0, 16, .inl (fun _ => 0))), (q_14, .inl (ca 4, 148, .inr (.inr (.inr (.inr (fun _ => none)))))), (q_67, .inr (3, [.null, .int 0]))] := hD
  refine W.widen (k := 85) (n := 524700) (Nat.le_of_ble_eq_true rfl) (Nat.le_of_ble_eq_true rfl) ?_
  refine lv_iconst (v := 4) hx hb d_MM_init_454 (by decide) ?_
  refine ax_I (k := 1) (As := [.int 4]) (rest := [.ref q_67, .ref h0]) (wr := [(h0, .inr (0, fs_42)), (q_1, .inr (1, q_2)), (q_3, .inr (2, [.ref q_4, .int 0])), (q_4, .inl (ca 0, 16, .inl (fun _ => 0))), (q_14, .inl (ca 4, 148, .inr (.inr (.inr (.inr (fun _ => none))))))]) rfl hx hb hml hown hts g_wm (mK_bl dC dI ca) (c_MI_init l dC dI ca q_67) rfl xm_34 xm_35 xm_3 xm_36 (by decide +kernel) rfl (Nat.le_of_ble_eq_true rfl) (Nat.le_of_ble_eq_true rfl) hl.1 (Nat.le_of_ble_eq_true rfl) (mK_up hK) hP hD hS hA [5] [0, 1, 2, 3, 4] rfl (by decide) rfl rfl (by decide) (by decide) (Nat.le_of_ble_eq_true rfl) (Nat.le_of_ble_eq_true rfl) d_MM_init_455 ?_
  clear hP hD hS
  intro v q_68 H locs hp hP hD hS
  obtain rfl : v = none := hp
  replace hP : va_P (dC, dI) classes [(h0, .inr (0, fs_42)), (q_1, .inr (1, q_2)), (q_3, .inr (2, [.ref q_4, .int 0])), (q_4, .inl (ca 0, 16, .inl (fun _ => 0))), (q_14, .inl (ca 4, 148, .inr (.inr (.inr (.inr (fun _ => none)))))), (q_67, .inr (3, [.ref q_68, .int 0])), (q_68, .inl (ca 1, 4, .inl (fun _ => 0)))] H := hP
  replace hD : va_D A [(h0, .inr (0, fs_42)), (q_1, .inr (1, q_2)), (q_3, .inr (2, [.ref q_4, .int 0])), (q_4, .inl (ca 0, 16, .inl (fun _ => 0))), (q_14, .inl (ca 4, 148, .inr (.inr (.inr (.inr (fun _ => none)))))), (q_67, .inr (3, [.ref q_68, .int 0])), (q_68, .inl (ca 1, 4, .inl (fun _ => 0)))] := hD
  refine W.eq (g2 := F0 m 458 ls [.ref q_67, .ref h0]) rfl ?_
  refine W.widen (k := 86) (n := 524704) (Nat.le_of_ble_eq_true rfl) (Nat.le_of_ble_eq_true rfl) ?_
  replace hP := hP.sub (ws' := [(h0, .inr (0, fs_42)), (q_1, .inr (1, q_2)), (q_3, .inr (2, [.ref q_4, .int 0])), (q_4, .inl (ca 0, 16, .inl (fun _ => 0))), (q_14, .inl (ca 4, 148, .inr (.inr (.inr (.inr (fun _ => none))))))]) [0, 1, 2, 3, 4] rfl
  replace hD := hD.sub (ws' := [(h0, .inr (0, fs_42)), (q_1, .inr (1, q_2)), (q_3, .inr (2, [.ref q_4, .int 0])), (q_4, .inl (ca 0, 16, .inl (fun _ => 0))), (q_14, .inl (ca 4, 148, .inr (.inr (.inr (.inr (fun _ => none))))))]) [0, 1, 2, 3, 4] (by decide) rfl
  refine m_put M (fs := fs_42) (wt := [(q_1, .inr (1, q_2)), (q_3, .inr (2, [.ref q_4, .int 0])), (q_4, .inl (ca 0, 16, .inl (fun _ => 0))), (q_14, .inl (ca 4, 148, .inr (.inr (.inr (.inr (fun _ => none))))))]) (k := 54) (ty := .object "SourceBackModel$Ints") hP hD hS hlen (by decide) xm_123 rfl rfl (by decide +kernel) rfl rfl d_MM_init_458 ?_
  clear hP hD hS hlen
  intro H locs hlen hP hD hS
  obtain ⟨fs_43, e_43⟩ : ∃ z, z = fs_42.set 54 (.ref q_67) := ⟨_, rfl⟩
  rw [← e_43] at hP hD hlen
  replace hP : va_P (dC, dI) classes [(h0, .inr (0, fs_43)), (q_1, .inr (1, q_2)), (q_3, .inr (2, [.ref q_4, .int 0])), (q_4, .inl (ca 0, 16, .inl (fun _ => 0))), (q_14, .inl (ca 4, 148, .inr (.inr (.inr (.inr (fun _ => none))))))] H := hP
  replace hD : va_D A [(h0, .inr (0, fs_43)), (q_1, .inr (1, q_2)), (q_3, .inr (2, [.ref q_4, .int 0])), (q_4, .inl (ca 0, 16, .inl (fun _ => 0))), (q_14, .inl (ca 4, 148, .inr (.inr (.inr (.inr (fun _ => none))))))] := hD
  refine lv_aload_n hx hb d_MM_init_461 rfl (lv_at hl 0 rfl) ?_
  refine m_new M (wt := [(q_1, .inr (1, q_2)), (q_3, .inr (2, [.ref q_4, .int 0])), (q_4, .inl (ca 0, 16, .inl (fun _ => 0))), (q_14, .inl (ca 4, 148, .inr (.inr (.inr (.inr (fun _ => none))))))]) (ci := 3) (C := R_MI) (T := F_MI) (N := 2) (f0 := [.null, .int 0]) hP hD hS i_MI t_MI_ok xm_32 xm_33 xm_3 rfl (by decide +kernel) (Nat.le_of_ble_eq_true rfl) (Nat.le_of_ble_eq_true rfl) d_MM_init_462 d_MM_init_465 ?_
  clear hP hD hS
  intro q_69 H hP hD hS
  replace hP : va_P (dC, dI) classes [(h0, .inr (0, fs_43)), (q_1, .inr (1, q_2)), (q_3, .inr (2, [.ref q_4, .int 0])), (q_4, .inl (ca 0, 16, .inl (fun _ => 0))), (q_14, .inl (ca 4, 148, .inr (.inr (.inr (.inr (fun _ => none)))))), (q_69, .inr (3, [.null, .int 0]))] H := hP
  replace hD : va_D A [(h0, .inr (0, fs_43)), (q_1, .inr (1, q_2)), (q_3, .inr (2, [.ref q_4, .int 0])), (q_4, .inl (ca 0, 16, .inl (fun _ => 0))), (q_14, .inl (ca 4, 148, .inr (.inr (.inr (.inr (fun _ => none)))))), (q_69, .inr (3, [.null, .int 0]))] := hD
  refine W.widen (k := 87) (n := 524706) (Nat.le_of_ble_eq_true rfl) (Nat.le_of_ble_eq_true rfl) ?_
  refine lv_iconst (v := 4) hx hb d_MM_init_466 (by decide) ?_
  refine ax_I (k := 1) (As := [.int 4]) (rest := [.ref q_69, .ref h0]) (wr := [(h0, .inr (0, fs_43)), (q_1, .inr (1, q_2)), (q_3, .inr (2, [.ref q_4, .int 0])), (q_4, .inl (ca 0, 16, .inl (fun _ => 0))), (q_14, .inl (ca 4, 148, .inr (.inr (.inr (.inr (fun _ => none))))))]) rfl hx hb hml hown hts g_wm (mK_bl dC dI ca) (c_MI_init l dC dI ca q_69) rfl xm_34 xm_35 xm_3 xm_36 (by decide +kernel) rfl (Nat.le_of_ble_eq_true rfl) (Nat.le_of_ble_eq_true rfl) hl.1 (Nat.le_of_ble_eq_true rfl) (mK_up hK) hP hD hS hA [5] [0, 1, 2, 3, 4] rfl (by decide) rfl rfl (by decide) (by decide) (Nat.le_of_ble_eq_true rfl) (Nat.le_of_ble_eq_true rfl) d_MM_init_467 ?_
  clear hP hD hS
  intro v q_70 H locs hp hP hD hS
  obtain rfl : v = none := hp
  replace hP : va_P (dC, dI) classes [(h0, .inr (0, fs_43)), (q_1, .inr (1, q_2)), (q_3, .inr (2, [.ref q_4, .int 0])), (q_4, .inl (ca 0, 16, .inl (fun _ => 0))), (q_14, .inl (ca 4, 148, .inr (.inr (.inr (.inr (fun _ => none)))))), (q_69, .inr (3, [.ref q_70, .int 0])), (q_70, .inl (ca 1, 4, .inl (fun _ => 0)))] H := hP
  replace hD : va_D A [(h0, .inr (0, fs_43)), (q_1, .inr (1, q_2)), (q_3, .inr (2, [.ref q_4, .int 0])), (q_4, .inl (ca 0, 16, .inl (fun _ => 0))), (q_14, .inl (ca 4, 148, .inr (.inr (.inr (.inr (fun _ => none)))))), (q_69, .inr (3, [.ref q_70, .int 0])), (q_70, .inl (ca 1, 4, .inl (fun _ => 0)))] := hD
  refine W.eq (g2 := F0 m 470 ls [.ref q_69, .ref h0]) rfl ?_
  refine W.widen (k := 88) (n := 524710) (Nat.le_of_ble_eq_true rfl) (Nat.le_of_ble_eq_true rfl) ?_
  replace hP := hP.sub (ws' := [(h0, .inr (0, fs_43)), (q_1, .inr (1, q_2)), (q_3, .inr (2, [.ref q_4, .int 0])), (q_4, .inl (ca 0, 16, .inl (fun _ => 0))), (q_14, .inl (ca 4, 148, .inr (.inr (.inr (.inr (fun _ => none))))))]) [0, 1, 2, 3, 4] rfl
  replace hD := hD.sub (ws' := [(h0, .inr (0, fs_43)), (q_1, .inr (1, q_2)), (q_3, .inr (2, [.ref q_4, .int 0])), (q_4, .inl (ca 0, 16, .inl (fun _ => 0))), (q_14, .inl (ca 4, 148, .inr (.inr (.inr (.inr (fun _ => none))))))]) [0, 1, 2, 3, 4] (by decide) rfl
  refine m_put M (fs := fs_43) (wt := [(q_1, .inr (1, q_2)), (q_3, .inr (2, [.ref q_4, .int 0])), (q_4, .inl (ca 0, 16, .inl (fun _ => 0))), (q_14, .inl (ca 4, 148, .inr (.inr (.inr (.inr (fun _ => none))))))]) (k := 55) (ty := .object "SourceBackModel$Ints") hP hD hS hlen (by decide) xm_124 rfl rfl (by decide +kernel) rfl rfl d_MM_init_470 ?_
  clear hP hD hS hlen
  intro H locs hlen hP hD hS
  obtain ⟨fs_44, e_44⟩ : ∃ z, z = fs_43.set 55 (.ref q_69) := ⟨_, rfl⟩
  rw [← e_44] at hP hD hlen
  replace hP : va_P (dC, dI) classes [(h0, .inr (0, fs_44)), (q_1, .inr (1, q_2)), (q_3, .inr (2, [.ref q_4, .int 0])), (q_4, .inl (ca 0, 16, .inl (fun _ => 0))), (q_14, .inl (ca 4, 148, .inr (.inr (.inr (.inr (fun _ => none))))))] H := hP
  replace hD : va_D A [(h0, .inr (0, fs_44)), (q_1, .inr (1, q_2)), (q_3, .inr (2, [.ref q_4, .int 0])), (q_4, .inl (ca 0, 16, .inl (fun _ => 0))), (q_14, .inl (ca 4, 148, .inr (.inr (.inr (.inr (fun _ => none))))))] := hD
  refine lv_aload_n hx hb d_MM_init_473 rfl (lv_at hl 0 rfl) ?_
  refine m_new M (wt := [(q_1, .inr (1, q_2)), (q_3, .inr (2, [.ref q_4, .int 0])), (q_4, .inl (ca 0, 16, .inl (fun _ => 0))), (q_14, .inl (ca 4, 148, .inr (.inr (.inr (.inr (fun _ => none))))))]) (ci := 3) (C := R_MI) (T := F_MI) (N := 2) (f0 := [.null, .int 0]) hP hD hS i_MI t_MI_ok xm_32 xm_33 xm_3 rfl (by decide +kernel) (Nat.le_of_ble_eq_true rfl) (Nat.le_of_ble_eq_true rfl) d_MM_init_474 d_MM_init_477 ?_
  clear hP hD hS
  intro q_71 H hP hD hS
  replace hP : va_P (dC, dI) classes [(h0, .inr (0, fs_44)), (q_1, .inr (1, q_2)), (q_3, .inr (2, [.ref q_4, .int 0])), (q_4, .inl (ca 0, 16, .inl (fun _ => 0))), (q_14, .inl (ca 4, 148, .inr (.inr (.inr (.inr (fun _ => none)))))), (q_71, .inr (3, [.null, .int 0]))] H := hP
  replace hD : va_D A [(h0, .inr (0, fs_44)), (q_1, .inr (1, q_2)), (q_3, .inr (2, [.ref q_4, .int 0])), (q_4, .inl (ca 0, 16, .inl (fun _ => 0))), (q_14, .inl (ca 4, 148, .inr (.inr (.inr (.inr (fun _ => none)))))), (q_71, .inr (3, [.null, .int 0]))] := hD
  refine W.widen (k := 89) (n := 524712) (Nat.le_of_ble_eq_true rfl) (Nat.le_of_ble_eq_true rfl) ?_
  refine lv_iconst (v := 4) hx hb d_MM_init_478 (by decide) ?_
  refine ax_I (k := 1) (As := [.int 4]) (rest := [.ref q_71, .ref h0]) (wr := [(h0, .inr (0, fs_44)), (q_1, .inr (1, q_2)), (q_3, .inr (2, [.ref q_4, .int 0])), (q_4, .inl (ca 0, 16, .inl (fun _ => 0))), (q_14, .inl (ca 4, 148, .inr (.inr (.inr (.inr (fun _ => none))))))]) rfl hx hb hml hown hts g_wm (mK_bl dC dI ca) (c_MI_init l dC dI ca q_71) rfl xm_34 xm_35 xm_3 xm_36 (by decide +kernel) rfl (Nat.le_of_ble_eq_true rfl) (Nat.le_of_ble_eq_true rfl) hl.1 (Nat.le_of_ble_eq_true rfl) (mK_up hK) hP hD hS hA [5] [0, 1, 2, 3, 4] rfl (by decide) rfl rfl (by decide) (by decide) (Nat.le_of_ble_eq_true rfl) (Nat.le_of_ble_eq_true rfl) d_MM_init_479 ?_
  clear hP hD hS
  intro v q_72 H locs hp hP hD hS
  obtain rfl : v = none := hp
  replace hP : va_P (dC, dI) classes [(h0, .inr (0, fs_44)), (q_1, .inr (1, q_2)), (q_3, .inr (2, [.ref q_4, .int 0])), (q_4, .inl (ca 0, 16, .inl (fun _ => 0))), (q_14, .inl (ca 4, 148, .inr (.inr (.inr (.inr (fun _ => none)))))), (q_71, .inr (3, [.ref q_72, .int 0])), (q_72, .inl (ca 1, 4, .inl (fun _ => 0)))] H := hP
  replace hD : va_D A [(h0, .inr (0, fs_44)), (q_1, .inr (1, q_2)), (q_3, .inr (2, [.ref q_4, .int 0])), (q_4, .inl (ca 0, 16, .inl (fun _ => 0))), (q_14, .inl (ca 4, 148, .inr (.inr (.inr (.inr (fun _ => none)))))), (q_71, .inr (3, [.ref q_72, .int 0])), (q_72, .inl (ca 1, 4, .inl (fun _ => 0)))] := hD
  refine W.eq (g2 := F0 m 482 ls [.ref q_71, .ref h0]) rfl ?_
  refine W.widen (k := 90) (n := 524716) (Nat.le_of_ble_eq_true rfl) (Nat.le_of_ble_eq_true rfl) ?_
  replace hP := hP.sub (ws' := [(h0, .inr (0, fs_44)), (q_1, .inr (1, q_2)), (q_3, .inr (2, [.ref q_4, .int 0])), (q_4, .inl (ca 0, 16, .inl (fun _ => 0))), (q_14, .inl (ca 4, 148, .inr (.inr (.inr (.inr (fun _ => none))))))]) [0, 1, 2, 3, 4] rfl
  replace hD := hD.sub (ws' := [(h0, .inr (0, fs_44)), (q_1, .inr (1, q_2)), (q_3, .inr (2, [.ref q_4, .int 0])), (q_4, .inl (ca 0, 16, .inl (fun _ => 0))), (q_14, .inl (ca 4, 148, .inr (.inr (.inr (.inr (fun _ => none))))))]) [0, 1, 2, 3, 4] (by decide) rfl
  refine m_put M (fs := fs_44) (wt := [(q_1, .inr (1, q_2)), (q_3, .inr (2, [.ref q_4, .int 0])), (q_4, .inl (ca 0, 16, .inl (fun _ => 0))), (q_14, .inl (ca 4, 148, .inr (.inr (.inr (.inr (fun _ => none))))))]) (k := 56) (ty := .object "SourceBackModel$Ints") hP hD hS hlen (by decide) xm_125 rfl rfl (by decide +kernel) rfl rfl d_MM_init_482 ?_
  clear hP hD hS hlen
  intro H locs hlen hP hD hS
  obtain ⟨fs_45, e_45⟩ : ∃ z, z = fs_44.set 56 (.ref q_71) := ⟨_, rfl⟩
  rw [← e_45] at hP hD hlen
  replace hP : va_P (dC, dI) classes [(h0, .inr (0, fs_45)), (q_1, .inr (1, q_2)), (q_3, .inr (2, [.ref q_4, .int 0])), (q_4, .inl (ca 0, 16, .inl (fun _ => 0))), (q_14, .inl (ca 4, 148, .inr (.inr (.inr (.inr (fun _ => none))))))] H := hP
  replace hD : va_D A [(h0, .inr (0, fs_45)), (q_1, .inr (1, q_2)), (q_3, .inr (2, [.ref q_4, .int 0])), (q_4, .inl (ca 0, 16, .inl (fun _ => 0))), (q_14, .inl (ca 4, 148, .inr (.inr (.inr (.inr (fun _ => none))))))] := hD
  refine lv_aload_n hx hb d_MM_init_485 rfl (lv_at hl 0 rfl) ?_
  refine m_new M (wt := [(q_1, .inr (1, q_2)), (q_3, .inr (2, [.ref q_4, .int 0])), (q_4, .inl (ca 0, 16, .inl (fun _ => 0))), (q_14, .inl (ca 4, 148, .inr (.inr (.inr (.inr (fun _ => none))))))]) (ci := 3) (C := R_MI) (T := F_MI) (N := 2) (f0 := [.null, .int 0]) hP hD hS i_MI t_MI_ok xm_32 xm_33 xm_3 rfl (by decide +kernel) (Nat.le_of_ble_eq_true rfl) (Nat.le_of_ble_eq_true rfl) d_MM_init_486 d_MM_init_489 ?_
  clear hP hD hS
  intro q_73 H hP hD hS
  replace hP : va_P (dC, dI) classes [(h0, .inr (0, fs_45)), (q_1, .inr (1, q_2)), (q_3, .inr (2, [.ref q_4, .int 0])), (q_4, .inl (ca 0, 16, .inl (fun _ => 0))), (q_14, .inl (ca 4, 148, .inr (.inr (.inr (.inr (fun _ => none)))))), (q_73, .inr (3, [.null, .int 0]))] H := hP
  replace hD : va_D A [(h0, .inr (0, fs_45)), (q_1, .inr (1, q_2)), (q_3, .inr (2, [.ref q_4, .int 0])), (q_4, .inl (ca 0, 16, .inl (fun _ => 0))), (q_14, .inl (ca 4, 148, .inr (.inr (.inr (.inr (fun _ => none)))))), (q_73, .inr (3, [.null, .int 0]))] := hD
  refine W.widen (k := 91) (n := 524718) (Nat.le_of_ble_eq_true rfl) (Nat.le_of_ble_eq_true rfl) ?_
  refine lv_iconst (v := 4) hx hb d_MM_init_490 (by decide) ?_
  refine ax_I (k := 1) (As := [.int 4]) (rest := [.ref q_73, .ref h0]) (wr := [(h0, .inr (0, fs_45)), (q_1, .inr (1, q_2)), (q_3, .inr (2, [.ref q_4, .int 0])), (q_4, .inl (ca 0, 16, .inl (fun _ => 0))), (q_14, .inl (ca 4, 148, .inr (.inr (.inr (.inr (fun _ => none))))))]) rfl hx hb hml hown hts g_wm (mK_bl dC dI ca) (c_MI_init l dC dI ca q_73) rfl xm_34 xm_35 xm_3 xm_36 (by decide +kernel) rfl (Nat.le_of_ble_eq_true rfl) (Nat.le_of_ble_eq_true rfl) hl.1 (Nat.le_of_ble_eq_true rfl) (mK_up hK) hP hD hS hA [5] [0, 1, 2, 3, 4] rfl (by decide) rfl rfl (by decide) (by decide) (Nat.le_of_ble_eq_true rfl) (Nat.le_of_ble_eq_true rfl) d_MM_init_491 ?_
  clear hP hD hS
  intro v q_74 H locs hp hP hD hS
  obtain rfl : v = none := hp
  replace hP : va_P (dC, dI) classes [(h0, .inr (0, fs_45)), (q_1, .inr (1, q_2)), (q_3, .inr (2, [.ref q_4, .int 0])), (q_4, .inl (ca 0, 16, .inl (fun _ => 0))), (q_14, .inl (ca 4, 148, .inr (.inr (.inr (.inr (fun _ => none)))))), (q_73, .inr (3, [.ref q_74, .int 0])), (q_74, .inl (ca 1, 4, .inl (fun _ => 0)))] H := hP
  replace hD : va_D A [(h0, .inr (0, fs_45)), (q_1, .inr (1, q_2)), (q_3, .inr (2, [.ref q_4, .int 0])), (q_4, .inl (ca 0, 16, .inl (fun _ => 0))), (q_14, .inl (ca 4, 148, .inr (.inr (.inr (.inr (fun _ => none)))))), (q_73, .inr (3, [.ref q_74, .int 0])), (q_74, .inl (ca 1, 4, .inl (fun _ => 0)))] := hD
  refine W.eq (g2 := F0 m 494 ls [.ref q_73, .ref h0]) rfl ?_
  refine W.widen (k := 92) (n := 524722) (Nat.le_of_ble_eq_true rfl) (Nat.le_of_ble_eq_true rfl) ?_
  replace hP := hP.sub (ws' := [(h0, .inr (0, fs_45)), (q_1, .inr (1, q_2)), (q_3, .inr (2, [.ref q_4, .int 0])), (q_4, .inl (ca 0, 16, .inl (fun _ => 0))), (q_14, .inl (ca 4, 148, .inr (.inr (.inr (.inr (fun _ => none))))))]) [0, 1, 2, 3, 4] rfl
  replace hD := hD.sub (ws' := [(h0, .inr (0, fs_45)), (q_1, .inr (1, q_2)), (q_3, .inr (2, [.ref q_4, .int 0])), (q_4, .inl (ca 0, 16, .inl (fun _ => 0))), (q_14, .inl (ca 4, 148, .inr (.inr (.inr (.inr (fun _ => none))))))]) [0, 1, 2, 3, 4] (by decide) rfl
  refine m_put M (fs := fs_45) (wt := [(q_1, .inr (1, q_2)), (q_3, .inr (2, [.ref q_4, .int 0])), (q_4, .inl (ca 0, 16, .inl (fun _ => 0))), (q_14, .inl (ca 4, 148, .inr (.inr (.inr (.inr (fun _ => none))))))]) (k := 57) (ty := .object "SourceBackModel$Ints") hP hD hS hlen (by decide) xm_126 rfl rfl (by decide +kernel) rfl rfl d_MM_init_494 ?_
  clear hP hD hS hlen
  intro H locs hlen hP hD hS
  obtain ⟨fs_46, e_46⟩ : ∃ z, z = fs_45.set 57 (.ref q_73) := ⟨_, rfl⟩
  rw [← e_46] at hP hD hlen
  replace hP : va_P (dC, dI) classes [(h0, .inr (0, fs_46)), (q_1, .inr (1, q_2)), (q_3, .inr (2, [.ref q_4, .int 0])), (q_4, .inl (ca 0, 16, .inl (fun _ => 0))), (q_14, .inl (ca 4, 148, .inr (.inr (.inr (.inr (fun _ => none))))))] H := hP
  replace hD : va_D A [(h0, .inr (0, fs_46)), (q_1, .inr (1, q_2)), (q_3, .inr (2, [.ref q_4, .int 0])), (q_4, .inl (ca 0, 16, .inl (fun _ => 0))), (q_14, .inl (ca 4, 148, .inr (.inr (.inr (.inr (fun _ => none))))))] := hD
  refine lv_aload_n hx hb d_MM_init_497 rfl (lv_at hl 0 rfl) ?_
  refine m_new M (wt := [(q_1, .inr (1, q_2)), (q_3, .inr (2, [.ref q_4, .int 0])), (q_4, .inl (ca 0, 16, .inl (fun _ => 0))), (q_14, .inl (ca 4, 148, .inr (.inr (.inr (.inr (fun _ => none))))))]) (ci := 3) (C := R_MI) (T := F_MI) (N := 2) (f0 := [.null, .int 0]) hP hD hS i_MI t_MI_ok xm_32 xm_33 xm_3 rfl (by decide +kernel) (Nat.le_of_ble_eq_true rfl) (Nat.le_of_ble_eq_true rfl) d_MM_init_498 d_MM_init_501 ?_
  clear hP hD hS
  intro q_75 H hP hD hS
  replace hP : va_P (dC, dI) classes [(h0, .inr (0, fs_46)), (q_1, .inr (1, q_2)), (q_3, .inr (2, [.ref q_4, .int 0])), (q_4, .inl (ca 0, 16, .inl (fun _ => 0))), (q_14, .inl (ca 4, 148, .inr (.inr (.inr (.inr (fun _ => none)))))), (q_75, .inr (3, [.null, .int 0]))] H := hP
  replace hD : va_D A [(h0, .inr (0, fs_46)), (q_1, .inr (1, q_2)), (q_3, .inr (2, [.ref q_4, .int 0])), (q_4, .inl (ca 0, 16, .inl (fun _ => 0))), (q_14, .inl (ca 4, 148, .inr (.inr (.inr (.inr (fun _ => none)))))), (q_75, .inr (3, [.null, .int 0]))] := hD
  refine W.widen (k := 93) (n := 524724) (Nat.le_of_ble_eq_true rfl) (Nat.le_of_ble_eq_true rfl) ?_
  refine lv_iconst (v := 4) hx hb d_MM_init_502 (by decide) ?_
  refine ax_I (k := 1) (As := [.int 4]) (rest := [.ref q_75, .ref h0]) (wr := [(h0, .inr (0, fs_46)), (q_1, .inr (1, q_2)), (q_3, .inr (2, [.ref q_4, .int 0])), (q_4, .inl (ca 0, 16, .inl (fun _ => 0))), (q_14, .inl (ca 4, 148, .inr (.inr (.inr (.inr (fun _ => none))))))]) rfl hx hb hml hown hts g_wm (mK_bl dC dI ca) (c_MI_init l dC dI ca q_75) rfl xm_34 xm_35 xm_3 xm_36 (by decide +kernel) rfl (Nat.le_of_ble_eq_true rfl) (Nat.le_of_ble_eq_true rfl) hl.1 (Nat.le_of_ble_eq_true rfl) (mK_up hK) hP hD hS hA [5] [0, 1, 2, 3, 4] rfl (by decide) rfl rfl (by decide) (by decide) (Nat.le_of_ble_eq_true rfl) (Nat.le_of_ble_eq_true rfl) d_MM_init_503 ?_
  clear hP hD hS
  intro v q_76 H locs hp hP hD hS
  obtain rfl : v = none := hp
  replace hP : va_P (dC, dI) classes [(h0, .inr (0, fs_46)), (q_1, .inr (1, q_2)), (q_3, .inr (2, [.ref q_4, .int 0])), (q_4, .inl (ca 0, 16, .inl (fun _ => 0))), (q_14, .inl (ca 4, 148, .inr (.inr (.inr (.inr (fun _ => none)))))), (q_75, .inr (3, [.ref q_76, .int 0])), (q_76, .inl (ca 1, 4, .inl (fun _ => 0)))] H := hP
  replace hD : va_D A [(h0, .inr (0, fs_46)), (q_1, .inr (1, q_2)), (q_3, .inr (2, [.ref q_4, .int 0])), (q_4, .inl (ca 0, 16, .inl (fun _ => 0))), (q_14, .inl (ca 4, 148, .inr (.inr (.inr (.inr (fun _ => none)))))), (q_75, .inr (3, [.ref q_76, .int 0])), (q_76, .inl (ca 1, 4, .inl (fun _ => 0)))] := hD
  refine W.eq (g2 := F0 m 506 ls [.ref q_75, .ref h0]) rfl ?_
  refine W.widen (k := 94) (n := 524728) (Nat.le_of_ble_eq_true rfl) (Nat.le_of_ble_eq_true rfl) ?_
  replace hP := hP.sub (ws' := [(h0, .inr (0, fs_46)), (q_1, .inr (1, q_2)), (q_3, .inr (2, [.ref q_4, .int 0])), (q_4, .inl (ca 0, 16, .inl (fun _ => 0))), (q_14, .inl (ca 4, 148, .inr (.inr (.inr (.inr (fun _ => none))))))]) [0, 1, 2, 3, 4] rfl
  replace hD := hD.sub (ws' := [(h0, .inr (0, fs_46)), (q_1, .inr (1, q_2)), (q_3, .inr (2, [.ref q_4, .int 0])), (q_4, .inl (ca 0, 16, .inl (fun _ => 0))), (q_14, .inl (ca 4, 148, .inr (.inr (.inr (.inr (fun _ => none))))))]) [0, 1, 2, 3, 4] (by decide) rfl
  refine m_put M (fs := fs_46) (wt := [(q_1, .inr (1, q_2)), (q_3, .inr (2, [.ref q_4, .int 0])), (q_4, .inl (ca 0, 16, .inl (fun _ => 0))), (q_14, .inl (ca 4, 148, .inr (.inr (.inr (.inr (fun _ => none))))))]) (k := 58) (ty := .object "SourceBackModel$Ints") hP hD hS hlen (by decide) xm_127 rfl rfl (by decide +kernel) rfl rfl d_MM_init_506 ?_
  clear hP hD hS hlen
  intro H locs hlen hP hD hS
  obtain ⟨fs_47, e_47⟩ : ∃ z, z = fs_46.set 58 (.ref q_75) := ⟨_, rfl⟩
  rw [← e_47] at hP hD hlen
  replace hP : va_P (dC, dI) classes [(h0, .inr (0, fs_47)), (q_1, .inr (1, q_2)), (q_3, .inr (2, [.ref q_4, .int 0])), (q_4, .inl (ca 0, 16, .inl (fun _ => 0))), (q_14, .inl (ca 4, 148, .inr (.inr (.inr (.inr (fun _ => none))))))] H := hP
  replace hD : va_D A [(h0, .inr (0, fs_47)), (q_1, .inr (1, q_2)), (q_3, .inr (2, [.ref q_4, .int 0])), (q_4, .inl (ca 0, 16, .inl (fun _ => 0))), (q_14, .inl (ca 4, 148, .inr (.inr (.inr (.inr (fun _ => none))))))] := hD
  refine lv_aload_n hx hb d_MM_init_509 rfl (lv_at hl 0 rfl) ?_
  refine m_new M (wt := [(q_1, .inr (1, q_2)), (q_3, .inr (2, [.ref q_4, .int 0])), (q_4, .inl (ca 0, 16, .inl (fun _ => 0))), (q_14, .inl (ca 4, 148, .inr (.inr (.inr (.inr (fun _ => none))))))]) (ci := 3) (C := R_MI) (T := F_MI) (N := 2) (f0 := [.null, .int 0]) hP hD hS i_MI t_MI_ok xm_32 xm_33 xm_3 rfl (by decide +kernel) (Nat.le_of_ble_eq_true rfl) (Nat.le_of_ble_eq_true rfl) d_MM_init_510 d_MM_init_513 ?_
  clear hP hD hS
  intro q_77 H hP hD hS
  replace hP : va_P (dC, dI) classes [(h0, .inr (0, fs_47)), (q_1, .inr (1, q_2)), (q_3, .inr (2, [.ref q_4, .int 0])), (q_4, .inl (ca 0, 16, .inl (fun _ => 0))), (q_14, .inl (ca 4, 148, .inr (.inr (.inr (.inr (fun _ => none)))))), (q_77, .inr (3, [.null, .int 0]))] H := hP
  replace hD : va_D A [(h0, .inr (0, fs_47)), (q_1, .inr (1, q_2)), (q_3, .inr (2, [.ref q_4, .int 0])), (q_4, .inl (ca 0, 16, .inl (fun _ => 0))), (q_14, .inl (ca 4, 148, .inr (.inr (.inr (.inr (fun _ => none)))))), (q_77, .inr (3, [.null, .int 0]))] := hD
  refine W.widen (k := 95) (n := 524730) (Nat.le_of_ble_eq_true rfl) (Nat.le_of_ble_eq_true rfl) ?_
  refine lv_iconst (v := 4) hx hb d_MM_init_514 (by decide) ?_
  refine ax_I (k := 1) (As := [.int 4]) (rest := [.ref q_77, .ref h0]) (wr := [(h0, .inr (0, fs_47)), (q_1, .inr (1, q_2)), (q_3, .inr (2, [.ref q_4, .int 0])), (q_4, .inl (ca 0, 16, .inl (fun _ => 0))), (q_14, .inl (ca 4, 148, .inr (.inr (.inr (.inr (fun _ => none))))))]) rfl hx hb hml hown hts g_wm (mK_bl dC dI ca) (c_MI_init l dC dI ca q_77) rfl xm_34 xm_35 xm_3 xm_36 (by decide +kernel) rfl (Nat.le_of_ble_eq_true rfl) (Nat.le_of_ble_eq_true rfl) hl.1 (Nat.le_of_ble_eq_true rfl) (mK_up hK) hP hD hS hA [5] [0, 1, 2, 3, 4] rfl (by decide) rfl rfl (by decide) (by decide) (Nat.le_of_ble_eq_true rfl) (Nat.le_of_ble_eq_true rfl) d_MM_init_515 ?_
  clear hP hD hS
  intro v q_78 H locs hp hP hD hS
  obtain rfl : v = none := hp
  replace hP : va_P (dC, dI) classes [(h0, .inr (0, fs_47)), (q_1, .inr (1, q_2)), (q_3, .inr (2, [.ref q_4, .int 0])), (q_4, .inl (ca 0, 16, .inl (fun _ => 0))), (q_14, .inl (ca 4, 148, .inr (.inr (.inr (.inr (fun _ => none)))))), (q_77, .inr (3, [.ref q_78, .int 0])), (q_78, .inl (ca 1, 4, .inl (fun _ => 0)))] H := hP
  replace hD : va_D A [(h0, .inr (0, fs_47)), (q_1, .inr (1, q_2)), (q_3, .inr (2, [.ref q_4, .int 0])), (q_4, .inl (ca 0, 16, .inl (fun _ => 0))), (q_14, .inl (ca 4, 148, .inr (.inr (.inr (.inr (fun _ => none)))))), (q_77, .inr (3, [.ref q_78, .int 0])), (q_78, .inl (ca 1, 4, .inl (fun _ => 0)))] := hD
  refine W.eq (g2 := F0 m 518 ls [.ref q_77, .ref h0]) rfl ?_
  refine W.widen (k := 96) (n := 524734) (Nat.le_of_ble_eq_true rfl) (Nat.le_of_ble_eq_true rfl) ?_
  replace hP := hP.sub (ws' := [(h0, .inr (0, fs_47)), (q_1, .inr (1, q_2)), (q_3, .inr (2, [.ref q_4, .int 0])), (q_4, .inl (ca 0, 16, .inl (fun _ => 0))), (q_14, .inl (ca 4, 148, .inr (.inr (.inr (.inr (fun _ => none))))))]) [0, 1, 2, 3, 4] rfl
  replace hD := hD.sub (ws' := [(h0, .inr (0, fs_47)), (q_1, .inr (1, q_2)), (q_3, .inr (2, [.ref q_4, .int 0])), (q_4, .inl (ca 0, 16, .inl (fun _ => 0))), (q_14, .inl (ca 4, 148, .inr (.inr (.inr (.inr (fun _ => none))))))]) [0, 1, 2, 3, 4] (by decide) rfl
  refine m_put M (fs := fs_47) (wt := [(q_1, .inr (1, q_2)), (q_3, .inr (2, [.ref q_4, .int 0])), (q_4, .inl (ca 0, 16, .inl (fun _ => 0))), (q_14, .inl (ca 4, 148, .inr (.inr (.inr (.inr (fun _ => none))))))]) (k := 59) (ty := .object "SourceBackModel$Ints") hP hD hS hlen (by decide) xm_128 rfl rfl (by decide +kernel) rfl rfl d_MM_init_518 ?_
  clear hP hD hS hlen
  intro H locs hlen hP hD hS
  obtain ⟨fs_48, e_48⟩ : ∃ z, z = fs_47.set 59 (.ref q_77) := ⟨_, rfl⟩
  rw [← e_48] at hP hD hlen
  replace hP : va_P (dC, dI) classes [(h0, .inr (0, fs_48)), (q_1, .inr (1, q_2)), (q_3, .inr (2, [.ref q_4, .int 0])), (q_4, .inl (ca 0, 16, .inl (fun _ => 0))), (q_14, .inl (ca 4, 148, .inr (.inr (.inr (.inr (fun _ => none))))))] H := hP
  replace hD : va_D A [(h0, .inr (0, fs_48)), (q_1, .inr (1, q_2)), (q_3, .inr (2, [.ref q_4, .int 0])), (q_4, .inl (ca 0, 16, .inl (fun _ => 0))), (q_14, .inl (ca 4, 148, .inr (.inr (.inr (.inr (fun _ => none))))))] := hD
  refine lv_aload_n hx hb d_MM_init_521 rfl (lv_at hl 0 rfl) ?_
  refine m_new M (wt := [(q_1, .inr (1, q_2)), (q_3, .inr (2, [.ref q_4, .int 0])), (q_4, .inl (ca 0, 16, .inl (fun _ => 0))), (q_14, .inl (ca 4, 148, .inr (.inr (.inr (.inr (fun _ => none))))))]) (ci := 3) (C := R_MI) (T := F_MI) (N := 2) (f0 := [.null, .int 0]) hP hD hS i_MI t_MI_ok xm_32 xm_33 xm_3 rfl (by decide +kernel) (Nat.le_of_ble_eq_true rfl) (Nat.le_of_ble_eq_true rfl) d_MM_init_522 d_MM_init_525 ?_
  clear hP hD hS
  intro q_79 H hP hD hS
  replace hP : va_P (dC, dI) classes [(h0, .inr (0, fs_48)), (q_1, .inr (1, q_2)), (q_3, .inr (2, [.ref q_4, .int 0])), (q_4, .inl (ca 0, 16, .inl (fun _ => 0))), (q_14, .inl (ca 4, 148, .inr (.inr (.inr (.inr (fun _ => none)))))), (q_79, .inr (3, [.null, .int 0]))] H := hP
  replace hD : va_D A [(h0, .inr (0, fs_48)), (q_1, .inr (1, q_2)), (q_3, .inr (2, [.ref q_4, .int 0])), (q_4, .inl (ca 0, 16, .inl (fun _ => 0))), (q_14, .inl (ca 4, 148, .inr (.inr (.inr (.inr (fun _ => none)))))), (q_79, .inr (3, [.null, .int 0]))] := hD
  refine W.widen (k := 97) (n := 524736) (Nat.le_of_ble_eq_true rfl) (Nat.le_of_ble_eq_true rfl) ?_
  refine lv_iconst (v := 4) hx hb d_MM_init_526 (by decide) ?_
  refine ax_I (k := 1) (As := [.int 4]) (rest := [.ref q_79, .ref h0]) (wr := [(h0, .inr (0, fs_48)), (q_1, .inr (1, q_2)), (q_3, .inr (2, [.ref q_4, .int 0])), (q_4, .inl (ca 0, 16, .inl (fun _ => 0))), (q_14, .inl (ca 4, 148, .inr (.inr (.inr (.inr (fun _ => none))))))]) rfl hx hb hml hown hts g_wm (mK_bl dC dI ca) (c_MI_init l dC dI ca q_79) rfl xm_34 xm_35 xm_3 xm_36 (by decide +kernel) rfl (Nat.le_of_ble_eq_true rfl) (Nat.le_of_ble_eq_true rfl) hl.1 (Nat.le_of_ble_eq_true rfl) (mK_up hK) hP hD hS hA [5] [0, 1, 2, 3, 4] rfl (by decide) rfl rfl (by decide) (by decide) (Nat.le_of_ble_eq_true rfl) (Nat.le_of_ble_eq_true rfl) d_MM_init_527 ?_
  clear hP hD hS
  intro v q_80 H locs hp hP hD hS
  obtain rfl : v = none := hp
  replace hP : va_P (dC, dI) classes [(h0, .inr (0, fs_48)), (q_1, .inr (1, q_2)), (q_3, .inr (2, [.ref q_4, .int 0])), (q_4, .inl (ca 0, 16, .inl (fun _ => 0))), (q_14, .inl (ca 4, 148, .inr (.inr (.inr (.inr (fun _ => none)))))), (q_79, .inr (3, [.ref q_80, .int 0])), (q_80, .inl (ca 1, 4, .inl (fun _ => 0)))] H := hP
  replace hD : va_D A [(h0, .inr (0, fs_48)), (q_1, .inr (1, q_2)), (q_3, .inr (2, [.ref q_4, .int 0])), (q_4, .inl (ca 0, 16, .inl (fun _ => 0))), (q_14, .inl (ca 4, 148, .inr (.inr (.inr (.inr (fun _ => none)))))), (q_79, .inr (3, [.ref q_80, .int 0])), (q_80, .inl (ca 1, 4, .inl (fun _ => 0)))] := hD
  refine W.eq (g2 := F0 m 530 ls [.ref q_79, .ref h0]) rfl ?_
  refine W.widen (k := 98) (n := 524740) (Nat.le_of_ble_eq_true rfl) (Nat.le_of_ble_eq_true rfl) ?_
  replace hP := hP.sub (ws' := [(h0, .inr (0, fs_48)), (q_1, .inr (1, q_2)), (q_3, .inr (2, [.ref q_4, .int 0])), (q_4, .inl (ca 0, 16, .inl (fun _ => 0))), (q_14, .inl (ca 4, 148, .inr (.inr (.inr (.inr (fun _ => none))))))]) [0, 1, 2, 3, 4] rfl
  replace hD := hD.sub (ws' := [(h0, .inr (0, fs_48)), (q_1, .inr (1, q_2)), (q_3, .inr (2, [.ref q_4, .int 0])), (q_4, .inl (ca 0, 16, .inl (fun _ => 0))), (q_14, .inl (ca 4, 148, .inr (.inr (.inr (.inr (fun _ => none))))))]) [0, 1, 2, 3, 4] (by decide) rfl
  refine m_put M (fs := fs_48) (wt := [(q_1, .inr (1, q_2)), (q_3, .inr (2, [.ref q_4, .int 0])), (q_4, .inl (ca 0, 16, .inl (fun _ => 0))), (q_14, .inl (ca 4, 148, .inr (.inr (.inr (.inr (fun _ => none))))))]) (k := 60) (ty := .object "SourceBackModel$Ints") hP hD hS hlen (by decide) xm_129 rfl rfl (by decide +kernel) rfl rfl d_MM_init_530 ?_
  clear hP hD hS hlen
  intro H locs hlen hP hD hS
  obtain ⟨fs_49, e_49⟩ : ∃ z, z = fs_48.set 60 (.ref q_79) := ⟨_, rfl⟩
  rw [← e_49] at hP hD hlen
  replace hP : va_P (dC, dI) classes [(h0, .inr (0, fs_49)), (q_1, .inr (1, q_2)), (q_3, .inr (2, [.ref q_4, .int 0])), (q_4, .inl (ca 0, 16, .inl (fun _ => 0))), (q_14, .inl (ca 4, 148, .inr (.inr (.inr (.inr (fun _ => none))))))] H := hP
  replace hD : va_D A [(h0, .inr (0, fs_49)), (q_1, .inr (1, q_2)), (q_3, .inr (2, [.ref q_4, .int 0])), (q_4, .inl (ca 0, 16, .inl (fun _ => 0))), (q_14, .inl (ca 4, 148, .inr (.inr (.inr (.inr (fun _ => none))))))] := hD
  refine lv_aload_n hx hb d_MM_init_533 rfl (lv_at hl 0 rfl) ?_
  refine m_new M (wt := [(q_1, .inr (1, q_2)), (q_3, .inr (2, [.ref q_4, .int 0])), (q_4, .inl (ca 0, 16, .inl (fun _ => 0))), (q_14, .inl (ca 4, 148, .inr (.inr (.inr (.inr (fun _ => none))))))]) (ci := 4) (C := R_ML) (T := F_ML) (N := 2) (f0 := [.null, .int 0]) hP hD hS i_ML t_ML_ok xm_69 xm_50 xm_5 rfl (by decide +kernel) (Nat.le_of_ble_eq_true rfl) (Nat.le_of_ble_eq_true rfl) d_MM_init_534 d_MM_init_537 ?_
  clear hP hD hS
  intro q_81 H hP hD hS
  replace hP : va_P (dC, dI) classes [(h0, .inr (0, fs_49)), (q_1, .inr (1, q_2)), (q_3, .inr (2, [.ref q_4, .int 0])), (q_4, .inl (ca 0, 16, .inl (fun _ => 0))), (q_14, .inl (ca 4, 148, .inr (.inr (.inr (.inr (fun _ => none)))))), (q_81, .inr (4, [.null, .int 0]))] H := hP
  replace hD : va_D A [(h0, .inr (0, fs_49)), (q_1, .inr (1, q_2)), (q_3, .inr (2, [.ref q_4, .int 0])), (q_4, .inl (ca 0, 16, .inl (fun _ => 0))), (q_14, .inl (ca 4, 148, .inr (.inr (.inr (.inr (fun _ => none)))))), (q_81, .inr (4, [.null, .int 0]))] := hD
  refine W.widen (k := 99) (n := 524742) (Nat.le_of_ble_eq_true rfl) (Nat.le_of_ble_eq_true rfl) ?_
  refine lv_iconst (v := 4) hx hb d_MM_init_538 (by decide) ?_
  refine ax_I (k := 1) (As := [.int 4]) (rest := [.ref q_81, .ref h0]) (wr := [(h0, .inr (0, fs_49)), (q_1, .inr (1, q_2)), (q_3, .inr (2, [.ref q_4, .int 0])), (q_4, .inl (ca 0, 16, .inl (fun _ => 0))), (q_14, .inl (ca 4, 148, .inr (.inr (.inr (.inr (fun _ => none))))))]) rfl hx hb hml hown hts g_wm (mK_bl dC dI ca) (c_ML_init l dC dI ca q_81) rfl xm_70 xm_52 xm_5 xm_53 (by decide +kernel) rfl (Nat.le_of_ble_eq_true rfl) (Nat.le_of_ble_eq_true rfl) hl.1 (Nat.le_of_ble_eq_true rfl) (mK_up hK) hP hD hS hA [5] [0, 1, 2, 3, 4] rfl (by decide) rfl rfl (by decide) (by decide) (Nat.le_of_ble_eq_true rfl) (Nat.le_of_ble_eq_true rfl) d_MM_init_539 ?_
  clear hP hD hS
  intro v q_82 H locs hp hP hD hS
  obtain rfl : v = none := hp
  replace hP : va_P (dC, dI) classes [(h0, .inr (0, fs_49)), (q_1, .inr (1, q_2)), (q_3, .inr (2, [.ref q_4, .int 0])), (q_4, .inl (ca 0, 16, .inl (fun _ => 0))), (q_14, .inl (ca 4, 148, .inr (.inr (.inr (.inr (fun _ => none)))))), (q_81, .inr (4, [.ref q_82, .int 0])), (q_82, .inl (ca 2, 4, .inr (.inl (fun _ => 0))))] H := hP
  replace hD : va_D A [(h0, .inr (0, fs_49)), (q_1, .inr (1, q_2)), (q_3, .inr (2, [.ref q_4, .int 0])), (q_4, .inl (ca 0, 16, .inl (fun _ => 0))), (q_14, .inl (ca 4, 148, .inr (.inr (.inr (.inr (fun _ => none)))))), (q_81, .inr (4, [.ref q_82, .int 0])), (q_82, .inl (ca 2, 4, .inr (.inl (fun _ => 0))))] := hD
  refine W.eq (g2 := F0 m 542 ls [.ref q_81, .ref h0]) rfl ?_
  refine W.widen (k := 100) (n := 524746) (Nat.le_of_ble_eq_true rfl) (Nat.le_of_ble_eq_true rfl) ?_
  replace hP := hP.sub (ws' := [(h0, .inr (0, fs_49)), (q_1, .inr (1, q_2)), (q_3, .inr (2, [.ref q_4, .int 0])), (q_4, .inl (ca 0, 16, .inl (fun _ => 0))), (q_14, .inl (ca 4, 148, .inr (.inr (.inr (.inr (fun _ => none))))))]) [0, 1, 2, 3, 4] rfl
  replace hD := hD.sub (ws' := [(h0, .inr (0, fs_49)), (q_1, .inr (1, q_2)), (q_3, .inr (2, [.ref q_4, .int 0])), (q_4, .inl (ca 0, 16, .inl (fun _ => 0))), (q_14, .inl (ca 4, 148, .inr (.inr (.inr (.inr (fun _ => none))))))]) [0, 1, 2, 3, 4] (by decide) rfl
  refine m_put M (fs := fs_49) (wt := [(q_1, .inr (1, q_2)), (q_3, .inr (2, [.ref q_4, .int 0])), (q_4, .inl (ca 0, 16, .inl (fun _ => 0))), (q_14, .inl (ca 4, 148, .inr (.inr (.inr (.inr (fun _ => none))))))]) (k := 61) (ty := .object "SourceBackModel$Longs") hP hD hS hlen (by decide) xm_130 rfl rfl (by decide +kernel) rfl rfl d_MM_init_542 ?_
  clear hP hD hS hlen
  intro H locs hlen hP hD hS
  obtain ⟨fs_50, e_50⟩ : ∃ z, z = fs_49.set 61 (.ref q_81) := ⟨_, rfl⟩
  rw [← e_50] at hP hD hlen
  replace hP : va_P (dC, dI) classes [(h0, .inr (0, fs_50)), (q_1, .inr (1, q_2)), (q_3, .inr (2, [.ref q_4, .int 0])), (q_4, .inl (ca 0, 16, .inl (fun _ => 0))), (q_14, .inl (ca 4, 148, .inr (.inr (.inr (.inr (fun _ => none))))))] H := hP
  replace hD : va_D A [(h0, .inr (0, fs_50)), (q_1, .inr (1, q_2)), (q_3, .inr (2, [.ref q_4, .int 0])), (q_4, .inl (ca 0, 16, .inl (fun _ => 0))), (q_14, .inl (ca 4, 148, .inr (.inr (.inr (.inr (fun _ => none))))))] := hD
  refine lv_aload_n hx hb d_MM_init_545 rfl (lv_at hl 0 rfl) ?_
  refine lv_bipush (v := 80) hx hb d_MM_init_546 (by decide +kernel) ?_
  refine m_arr M (atype := .int) (ty := .int) (fs := fs_50) (wt := [(q_1, .inr (1, q_2)), (q_3, .inr (2, [.ref q_4, .int 0])), (q_4, .inl (ca 0, 16, .inl (fun _ => 0))), (q_14, .inl (ca 4, 148, .inr (.inr (.inr (.inr (fun _ => none))))))]) (t0 := 1) (n := 80) (N' := 80) (k := 64) (tf := .array (.int)) (a0 := (80, .inl (fun _ => 0))) hP hD hS hlen rfl xm_11 rfl (fun C h => by cases h) (m_a_int 80) (by decide +kernel) (by decide +kernel) (by decide +kernel) (by decide) xm_131 rfl rfl (by decide +kernel) (fun _ => rfl) (fun _ => rfl) (Nat.le_of_ble_eq_true rfl) (Nat.le_of_ble_eq_true rfl) d_MM_init_548 d_MM_init_550 ?_
  clear hP hD hS hlen
  intro q_83 H locs hlen hP hD hS
  obtain ⟨fs_51, e_51⟩ : ∃ z, z = fs_50.set 64 (.ref q_83) := ⟨_, rfl⟩
  rw [← e_51] at hP hD hlen
  replace hP : va_P (dC, dI) classes [(h0, .inr (0, fs_51)), (q_1, .inr (1, q_2)), (q_3, .inr (2, [.ref q_4, .int 0])), (q_4, .inl (ca 0, 16, .inl (fun _ => 0))), (q_14, .inl (ca 4, 148, .inr (.inr (.inr (.inr (fun _ => none))))))] H := hP
  replace hD : va_D A [(h0, .inr (0, fs_51)), (q_1, .inr (1, q_2)), (q_3, .inr (2, [.ref q_4, .int 0])), (q_4, .inl (ca 0, 16, .inl (fun _ => 0))), (q_14, .inl (ca 4, 148, .inr (.inr (.inr (.inr (fun _ => none))))))] := hD
  refine W.widen (k := 101) (n := 524826) (Nat.le_of_ble_eq_true rfl) (Nat.le_of_ble_eq_true rfl) ?_
  refine lv_aload_n hx hb d_MM_init_553 rfl (lv_at hl 0 rfl) ?_
  refine m_new M (wt := [(q_1, .inr (1, q_2)), (q_3, .inr (2, [.ref q_4, .int 0])), (q_4, .inl (ca 0, 16, .inl (fun _ => 0))), (q_14, .inl (ca 4, 148, .inr (.inr (.inr (.inr (fun _ => none))))))]) (ci := 3) (C := R_MI) (T := F_MI) (N := 2) (f0 := [.null, .int 0]) hP hD hS i_MI t_MI_ok xm_32 xm_33 xm_3 rfl (by decide +kernel) (Nat.le_of_ble_eq_true rfl) (Nat.le_of_ble_eq_true rfl) d_MM_init_554 d_MM_init_557 ?_
  clear hP hD hS
  intro q_84 H hP hD hS
  replace hP : va_P (dC, dI) classes [(h0, .inr (0, fs_51)), (q_1, .inr (1, q_2)), (q_3, .inr (2, [.ref q_4, .int 0])), (q_4, .inl (ca 0, 16, .inl (fun _ => 0))), (q_14, .inl (ca 4, 148, .inr (.inr (.inr (.inr (fun _ => none)))))), (q_84, .inr (3, [.null, .int 0]))] H := hP
  replace hD : va_D A [(h0, .inr (0, fs_51)), (q_1, .inr (1, q_2)), (q_3, .inr (2, [.ref q_4, .int 0])), (q_4, .inl (ca 0, 16, .inl (fun _ => 0))), (q_14, .inl (ca 4, 148, .inr (.inr (.inr (.inr (fun _ => none)))))), (q_84, .inr (3, [.null, .int 0]))] := hD
  refine W.widen (k := 102) (n := 524828) (Nat.le_of_ble_eq_true rfl) (Nat.le_of_ble_eq_true rfl) ?_
  refine lv_iconst (v := 4) hx hb d_MM_init_558 (by decide) ?_
  refine ax_I (k := 1) (As := [.int 4]) (rest := [.ref q_84, .ref h0]) (wr := [(h0, .inr (0, fs_51)), (q_1, .inr (1, q_2)), (q_3, .inr (2, [.ref q_4, .int 0])), (q_4, .inl (ca 0, 16, .inl (fun _ => 0))), (q_14, .inl (ca 4, 148, .inr (.inr (.inr (.inr (fun _ => none))))))]) rfl hx hb hml hown hts g_wm (mK_bl dC dI ca) (c_MI_init l dC dI ca q_84) rfl xm_34 xm_35 xm_3 xm_36 (by decide +kernel) rfl (Nat.le_of_ble_eq_true rfl) (Nat.le_of_ble_eq_true rfl) hl.1 (Nat.le_of_ble_eq_true rfl) (mK_up hK) hP hD hS hA [5] [0, 1, 2, 3, 4] rfl (by decide) rfl rfl (by decide) (by decide) (Nat.le_of_ble_eq_true rfl) (Nat.le_of_ble_eq_true rfl) d_MM_init_559 ?_
  clear hP hD hS
  intro v q_85 H locs hp hP hD hS
  obtain rfl : v = none := hp
  replace hP : va_P (dC, dI) classes [(h0, .inr (0, fs_51)), (q_1, .inr (1, q_2)), (q_3, .inr (2, [.ref q_4, .int 0])), (q_4, .inl (ca 0, 16, .inl (fun _ => 0))), (q_14, .inl (ca 4, 148, .inr (.inr (.inr (.inr (fun _ => none)))))), (q_84, .inr (3, [.ref q_85, .int 0])), (q_85, .inl (ca 1, 4, .inl (fun _ => 0)))] H := hP
  replace hD : va_D A [(h0, .inr (0, fs_51)), (q_1, .inr (1, q_2)), (q_3, .inr (2, [.ref q_4, .int 0])), (q_4, .inl (ca 0, 16, .inl (fun _ => 0))), (q_14, .inl (ca 4, 148, .inr (.inr (.inr (.inr (fun _ => none)))))), (q_84, .inr (3, [.ref q_85, .int 0])), (q_85, .inl (ca 1, 4, .inl (fun _ => 0)))] := hD
  refine W.eq (g2 := F0 m 562 ls [.ref q_84, .ref h0]) rfl ?_
  refine W.widen (k := 103) (n := 524832) (Nat.le_of_ble_eq_true rfl) (Nat.le_of_ble_eq_true rfl) ?_
  replace hP := hP.sub (ws' := [(h0, .inr (0, fs_51)), (q_1, .inr (1, q_2)), (q_3, .inr (2, [.ref q_4, .int 0])), (q_4, .inl (ca 0, 16, .inl (fun _ => 0))), (q_14, .inl (ca 4, 148, .inr (.inr (.inr (.inr (fun _ => none))))))]) [0, 1, 2, 3, 4] rfl
  replace hD := hD.sub (ws' := [(h0, .inr (0, fs_51)), (q_1, .inr (1, q_2)), (q_3, .inr (2, [.ref q_4, .int 0])), (q_4, .inl (ca 0, 16, .inl (fun _ => 0))), (q_14, .inl (ca 4, 148, .inr (.inr (.inr (.inr (fun _ => none))))))]) [0, 1, 2, 3, 4] (by decide) rfl
  refine m_put M (fs := fs_51) (wt := [(q_1, .inr (1, q_2)), (q_3, .inr (2, [.ref q_4, .int 0])), (q_4, .inl (ca 0, 16, .inl (fun _ => 0))), (q_14, .inl (ca 4, 148, .inr (.inr (.inr (.inr (fun _ => none))))))]) (k := 70) (ty := .object "SourceBackModel$Ints") hP hD hS hlen (by decide) xm_133 rfl rfl (by decide +kernel) rfl rfl d_MM_init_562 ?_
  clear hP hD hS hlen
  intro H locs hlen hP hD hS
  obtain ⟨fs_52, e_52⟩ : ∃ z, z = fs_51.set 70 (.ref q_84) := ⟨_, rfl⟩
  rw [← e_52] at hP hD hlen
  replace hP : va_P (dC, dI) classes [(h0, .inr (0, fs_52)), (q_1, .inr (1, q_2)), (q_3, .inr (2, [.ref q_4, .int 0])), (q_4, .inl (ca 0, 16, .inl (fun _ => 0))), (q_14, .inl (ca 4, 148, .inr (.inr (.inr (.inr (fun _ => none))))))] H := hP
  replace hD : va_D A [(h0, .inr (0, fs_52)), (q_1, .inr (1, q_2)), (q_3, .inr (2, [.ref q_4, .int 0])), (q_4, .inl (ca 0, 16, .inl (fun _ => 0))), (q_14, .inl (ca 4, 148, .inr (.inr (.inr (.inr (fun _ => none))))))] := hD
  refine lv_aload_n hx hb d_MM_init_565 rfl (lv_at hl 0 rfl) ?_
  refine m_new M (wt := [(q_1, .inr (1, q_2)), (q_3, .inr (2, [.ref q_4, .int 0])), (q_4, .inl (ca 0, 16, .inl (fun _ => 0))), (q_14, .inl (ca 4, 148, .inr (.inr (.inr (.inr (fun _ => none))))))]) (ci := 3) (C := R_MI) (T := F_MI) (N := 2) (f0 := [.null, .int 0]) hP hD hS i_MI t_MI_ok xm_32 xm_33 xm_3 rfl (by decide +kernel) (Nat.le_of_ble_eq_true rfl) (Nat.le_of_ble_eq_true rfl) d_MM_init_566 d_MM_init_569 ?_
  clear hP hD hS
  intro q_86 H hP hD hS
  replace hP : va_P (dC, dI) classes [(h0, .inr (0, fs_52)), (q_1, .inr (1, q_2)), (q_3, .inr (2, [.ref q_4, .int 0])), (q_4, .inl (ca 0, 16, .inl (fun _ => 0))), (q_14, .inl (ca 4, 148, .inr (.inr (.inr (.inr (fun _ => none)))))), (q_86, .inr (3, [.null, .int 0]))] H := hP
  replace hD : va_D A [(h0, .inr (0, fs_52)), (q_1, .inr (1, q_2)), (q_3, .inr (2, [.ref q_4, .int 0])), (q_4, .inl (ca 0, 16, .inl (fun _ => 0))), (q_14, .inl (ca 4, 148, .inr (.inr (.inr (.inr (fun _ => none)))))), (q_86, .inr (3, [.null, .int 0]))] := hD
  refine W.widen (k := 104) (n := 524834) (Nat.le_of_ble_eq_true rfl) (Nat.le_of_ble_eq_true rfl) ?_
  refine lv_iconst (v := 4) hx hb d_MM_init_570 (by decide) ?_
  refine ax_I (k := 1) (As := [.int 4]) (rest := [.ref q_86, .ref h0]) (wr := [(h0, .inr (0, fs_52)), (q_1, .inr (1, q_2)), (q_3, .inr (2, [.ref q_4, .int 0])), (q_4, .inl (ca 0, 16, .inl (fun _ => 0))), (q_14, .inl (ca 4, 148, .inr (.inr (.inr (.inr (fun _ => none))))))]) rfl hx hb hml hown hts g_wm (mK_bl dC dI ca) (c_MI_init l dC dI ca q_86) rfl xm_34 xm_35 xm_3 xm_36 (by decide +kernel) rfl (Nat.le_of_ble_eq_true rfl) (Nat.le_of_ble_eq_true rfl) hl.1 (Nat.le_of_ble_eq_true rfl) (mK_up hK) hP hD hS hA [5] [0, 1, 2, 3, 4] rfl (by decide) rfl rfl (by decide) (by decide) (Nat.le_of_ble_eq_true rfl) (Nat.le_of_ble_eq_true rfl) d_MM_init_571 ?_
  clear hP hD hS
  intro v q_87 H locs hp hP hD hS
  obtain rfl : v = none := hp
  replace hP : va_P (dC, dI) classes [(h0, .inr (0, fs_52)), (q_1, .inr (1, q_2)), (q_3, .inr (2, [.ref q_4, .int 0])), (q_4, .inl (ca 0, 16, .inl (fun _ => 0))), (q_14, .inl (ca 4, 148, .inr (.inr (.inr (.inr (fun _ => none)))))), (q_86, .inr (3, [.ref q_87, .int 0])), (q_87, .inl (ca 1, 4, .inl (fun _ => 0)))] H := hP
  replace hD : va_D A [(h0, .inr (0, fs_52)), (q_1, .inr (1, q_2)), (q_3, .inr (2, [.ref q_4, .int 0])), (q_4, .inl (ca 0, 16, .inl (fun _ => 0))), (q_14, .inl (ca 4, 148, .inr (.inr (.inr (.inr (fun _ => none)))))), (q_86, .inr (3, [.ref q_87, .int 0])), (q_87, .inl (ca 1, 4, .inl (fun _ => 0)))] := hD
  refine W.eq (g2 := F0 m 574 ls [.ref q_86, .ref h0]) rfl ?_
  refine W.widen (k := 105) (n := 524838) (Nat.le_of_ble_eq_true rfl) (Nat.le_of_ble_eq_true rfl) ?_
  replace hP := hP.sub (ws' := [(h0, .inr (0, fs_52)), (q_1, .inr (1, q_2)), (q_3, .inr (2, [.ref q_4, .int 0])), (q_4, .inl (ca 0, 16, .inl (fun _ => 0))), (q_14, .inl (ca 4, 148, .inr (.inr (.inr (.inr (fun _ => none))))))]) [0, 1, 2, 3, 4] rfl
  replace hD := hD.sub (ws' := [(h0, .inr (0, fs_52)), (q_1, .inr (1, q_2)), (q_3, .inr (2, [.ref q_4, .int 0])), (q_4, .inl (ca 0, 16, .inl (fun _ => 0))), (q_14, .inl (ca 4, 148, .inr (.inr (.inr (.inr (fun _ => none))))))]) [0, 1, 2, 3, 4] (by decide) rfl
  refine m_put M (fs := fs_52) (wt := [(q_1, .inr (1, q_2)), (q_3, .inr (2, [.ref q_4, .int 0])), (q_4, .inl (ca 0, 16, .inl (fun _ => 0))), (q_14, .inl (ca 4, 148, .inr (.inr (.inr (.inr (fun _ => none))))))]) (k := 72) (ty := .object "SourceBackModel$Ints") hP hD hS hlen (by decide) xm_134 rfl rfl (by decide +kernel) rfl rfl d_MM_init_574 ?_
  clear hP hD hS hlen
  intro H locs hlen hP hD hS
  obtain ⟨fs_53, e_53⟩ : ∃ z, z = fs_52.set 72 (.ref q_86) := ⟨_, rfl⟩
  rw [← e_53] at hP hD hlen
  replace hP : va_P (dC, dI) classes [(h0, .inr (0, fs_53)), (q_1, .inr (1, q_2)), (q_3, .inr (2, [.ref q_4, .int 0])), (q_4, .inl (ca 0, 16, .inl (fun _ => 0))), (q_14, .inl (ca 4, 148, .inr (.inr (.inr (.inr (fun _ => none))))))] H := hP
  replace hD : va_D A [(h0, .inr (0, fs_53)), (q_1, .inr (1, q_2)), (q_3, .inr (2, [.ref q_4, .int 0])), (q_4, .inl (ca 0, 16, .inl (fun _ => 0))), (q_14, .inl (ca 4, 148, .inr (.inr (.inr (.inr (fun _ => none))))))] := hD
  refine lv_aload_n hx hb d_MM_init_577 rfl (lv_at hl 0 rfl) ?_
  refine lv_bipush (v := 120) hx hb d_MM_init_578 (by decide +kernel) ?_
  refine m_arr M (atype := .boolean) (ty := .boolean) (fs := fs_53) (wt := [(q_1, .inr (1, q_2)), (q_3, .inr (2, [.ref q_4, .int 0])), (q_4, .inl (ca 0, 16, .inl (fun _ => 0))), (q_14, .inl (ca 4, 148, .inr (.inr (.inr (.inr (fun _ => none))))))]) (t0 := 3) (n := 120) (N' := 120) (k := 73) (tf := .array (.boolean)) (a0 := (120, .inl (fun _ => 0))) hP hD hS hlen rfl xm_174 rfl (fun C h => by cases h) (m_a_boolean 120) (by decide +kernel) (by decide +kernel) (by decide +kernel) (by decide) xm_135 rfl rfl (by decide +kernel) (fun _ => rfl) (fun _ => rfl) (Nat.le_of_ble_eq_true rfl) (Nat.le_of_ble_eq_true rfl) d_MM_init_580 d_MM_init_582 ?_
  clear hP hD hS hlen
  intro q_88 H locs hlen hP hD hS
  obtain ⟨fs_54, e_54⟩ : ∃ z, z = fs_53.set 73 (.ref q_88) := ⟨_, rfl⟩
  rw [← e_54] at hP hD hlen
  replace hP : va_P (dC, dI) classes [(h0, .inr (0, fs_54)), (q_1, .inr (1, q_2)), (q_3, .inr (2, [.ref q_4, .int 0])), (q_4, .inl (ca 0, 16, .inl (fun _ => 0))), (q_14, .inl (ca 4, 148, .inr (.inr (.inr (.inr (fun _ => none))))))] H := hP
  replace hD : va_D A [(h0, .inr (0, fs_54)), (q_1, .inr (1, q_2)), (q_3, .inr (2, [.ref q_4, .int 0])), (q_4, .inl (ca 0, 16, .inl (fun _ => 0))), (q_14, .inl (ca 4, 148, .inr (.inr (.inr (.inr (fun _ => none))))))] := hD
  refine W.widen (k := 106) (n := 524958) (Nat.le_of_ble_eq_true rfl) (Nat.le_of_ble_eq_true rfl) ?_
  refine lv_aload_n hx hb d_MM_init_585 rfl (lv_at hl 0 rfl) ?_
  refine m_new M (wt := [(q_1, .inr (1, q_2)), (q_3, .inr (2, [.ref q_4, .int 0])), (q_4, .inl (ca 0, 16, .inl (fun _ => 0))), (q_14, .inl (ca 4, 148, .inr (.inr (.inr (.inr (fun _ => none))))))]) (ci := 3) (C := R_MI) (T := F_MI) (N := 2) (f0 := [.null, .int 0]) hP hD hS i_MI t_MI_ok xm_32 xm_33 xm_3 rfl (by decide +kernel) (Nat.le_of_ble_eq_true rfl) (Nat.le_of_ble_eq_true rfl) d_MM_init_586 d_MM_init_589 ?_
  clear hP hD hS
  intro q_89 H hP hD hS
  replace hP : va_P (dC, dI) classes [(h0, .inr (0, fs_54)), (q_1, .inr (1, q_2)), (q_3, .inr (2, [.ref q_4, .int 0])), (q_4, .inl (ca 0, 16, .inl (fun _ => 0))), (q_14, .inl (ca 4, 148, .inr (.inr (.inr (.inr (fun _ => none)))))), (q_89, .inr (3, [.null, .int 0]))] H := hP
  replace hD : va_D A [(h0, .inr (0, fs_54)), (q_1, .inr (1, q_2)), (q_3, .inr (2, [.ref q_4, .int 0])), (q_4, .inl (ca 0, 16, .inl (fun _ => 0))), (q_14, .inl (ca 4, 148, .inr (.inr (.inr (.inr (fun _ => none)))))), (q_89, .inr (3, [.null, .int 0]))] := hD
  refine W.widen (k := 107) (n := 524960) (Nat.le_of_ble_eq_true rfl) (Nat.le_of_ble_eq_true rfl) ?_
  refine lv_iconst (v := 4) hx hb d_MM_init_590 (by decide) ?_
  refine ax_I (k := 1) (As := [.int 4]) (rest := [.ref q_89, .ref h0]) (wr := [(h0, .inr (0, fs_54)), (q_1, .inr (1, q_2)), (q_3, .inr (2, [.ref q_4, .int 0])), (q_4, .inl (ca 0, 16, .inl (fun _ => 0))), (q_14, .inl (ca 4, 148, .inr (.inr (.inr (.inr (fun _ => none))))))]) rfl hx hb hml hown hts g_wm (mK_bl dC dI ca) (c_MI_init l dC dI ca q_89) rfl xm_34 xm_35 xm_3 xm_36 (by decide +kernel) rfl (Nat.le_of_ble_eq_true rfl) (Nat.le_of_ble_eq_true rfl) hl.1 (Nat.le_of_ble_eq_true rfl) (mK_up hK) hP hD hS hA [5] [0, 1, 2, 3, 4] rfl (by decide) rfl rfl (by decide) (by decide) (Nat.le_of_ble_eq_true rfl) (Nat.le_of_ble_eq_true rfl) d_MM_init_591 ?_
  clear hP hD hS
  intro v q_90 H locs hp hP hD hS
  obtain rfl : v = none := hp
  replace hP : va_P (dC, dI) classes [(h0, .inr (0, fs_54)), (q_1, .inr (1, q_2)), (q_3, .inr (2, [.ref q_4, .int 0])), (q_4, .inl (ca 0, 16, .inl (fun _ => 0))), (q_14, .inl (ca 4, 148, .inr (.inr (.inr (.inr (fun _ => none)))))), (q_89, .inr (3, [.ref q_90, .int 0])), (q_90, .inl (ca 1, 4, .inl (fun _ => 0)))] H := hP
  replace hD : va_D A [(h0, .inr (0, fs_54)), (q_1, .inr (1, q_2)), (q_3, .inr (2, [.ref q_4, .int 0])), (q_4, .inl (ca 0, 16, .inl (fun _ => 0))), (q_14, .inl (ca 4, 148, .inr (.inr (.inr (.inr (fun _ => none)))))), (q_89, .inr (3, [.ref q_90, .int 0])), (q_90, .inl (ca 1, 4, .inl (fun _ => 0)))] := hD
  refine W.eq (g2 := F0 m 594 ls [.ref q_89, .ref h0]) rfl ?_
  refine W.widen (k := 108) (n := 524964) (Nat.le_of_ble_eq_true rfl) (Nat.le_of_ble_eq_true rfl) ?_
  replace hP := hP.sub (ws' := [(h0, .inr (0, fs_54)), (q_1, .inr (1, q_2)), (q_3, .inr (2, [.ref q_4, .int 0])), (q_4, .inl (ca 0, 16, .inl (fun _ => 0))), (q_14, .inl (ca 4, 148, .inr (.inr (.inr (.inr (fun _ => none))))))]) [0, 1, 2, 3, 4] rfl
  replace hD := hD.sub (ws' := [(h0, .inr (0, fs_54)), (q_1, .inr (1, q_2)), (q_3, .inr (2, [.ref q_4, .int 0])), (q_4, .inl (ca 0, 16, .inl (fun _ => 0))), (q_14, .inl (ca 4, 148, .inr (.inr (.inr (.inr (fun _ => none))))))]) [0, 1, 2, 3, 4] (by decide) rfl
  refine m_put M (fs := fs_54) (wt := [(q_1, .inr (1, q_2)), (q_3, .inr (2, [.ref q_4, .int 0])), (q_4, .inl (ca 0, 16, .inl (fun _ => 0))), (q_14, .inl (ca 4, 148, .inr (.inr (.inr (.inr (fun _ => none))))))]) (k := 76) (ty := .object "SourceBackModel$Ints") hP hD hS hlen (by decide) xm_136 rfl rfl (by decide +kernel) rfl rfl d_MM_init_594 ?_
  clear hP hD hS hlen
  intro H locs hlen hP hD hS
  obtain ⟨fs_55, e_55⟩ : ∃ z, z = fs_54.set 76 (.ref q_89) := ⟨_, rfl⟩
  rw [← e_55] at hP hD hlen
  replace hP : va_P (dC, dI) classes [(h0, .inr (0, fs_55)), (q_1, .inr (1, q_2)), (q_3, .inr (2, [.ref q_4, .int 0])), (q_4, .inl (ca 0, 16, .inl (fun _ => 0))), (q_14, .inl (ca 4, 148, .inr (.inr (.inr (.inr (fun _ => none))))))] H := hP
  replace hD : va_D A [(h0, .inr (0, fs_55)), (q_1, .inr (1, q_2)), (q_3, .inr (2, [.ref q_4, .int 0])), (q_4, .inl (ca 0, 16, .inl (fun _ => 0))), (q_14, .inl (ca 4, 148, .inr (.inr (.inr (.inr (fun _ => none))))))] := hD
  refine lv_aload_n hx hb d_MM_init_597 rfl (lv_at hl 0 rfl) ?_
  refine m_new M (wt := [(q_1, .inr (1, q_2)), (q_3, .inr (2, [.ref q_4, .int 0])), (q_4, .inl (ca 0, 16, .inl (fun _ => 0))), (q_14, .inl (ca 4, 148, .inr (.inr (.inr (.inr (fun _ => none))))))]) (ci := 3) (C := R_MI) (T := F_MI) (N := 2) (f0 := [.null, .int 0]) hP hD hS i_MI t_MI_ok xm_32 xm_33 xm_3 rfl (by decide +kernel) (Nat.le_of_ble_eq_true rfl) (Nat.le_of_ble_eq_true rfl) d_MM_init_598 d_MM_init_601 ?_
  clear hP hD hS
  intro q_91 H hP hD hS
  replace hP : va_P (dC, dI) classes [(h0, .inr (0, fs_55)), (q_1, .inr (1, q_2)), (q_3, .inr (2, [.ref q_4, .int 0])), (q_4, .inl (ca 0, 16, .inl (fun _ => 0))), (q_14, .inl (ca 4, 148, .inr (.inr (.inr (.inr (fun _ => none)))))), (q_91, .inr (3, [.null, .int 0]))] H := hP
  replace hD : va_D A [(h0, .inr (0, fs_55)), (q_1, .inr (1, q_2)), (q_3, .inr (2, [.ref q_4, .int 0])), (q_4, .inl (ca 0, 16, .inl (fun _ => 0))), (q_14, .inl (ca 4, 148, .inr (.inr (.inr (.inr (fun _ => none)))))), (q_91, .inr (3, [.null, .int 0]))] := hD
  refine W.widen (k := 109) (n := 524966) (Nat.le_of_ble_eq_true rfl) (Nat.le_of_ble_eq_true rfl) ?_
  refine lv_iconst (v := 4) hx hb d_MM_init_602 (by decide) ?_
  refine ax_I (k := 1) (As := [.int 4]) (rest := [.ref q_91, .ref h0]) (wr := [(h0, .inr (0, fs_55)), (q_1, .inr (1, q_2)), (q_3, .inr (2, [.ref q_4, .int 0])), (q_4, .inl (ca 0, 16, .inl (fun _ => 0))), (q_14, .inl (ca 4, 148, .inr (.inr (.inr (.inr (fun _ => none))))))]) rfl hx hb hml hown hts g_wm (mK_bl dC dI ca) (c_MI_init l dC dI ca q_91) rfl xm_34 xm_35 xm_3 xm_36 (by decide +kernel) rfl (Nat.le_of_ble_eq_true rfl) (Nat.le_of_ble_eq_true rfl) hl.1 (Nat.le_of_ble_eq_true rfl) (mK_up hK) hP hD hS hA [5] [0, 1, 2, 3, 4] rfl (by decide) rfl rfl (by decide) (by decide) (Nat.le_of_ble_eq_true rfl) (Nat.le_of_ble_eq_true rfl) d_MM_init_603 ?_
  clear hP hD hS
  intro v q_92 H locs hp hP hD hS
  obtain rfl : v = none := hp
  replace hP : va_P (dC, dI) classes [(h0, .inr (0, fs_55)), (q_1, .inr (1, q_2)), (q_3, .inr (2, [.ref q_4, .int 0])), (q_4, .inl (ca 0, 16, .inl (fun _ => 0))), (q_14, .inl (ca 4, 148, .inr (.inr (.inr (.inr (fun _ => none)))))), (q_91, .inr (3, [.ref q_92, .int 0])), (q_92, .inl (ca 1, 4, .inl (fun _ => 0)))] H := hP
  replace hD : va_D A [(h0, .inr (0, fs_55)), (q_1, .inr (1, q_2)), (q_3, .inr (2, [.ref q_4, .int 0])), (q_4, .inl (ca 0, 16, .inl (fun _ => 0))), (q_14, .inl (ca 4, 148, .inr (.inr (.inr (.inr (fun _ => none)))))), (q_91, .inr (3, [.ref q_92, .int 0])), (q_92, .inl (ca 1, 4, .inl (fun _ => 0)))] := hD
  refine W.eq (g2 := F0 m 606 ls [.ref q_91, .ref h0]) rfl ?_
  refine W.widen (k := 110) (n := 524970) (Nat.le_of_ble_eq_true rfl) (Nat.le_of_ble_eq_true rfl) ?_
  replace hP := hP.sub (ws' := [(h0, .inr (0, fs_55)), (q_1, .inr (1, q_2)), (q_3, .inr (2, [.ref q_4, .int 0])), (q_4, .inl (ca 0, 16, .inl (fun _ => 0))), (q_14, .inl (ca 4, 148, .inr (.inr (.inr (.inr (fun _ => none))))))]) [0, 1, 2, 3, 4] rfl
  replace hD := hD.sub (ws' := [(h0, .inr (0, fs_55)), (q_1, .inr (1, q_2)), (q_3, .inr (2, [.ref q_4, .int 0])), (q_4, .inl (ca 0, 16, .inl (fun _ => 0))), (q_14, .inl (ca 4, 148, .inr (.inr (.inr (.inr (fun _ => none))))))]) [0, 1, 2, 3, 4] (by decide) rfl
  refine m_put M (fs := fs_55) (wt := [(q_1, .inr (1, q_2)), (q_3, .inr (2, [.ref q_4, .int 0])), (q_4, .inl (ca 0, 16, .inl (fun _ => 0))), (q_14, .inl (ca 4, 148, .inr (.inr (.inr (.inr (fun _ => none))))))]) (k := 77) (ty := .object "SourceBackModel$Ints") hP hD hS hlen (by decide) xm_137 rfl rfl (by decide +kernel) rfl rfl d_MM_init_606 ?_
  clear hP hD hS hlen
  intro H locs hlen hP hD hS
  obtain ⟨fs_56, e_56⟩ : ∃ z, z = fs_55.set 77 (.ref q_91) := ⟨_, rfl⟩
  rw [← e_56] at hP hD hlen
  replace hP : va_P (dC, dI) classes [(h0, .inr (0, fs_56)), (q_1, .inr (1, q_2)), (q_3, .inr (2, [.ref q_4, .int 0])), (q_4, .inl (ca 0, 16, .inl (fun _ => 0))), (q_14, .inl (ca 4, 148, .inr (.inr (.inr (.inr (fun _ => none))))))] H := hP
  replace hD : va_D A [(h0, .inr (0, fs_56)), (q_1, .inr (1, q_2)), (q_3, .inr (2, [.ref q_4, .int 0])), (q_4, .inl (ca 0, 16, .inl (fun _ => 0))), (q_14, .inl (ca 4, 148, .inr (.inr (.inr (.inr (fun _ => none))))))] := hD
  refine lv_aload_n hx hb d_MM_init_609 rfl (lv_at hl 0 rfl) ?_
  refine lv_bipush (v := 10) hx hb d_MM_init_610 (by decide +kernel) ?_
  refine ax_newqK (n := 10) (N' := 10) hx hb hown (hts _ xm_71) (hK.2.2 _ (List.mem_of_getElem? (i := 1) rfl)) hK.1 7 rfl hP hD hS hA (by decide +kernel) (by decide +kernel) (by decide +kernel) (Nat.le_of_ble_eq_true rfl) (Nat.le_of_ble_eq_true rfl) d_MM_init_612 ?_
  clear hP hD hS
  intro q_93 H hP hD hS
  replace hP : va_P (dC, dI) classes [(h0, .inr (0, fs_56)), (q_1, .inr (1, q_2)), (q_3, .inr (2, [.ref q_4, .int 0])), (q_4, .inl (ca 0, 16, .inl (fun _ => 0))), (q_14, .inl (ca 4, 148, .inr (.inr (.inr (.inr (fun _ => none)))))), (q_93, .inl (ca 7, 10, .inr (.inr (.inr (.inr (fun _ => none))))))] H := hP
  replace hD : va_D A [(h0, .inr (0, fs_56)), (q_1, .inr (1, q_2)), (q_3, .inr (2, [.ref q_4, .int 0])), (q_4, .inl (ca 0, 16, .inl (fun _ => 0))), (q_14, .inl (ca 4, 148, .inr (.inr (.inr (.inr (fun _ => none)))))), (q_93, .inl (ca 7, 10, .inr (.inr (.inr (.inr (fun _ => none))))))] := hD
  refine W.widen (k := 111) (n := 524980) (Nat.le_of_ble_eq_true rfl) (Nat.le_of_ble_eq_true rfl) ?_
  refine lv_dup hx hb d_MM_init_615 rfl ?_
  refine lv_iconst (v := 0) hx hb d_MM_init_616 (by decide) ?_
  refine va_ldcS hx hb hown (hks 0 _ rfl).1 d_MM_init_617 ?_
  refine va_astqM (E := "java/lang/String") hx hb hK.1 hP hD hS 5 7 rfl rfl (any_at (hks 0 _ rfl).2.1 hS (hnA 0 _ rfl)) (by unfold vp_in; decide) d_MM_init_619 ?_
  clear hP hD hS
  intro H locs hP hD hS
  replace hP : va_P (dC, dI) classes [(h0, .inr (0, fs_56)), (q_1, .inr (1, q_2)), (q_3, .inr (2, [.ref q_4, .int 0])), (q_4, .inl (ca 0, 16, .inl (fun _ => 0))), (q_14, .inl (ca 4, 148, .inr (.inr (.inr (.inr (fun _ => none)))))), (q_93, .inl (ca 7, 10, .inr (.inr (.inr (.inr (va_up (fun _ => none) 0 (some (sa 0))))))))] H := hP
  replace hD : va_D A [(h0, .inr (0, fs_56)), (q_1, .inr (1, q_2)), (q_3, .inr (2, [.ref q_4, .int 0])), (q_4, .inl (ca 0, 16, .inl (fun _ => 0))), (q_14, .inl (ca 4, 148, .inr (.inr (.inr (.inr (fun _ => none)))))), (q_93, .inl (ca 7, 10, .inr (.inr (.inr (.inr (va_up (fun _ => none) 0 (some (sa 0))))))))] := hD
  refine lv_dup hx hb d_MM_init_620 rfl ?_
  refine lv_iconst (v := 1) hx hb d_MM_init_621 (by decide) ?_
  refine va_ldcS hx hb hown (hks 1 _ rfl).1 d_MM_init_622 ?_
  refine va_astqM (E := "java/lang/String") hx hb hK.1 hP hD hS 5 7 rfl rfl (any_at (hks 1 _ rfl).2.1 hS (hnA 1 _ rfl)) (by unfold vp_in; decide) d_MM_init_624 ?_
  clear hP hD hS
  intro H locs hP hD hS
  replace hP : va_P (dC, dI) classes [(h0, .inr (0, fs_56)), (q_1, .inr (1, q_2)), (q_3, .inr (2, [.ref q_4, .int 0])), (q_4, .inl (ca 0, 16, .inl (fun _ => 0))), (q_14, .inl (ca 4, 148, .inr (.inr (.inr (.inr (fun _ => none)))))), (q_93, .inl (ca 7, 10, .inr (.inr (.inr (.inr (va_up (va_up (fun _ => none) 0 (some (sa 0))) 1 (some (sa 1))))))))] H := hP
  replace hD : va_D A [(h0, .inr (0, fs_56)), (q_1, .inr (1, q_2)), (q_3, .inr (2, [.ref q_4, .int 0])), (q_4, .inl (ca 0, 16, .inl (fun _ => 0))), (q_14, .inl (ca 4, 148, .inr (.inr (.inr (.inr (fun _ => none)))))), (q_93, .inl (ca 7, 10, .inr (.inr (.inr (.inr (va_up (va_up (fun _ => none) 0 (some (sa 0))) 1 (some (sa 1))))))))] := hD
  refine lv_dup hx hb d_MM_init_625 rfl ?_
  refine lv_iconst (v := 2) hx hb d_MM_init_626 (by decide) ?_
  refine va_ldcS hx hb hown (hks 2 _ rfl).1 d_MM_init_627 ?_
  refine va_astqM (E := "java/lang/String") hx hb hK.1 hP hD hS 5 7 rfl rfl (any_at (hks 2 _ rfl).2.1 hS (hnA 2 _ rfl)) (by unfold vp_in; decide) d_MM_init_629 ?_
  clear hP hD hS
  intro H locs hP hD hS
  replace hP : va_P (dC, dI) classes [(h0, .inr (0, fs_56)), (q_1, .inr (1, q_2)), (q_3, .inr (2, [.ref q_4, .int 0])), (q_4, .inl (ca 0, 16, .inl (fun _ => 0))), (q_14, .inl (ca 4, 148, .inr (.inr (.inr (.inr (fun _ => none)))))), (q_93, .inl (ca 7, 10, .inr (.inr (.inr (.inr (va_up (va_up (va_up (fun _ => none) 0 (some (sa 0))) 1 (some (sa 1))) 2 (some (sa 2))))))))] H := hP
  replace hD : va_D A [(h0, .inr (0, fs_56)), (q_1, .inr (1, q_2)), (q_3, .inr (2, [.ref q_4, .int 0])), (q_4, .inl (ca 0, 16, .inl (fun _ => 0))), (q_14, .inl (ca 4, 148, .inr (.inr (.inr (.inr (fun _ => none)))))), (q_93, .inl (ca 7, 10, .inr (.inr (.inr (.inr (va_up (va_up (va_up (fun _ => none) 0 (some (sa 0))) 1 (some (sa 1))) 2 (some (sa 2))))))))] := hD
  refine lv_dup hx hb d_MM_init_630 rfl ?_
  refine lv_iconst (v := 3) hx hb d_MM_init_631 (by decide) ?_
  refine va_ldcS hx hb hown (hks 3 _ rfl).1 d_MM_init_632 ?_
  refine va_astqM (E := "java/lang/String") hx hb hK.1 hP hD hS 5 7 rfl rfl (any_at (hks 3 _ rfl).2.1 hS (hnA 3 _ rfl)) (by unfold vp_in; decide) d_MM_init_634 ?_
  clear hP hD hS
  intro H locs hP hD hS
  replace hP : va_P (dC, dI) classes [(h0, .inr (0, fs_56)), (q_1, .inr (1, q_2)), (q_3, .inr (2, [.ref q_4, .int 0])), (q_4, .inl (ca 0, 16, .inl (fun _ => 0))), (q_14, .inl (ca 4, 148, .inr (.inr (.inr (.inr (fun _ => none)))))), (q_93, .inl (ca 7, 10, .inr (.inr (.inr (.inr (va_up (va_up (va_up (va_up (fun _ => none) 0 (some (sa 0))) 1 (some (sa 1))) 2 (some (sa 2))) 3 (some (sa 3))))))))] H := hP
  replace hD : va_D A [(h0, .inr (0, fs_56)), (q_1, .inr (1, q_2)), (q_3, .inr (2, [.ref q_4, .int 0])), (q_4, .inl (ca 0, 16, .inl (fun _ => 0))), (q_14, .inl (ca 4, 148, .inr (.inr (.inr (.inr (fun _ => none)))))), (q_93, .inl (ca 7, 10, .inr (.inr (.inr (.inr (va_up (va_up (va_up (va_up (fun _ => none) 0 (some (sa 0))) 1 (some (sa 1))) 2 (some (sa 2))) 3 (some (sa 3))))))))] := hD
  refine lv_dup hx hb d_MM_init_635 rfl ?_
  refine lv_iconst (v := 4) hx hb d_MM_init_636 (by decide) ?_
  refine va_ldcS hx hb hown (hks 4 _ rfl).1 d_MM_init_637 ?_
  refine va_astqM (E := "java/lang/String") hx hb hK.1 hP hD hS 5 7 rfl rfl (any_at (hks 4 _ rfl).2.1 hS (hnA 4 _ rfl)) (by unfold vp_in; decide) d_MM_init_639 ?_
  clear hP hD hS
  intro H locs hP hD hS
  replace hP : va_P (dC, dI) classes [(h0, .inr (0, fs_56)), (q_1, .inr (1, q_2)), (q_3, .inr (2, [.ref q_4, .int 0])), (q_4, .inl (ca 0, 16, .inl (fun _ => 0))), (q_14, .inl (ca 4, 148, .inr (.inr (.inr (.inr (fun _ => none)))))), (q_93, .inl (ca 7, 10, .inr (.inr (.inr (.inr (va_up (va_up (va_up (va_up (va_up (fun _ => none) 0 (some (sa 0))) 1 (some (sa 1))) 2 (some (sa 2))) 3 (some (sa 3))) 4 (some (sa 4))))))))] H := hP
  replace hD : va_D A [(h0, .inr (0, fs_56)), (q_1, .inr (1, q_2)), (q_3, .inr (2, [.ref q_4, .int 0])), (q_4, .inl (ca 0, 16, .inl (fun _ => 0))), (q_14, .inl (ca 4, 148, .inr (.inr (.inr (.inr (fun _ => none)))))), (q_93, .inl (ca 7, 10, .inr (.inr (.inr (.inr (va_up (va_up (va_up (va_up (va_up (fun _ => none) 0 (some (sa 0))) 1 (some (sa 1))) 2 (some (sa 2))) 3 (some (sa 3))) 4 (some (sa 4))))))))] := hD
  refine lv_dup hx hb d_MM_init_640 rfl ?_
  refine lv_iconst (v := 5) hx hb d_MM_init_641 (by decide) ?_
  refine va_ldcS hx hb hown (hks 5 _ rfl).1 d_MM_init_642 ?_
  refine va_astqM (E := "java/lang/String") hx hb hK.1 hP hD hS 5 7 rfl rfl (any_at (hks 5 _ rfl).2.1 hS (hnA 5 _ rfl)) (by unfold vp_in; decide) d_MM_init_644 ?_
  clear hP hD hS
  intro H locs hP hD hS
  replace hP : va_P (dC, dI) classes [(h0, .inr (0, fs_56)), (q_1, .inr (1, q_2)), (q_3, .inr (2, [.ref q_4, .int 0])), (q_4, .inl (ca 0, 16, .inl (fun _ => 0))), (q_14, .inl (ca 4, 148, .inr (.inr (.inr (.inr (fun _ => none)))))), (q_93, .inl (ca 7, 10, .inr (.inr (.inr (.inr (va_up (va_up (va_up (va_up (va_up (va_up (fun _ => none) 0 (some (sa 0))) 1 (some (sa 1))) 2 (some (sa 2))) 3 (some (sa 3))) 4 (some (sa 4))) 5 (some (sa 5))))))))] H := hP
  replace hD : va_D A [(h0, .inr (0, fs_56)), (q_1, .inr (1, q_2)), (q_3, .inr (2, [.ref q_4, .int 0])), (q_4, .inl (ca 0, 16, .inl (fun _ => 0))), (q_14, .inl (ca 4, 148, .inr (.inr (.inr (.inr (fun _ => none)))))), (q_93, .inl (ca 7, 10, .inr (.inr (.inr (.inr (va_up (va_up (va_up (va_up (va_up (va_up (fun _ => none) 0 (some (sa 0))) 1 (some (sa 1))) 2 (some (sa 2))) 3 (some (sa 3))) 4 (some (sa 4))) 5 (some (sa 5))))))))] := hD
  refine lv_dup hx hb d_MM_init_645 rfl ?_
  refine lv_bipush (v := 6) hx hb d_MM_init_646 (by decide +kernel) ?_
  refine va_ldcS hx hb hown (hks 6 _ rfl).1 d_MM_init_648 ?_
  refine va_astqM (E := "java/lang/String") hx hb hK.1 hP hD hS 5 7 rfl rfl (any_at (hks 6 _ rfl).2.1 hS (hnA 6 _ rfl)) (by unfold vp_in; decide) d_MM_init_650 ?_
  clear hP hD hS
  intro H locs hP hD hS
  replace hP : va_P (dC, dI) classes [(h0, .inr (0, fs_56)), (q_1, .inr (1, q_2)), (q_3, .inr (2, [.ref q_4, .int 0])), (q_4, .inl (ca 0, 16, .inl (fun _ => 0))), (q_14, .inl (ca 4, 148, .inr (.inr (.inr (.inr (fun _ => none)))))), (q_93, .inl (ca 7, 10, .inr (.inr (.inr (.inr (va_up (va_up (va_up (va_up (va_up (va_up (va_up (fun _ => none) 0 (some (sa 0))) 1 (some (sa 1))) 2 (some (sa 2))) 3 (some (sa 3))) 4 (some (sa 4))) 5 (some (sa 5))) 6 (some (sa 6))))))))] H := hP
  replace hD : va_D A [(h0, .inr (0, fs_56)), (q_1, .inr (1, q_2)), (q_3, .inr (2, [.ref q_4, .int 0])), (q_4, .inl (ca 0, 16, .inl (fun _ => 0))), (q_14, .inl (ca 4, 148, .inr (.inr (.inr (.inr (fun _ => none)))))), (q_93, .inl (ca 7, 10, .inr (.inr (.inr (.inr (va_up (va_up (va_up (va_up (va_up (va_up (va_up (fun _ => none) 0 (some (sa 0))) 1 (some (sa 1))) 2 (some (sa 2))) 3 (some (sa 3))) 4 (some (sa 4))) 5 (some (sa 5))) 6 (some (sa 6))))))))] := hD
  refine lv_dup hx hb d_MM_init_651 rfl ?_
  refine lv_bipush (v := 7) hx hb d_MM_init_652 (by decide +kernel) ?_
  refine va_ldcS hx hb hown (hks 7 _ rfl).1 d_MM_init_654 ?_
  refine va_astqM (E := "java/lang/String") hx hb hK.1 hP hD hS 5 7 rfl rfl (any_at (hks 7 _ rfl).2.1 hS (hnA 7 _ rfl)) (by unfold vp_in; decide) d_MM_init_656 ?_
  clear hP hD hS
  intro H locs hP hD hS
  replace hP : va_P (dC, dI) classes [(h0, .inr (0, fs_56)), (q_1, .inr (1, q_2)), (q_3, .inr (2, [.ref q_4, .int 0])), (q_4, .inl (ca 0, 16, .inl (fun _ => 0))), (q_14, .inl (ca 4, 148, .inr (.inr (.inr (.inr (fun _ => none)))))), (q_93, .inl (ca 7, 10, .inr (.inr (.inr (.inr (va_up (va_up (va_up (va_up (va_up (va_up (va_up (va_up (fun _ => none) 0 (some (sa 0))) 1 (some (sa 1))) 2 (some (sa 2))) 3 (some (sa 3))) 4 (some (sa 4))) 5 (some (sa 5))) 6 (some (sa 6))) 7 (some (sa 7))))))))] H := hP
  replace hD : va_D A [(h0, .inr (0, fs_56)), (q_1, .inr (1, q_2)), (q_3, .inr (2, [.ref q_4, .int 0])), (q_4, .inl (ca 0, 16, .inl (fun _ => 0))), (q_14, .inl (ca 4, 148, .inr (.inr (.inr (.inr (fun _ => none)))))), (q_93, .inl (ca 7, 10, .inr (.inr (.inr (.inr (va_up (va_up (va_up (va_up (va_up (va_up (va_up (va_up (fun _ => none) 0 (some (sa 0))) 1 (some (sa 1))) 2 (some (sa 2))) 3 (some (sa 3))) 4 (some (sa 4))) 5 (some (sa 5))) 6 (some (sa 6))) 7 (some (sa 7))))))))] := hD
  refine lv_dup hx hb d_MM_init_657 rfl ?_
  refine lv_bipush (v := 8) hx hb d_MM_init_658 (by decide +kernel) ?_
  refine va_ldcS hx hb hown (hks 8 _ rfl).1 d_MM_init_660 ?_
  refine va_astqM (E := "java/lang/String") hx hb hK.1 hP hD hS 5 7 rfl rfl (any_at (hks 8 _ rfl).2.1 hS (hnA 8 _ rfl)) (by unfold vp_in; decide) d_MM_init_662 ?_
  clear hP hD hS
  intro H locs hP hD hS
  replace hP : va_P (dC, dI) classes [(h0, .inr (0, fs_56)), (q_1, .inr (1, q_2)), (q_3, .inr (2, [.ref q_4, .int 0])), (q_4, .inl (ca 0, 16, .inl (fun _ => 0))), (q_14, .inl (ca 4, 148, .inr (.inr (.inr (.inr (fun _ => none)))))), (q_93, .inl (ca 7, 10, .inr (.inr (.inr (.inr (va_up (va_up (va_up (va_up (va_up (va_up (va_up (va_up (va_up (fun _ => none) 0 (some (sa 0))) 1 (some (sa 1))) 2 (some (sa 2))) 3 (some (sa 3))) 4 (some (sa 4))) 5 (some (sa 5))) 6 (some (sa 6))) 7 (some (sa 7))) 8 (some (sa 8))))))))] H := hP
  replace hD : va_D A [(h0, .inr (0, fs_56)), (q_1, .inr (1, q_2)), (q_3, .inr (2, [.ref q_4, .int 0])), (q_4, .inl (ca 0, 16, .inl (fun _ => 0))), (q_14, .inl (ca 4, 148, .inr (.inr (.inr (.inr (fun _ => none)))))), (q_93, .inl (ca 7, 10, .inr (.inr (.inr (.inr (va_up (va_up (va_up (va_up (va_up (va_up (va_up (va_up (va_up (fun _ => none) 0 (some (sa 0))) 1 (some (sa 1))) 2 (some (sa 2))) 3 (some (sa 3))) 4 (some (sa 4))) 5 (some (sa 5))) 6 (some (sa 6))) 7 (some (sa 7))) 8 (some (sa 8))))))))] := hD
  refine lv_dup hx hb d_MM_init_663 rfl ?_
  refine lv_bipush (v := 9) hx hb d_MM_init_664 (by decide +kernel) ?_
  refine va_ldcS hx hb hown (hks 9 _ rfl).1 d_MM_init_666 ?_
  refine va_astqM (E := "java/lang/String") hx hb hK.1 hP hD hS 5 7 rfl rfl (any_at (hks 9 _ rfl).2.1 hS (hnA 9 _ rfl)) (by unfold vp_in; decide) d_MM_init_668 ?_
  clear hP hD hS
  intro H locs hP hD hS
  replace hP : va_P (dC, dI) classes [(h0, .inr (0, fs_56)), (q_1, .inr (1, q_2)), (q_3, .inr (2, [.ref q_4, .int 0])), (q_4, .inl (ca 0, 16, .inl (fun _ => 0))), (q_14, .inl (ca 4, 148, .inr (.inr (.inr (.inr (fun _ => none)))))), (q_93, .inl (ca 7, 10, .inr (.inr (.inr (.inr (va_up (va_up (va_up (va_up (va_up (va_up (va_up (va_up (va_up (va_up (fun _ => none) 0 (some (sa 0))) 1 (some (sa 1))) 2 (some (sa 2))) 3 (some (sa 3))) 4 (some (sa 4))) 5 (some (sa 5))) 6 (some (sa 6))) 7 (some (sa 7))) 8 (some (sa 8))) 9 (some (sa 9))))))))] H := hP
  replace hD : va_D A [(h0, .inr (0, fs_56)), (q_1, .inr (1, q_2)), (q_3, .inr (2, [.ref q_4, .int 0])), (q_4, .inl (ca 0, 16, .inl (fun _ => 0))), (q_14, .inl (ca 4, 148, .inr (.inr (.inr (.inr (fun _ => none)))))), (q_93, .inl (ca 7, 10, .inr (.inr (.inr (.inr (va_up (va_up (va_up (va_up (va_up (va_up (va_up (va_up (va_up (va_up (fun _ => none) 0 (some (sa 0))) 1 (some (sa 1))) 2 (some (sa 2))) 3 (some (sa 3))) 4 (some (sa 4))) 5 (some (sa 5))) 6 (some (sa 6))) 7 (some (sa 7))) 8 (some (sa 8))) 9 (some (sa 9))))))))] := hD
  replace hP := hP.sub (ws' := [(h0, .inr (0, fs_56)), (q_1, .inr (1, q_2)), (q_3, .inr (2, [.ref q_4, .int 0])), (q_4, .inl (ca 0, 16, .inl (fun _ => 0))), (q_14, .inl (ca 4, 148, .inr (.inr (.inr (.inr (fun _ => none))))))]) [0, 1, 2, 3, 4] rfl
  replace hD := hD.sub (ws' := [(h0, .inr (0, fs_56)), (q_1, .inr (1, q_2)), (q_3, .inr (2, [.ref q_4, .int 0])), (q_4, .inl (ca 0, 16, .inl (fun _ => 0))), (q_14, .inl (ca 4, 148, .inr (.inr (.inr (.inr (fun _ => none))))))]) [0, 1, 2, 3, 4] (by decide) rfl
  refine m_put M (fs := fs_56) (wt := [(q_1, .inr (1, q_2)), (q_3, .inr (2, [.ref q_4, .int 0])), (q_4, .inl (ca 0, 16, .inl (fun _ => 0))), (q_14, .inl (ca 4, 148, .inr (.inr (.inr (.inr (fun _ => none))))))]) (k := 78) (ty := .array (.object "java/lang/String")) hP hD hS hlen (by decide) xm_138 rfl rfl (by decide +kernel) rfl rfl d_MM_init_669 ?_
  clear hP hD hS hlen
  intro H locs hlen hP hD hS
  obtain ⟨fs_57, e_57⟩ : ∃ z, z = fs_56.set 78 (.ref q_93) := ⟨_, rfl⟩
  rw [← e_57] at hP hD hlen
  replace hP : va_P (dC, dI) classes [(h0, .inr (0, fs_57)), (q_1, .inr (1, q_2)), (q_3, .inr (2, [.ref q_4, .int 0])), (q_4, .inl (ca 0, 16, .inl (fun _ => 0))), (q_14, .inl (ca 4, 148, .inr (.inr (.inr (.inr (fun _ => none))))))] H := hP
  replace hD : va_D A [(h0, .inr (0, fs_57)), (q_1, .inr (1, q_2)), (q_3, .inr (2, [.ref q_4, .int 0])), (q_4, .inl (ca 0, 16, .inl (fun _ => 0))), (q_14, .inl (ca 4, 148, .inr (.inr (.inr (.inr (fun _ => none))))))] := hD
  refine lv_aload_n hx hb d_MM_init_672 rfl (lv_at hl 0 rfl) ?_
  refine lv_bipush (v := 6) hx hb d_MM_init_673 (by decide +kernel) ?_
  refine ax_newqK (n := 6) (N' := 6) hx hb hown (hts _ xm_71) (hK.2.2 _ (List.mem_of_getElem? (i := 1) rfl)) hK.1 7 rfl hP hD hS hA (by decide +kernel) (by decide +kernel) (by decide +kernel) (Nat.le_of_ble_eq_true rfl) (Nat.le_of_ble_eq_true rfl) d_MM_init_675 ?_
  clear hP hD hS
  intro q_94 H hP hD hS
  replace hP : va_P (dC, dI) classes [(h0, .inr (0, fs_57)), (q_1, .inr (1, q_2)), (q_3, .inr (2, [.ref q_4, .int 0])), (q_4, .inl (ca 0, 16, .inl (fun _ => 0))), (q_14, .inl (ca 4, 148, .inr (.inr (.inr (.inr (fun _ => none)))))), (q_94, .inl (ca 7, 6, .inr (.inr (.inr (.inr (fun _ => none))))))] H := hP
  replace hD : va_D A [(h0, .inr (0, fs_57)), (q_1, .inr (1, q_2)), (q_3, .inr (2, [.ref q_4, .int 0])), (q_4, .inl (ca 0, 16, .inl (fun _ => 0))), (q_14, .inl (ca 4, 148, .inr (.inr (.inr (.inr (fun _ => none)))))), (q_94, .inl (ca 7, 6, .inr (.inr (.inr (.inr (fun _ => none))))))] := hD
  refine W.widen (k := 112) (n := 524986) (Nat.le_of_ble_eq_true rfl) (Nat.le_of_ble_eq_true rfl) ?_
  refine lv_dup hx hb d_MM_init_678 rfl ?_
  refine lv_iconst (v := 0) hx hb d_MM_init_679 (by decide) ?_
  refine va_ldcS hx hb hown (hks 10 _ rfl).1 d_MM_init_680 ?_
  refine va_astqM (E := "java/lang/String") hx hb hK.1 hP hD hS 5 7 rfl rfl (any_at (hks 10 _ rfl).2.1 hS (hnA 10 _ rfl)) (by unfold vp_in; decide) d_MM_init_682 ?_
  clear hP hD hS
  intro H locs hP hD hS
  replace hP : va_P (dC, dI) classes [(h0, .inr (0, fs_57)), (q_1, .inr (1, q_2)), (q_3, .inr (2, [.ref q_4, .int 0])), (q_4, .inl (ca 0, 16, .inl (fun _ => 0))), (q_14, .inl (ca 4, 148, .inr (.inr (.inr (.inr (fun _ => none)))))), (q_94, .inl (ca 7, 6, .inr (.inr (.inr (.inr (va_up (fun _ => none) 0 (some (sa 10))))))))] H := hP
  replace hD : va_D A [(h0, .inr (0, fs_57)), (q_1, .inr (1, q_2)), (q_3, .inr (2, [.ref q_4, .int 0])), (q_4, .inl (ca 0, 16, .inl (fun _ => 0))), (q_14, .inl (ca 4, 148, .inr (.inr (.inr (.inr (fun _ => none)))))), (q_94, .inl (ca 7, 6, .inr (.inr (.inr (.inr (va_up (fun _ => none) 0 (some (sa 10))))))))] := hD
  refine lv_dup hx hb d_MM_init_683 rfl ?_
  refine lv_iconst (v := 1) hx hb d_MM_init_684 (by decide) ?_
  refine va_ldcS hx hb hown (hks 11 _ rfl).1 d_MM_init_685 ?_
  refine va_astqM (E := "java/lang/String") hx hb hK.1 hP hD hS 5 7 rfl rfl (any_at (hks 11 _ rfl).2.1 hS (hnA 11 _ rfl)) (by unfold vp_in; decide) d_MM_init_687 ?_
  clear hP hD hS
  intro H locs hP hD hS
  replace hP : va_P (dC, dI) classes [(h0, .inr (0, fs_57)), (q_1, .inr (1, q_2)), (q_3, .inr (2, [.ref q_4, .int 0])), (q_4, .inl (ca 0, 16, .inl (fun _ => 0))), (q_14, .inl (ca 4, 148, .inr (.inr (.inr (.inr (fun _ => none)))))), (q_94, .inl (ca 7, 6, .inr (.inr (.inr (.inr (va_up (va_up (fun _ => none) 0 (some (sa 10))) 1 (some (sa 11))))))))] H := hP
  replace hD : va_D A [(h0, .inr (0, fs_57)), (q_1, .inr (1, q_2)), (q_3, .inr (2, [.ref q_4, .int 0])), (q_4, .inl (ca 0, 16, .inl (fun _ => 0))), (q_14, .inl (ca 4, 148, .inr (.inr (.inr (.inr (fun _ => none)))))), (q_94, .inl (ca 7, 6, .inr (.inr (.inr (.inr (va_up (va_up (fun _ => none) 0 (some (sa 10))) 1 (some (sa 11))))))))] := hD
  refine lv_dup hx hb d_MM_init_688 rfl ?_
  refine lv_iconst (v := 2) hx hb d_MM_init_689 (by decide) ?_
  refine va_ldcS hx hb hown (hks 12 _ rfl).1 d_MM_init_690 ?_
  refine va_astqM (E := "java/lang/String") hx hb hK.1 hP hD hS 5 7 rfl rfl (any_at (hks 12 _ rfl).2.1 hS (hnA 12 _ rfl)) (by unfold vp_in; decide) d_MM_init_692 ?_
  clear hP hD hS
  intro H locs hP hD hS
  replace hP : va_P (dC, dI) classes [(h0, .inr (0, fs_57)), (q_1, .inr (1, q_2)), (q_3, .inr (2, [.ref q_4, .int 0])), (q_4, .inl (ca 0, 16, .inl (fun _ => 0))), (q_14, .inl (ca 4, 148, .inr (.inr (.inr (.inr (fun _ => none)))))), (q_94, .inl (ca 7, 6, .inr (.inr (.inr (.inr (va_up (va_up (va_up (fun _ => none) 0 (some (sa 10))) 1 (some (sa 11))) 2 (some (sa 12))))))))] H := hP
  replace hD : va_D A [(h0, .inr (0, fs_57)), (q_1, .inr (1, q_2)), (q_3, .inr (2, [.ref q_4, .int 0])), (q_4, .inl (ca 0, 16, .inl (fun _ => 0))), (q_14, .inl (ca 4, 148, .inr (.inr (.inr (.inr (fun _ => none)))))), (q_94, .inl (ca 7, 6, .inr (.inr (.inr (.inr (va_up (va_up (va_up (fun _ => none) 0 (some (sa 10))) 1 (some (sa 11))) 2 (some (sa 12))))))))] := hD
  refine lv_dup hx hb d_MM_init_693 rfl ?_
  refine lv_iconst (v := 3) hx hb d_MM_init_694 (by decide) ?_
  refine va_ldcS hx hb hown (hks 13 _ rfl).1 d_MM_init_695 ?_
  refine va_astqM (E := "java/lang/String") hx hb hK.1 hP hD hS 5 7 rfl rfl (any_at (hks 13 _ rfl).2.1 hS (hnA 13 _ rfl)) (by unfold vp_in; decide) d_MM_init_697 ?_
  clear hP hD hS
  intro H locs hP hD hS
  replace hP : va_P (dC, dI) classes [(h0, .inr (0, fs_57)), (q_1, .inr (1, q_2)), (q_3, .inr (2, [.ref q_4, .int 0])), (q_4, .inl (ca 0, 16, .inl (fun _ => 0))), (q_14, .inl (ca 4, 148, .inr (.inr (.inr (.inr (fun _ => none)))))), (q_94, .inl (ca 7, 6, .inr (.inr (.inr (.inr (va_up (va_up (va_up (va_up (fun _ => none) 0 (some (sa 10))) 1 (some (sa 11))) 2 (some (sa 12))) 3 (some (sa 13))))))))] H := hP
  replace hD : va_D A [(h0, .inr (0, fs_57)), (q_1, .inr (1, q_2)), (q_3, .inr (2, [.ref q_4, .int 0])), (q_4, .inl (ca 0, 16, .inl (fun _ => 0))), (q_14, .inl (ca 4, 148, .inr (.inr (.inr (.inr (fun _ => none)))))), (q_94, .inl (ca 7, 6, .inr (.inr (.inr (.inr (va_up (va_up (va_up (va_up (fun _ => none) 0 (some (sa 10))) 1 (some (sa 11))) 2 (some (sa 12))) 3 (some (sa 13))))))))] := hD
  refine lv_dup hx hb d_MM_init_698 rfl ?_
  refine lv_iconst (v := 4) hx hb d_MM_init_699 (by decide) ?_
  refine va_ldcS hx hb hown (hks 14 _ rfl).1 d_MM_init_700 ?_
  refine va_astqM (E := "java/lang/String") hx hb hK.1 hP hD hS 5 7 rfl rfl (any_at (hks 14 _ rfl).2.1 hS (hnA 14 _ rfl)) (by unfold vp_in; decide) d_MM_init_702 ?_
  clear hP hD hS
  intro H locs hP hD hS
  replace hP : va_P (dC, dI) classes [(h0, .inr (0, fs_57)), (q_1, .inr (1, q_2)), (q_3, .inr (2, [.ref q_4, .int 0])), (q_4, .inl (ca 0, 16, .inl (fun _ => 0))), (q_14, .inl (ca 4, 148, .inr (.inr (.inr (.inr (fun _ => none)))))), (q_94, .inl (ca 7, 6, .inr (.inr (.inr (.inr (va_up (va_up (va_up (va_up (va_up (fun _ => none) 0 (some (sa 10))) 1 (some (sa 11))) 2 (some (sa 12))) 3 (some (sa 13))) 4 (some (sa 14))))))))] H := hP
  replace hD : va_D A [(h0, .inr (0, fs_57)), (q_1, .inr (1, q_2)), (q_3, .inr (2, [.ref q_4, .int 0])), (q_4, .inl (ca 0, 16, .inl (fun _ => 0))), (q_14, .inl (ca 4, 148, .inr (.inr (.inr (.inr (fun _ => none)))))), (q_94, .inl (ca 7, 6, .inr (.inr (.inr (.inr (va_up (va_up (va_up (va_up (va_up (fun _ => none) 0 (some (sa 10))) 1 (some (sa 11))) 2 (some (sa 12))) 3 (some (sa 13))) 4 (some (sa 14))))))))] := hD
  refine lv_dup hx hb d_MM_init_703 rfl ?_
  refine lv_iconst (v := 5) hx hb d_MM_init_704 (by decide) ?_
  refine va_ldcS hx hb hown (hks 15 _ rfl).1 d_MM_init_705 ?_
  refine va_astqM (E := "java/lang/String") hx hb hK.1 hP hD hS 5 7 rfl rfl (any_at (hks 15 _ rfl).2.1 hS (hnA 15 _ rfl)) (by unfold vp_in; decide) d_MM_init_707 ?_
  clear hP hD hS
  intro H locs hP hD hS
  replace hP : va_P (dC, dI) classes [(h0, .inr (0, fs_57)), (q_1, .inr (1, q_2)), (q_3, .inr (2, [.ref q_4, .int 0])), (q_4, .inl (ca 0, 16, .inl (fun _ => 0))), (q_14, .inl (ca 4, 148, .inr (.inr (.inr (.inr (fun _ => none)))))), (q_94, .inl (ca 7, 6, .inr (.inr (.inr (.inr (va_up (va_up (va_up (va_up (va_up (va_up (fun _ => none) 0 (some (sa 10))) 1 (some (sa 11))) 2 (some (sa 12))) 3 (some (sa 13))) 4 (some (sa 14))) 5 (some (sa 15))))))))] H := hP
  replace hD : va_D A [(h0, .inr (0, fs_57)), (q_1, .inr (1, q_2)), (q_3, .inr (2, [.ref q_4, .int 0])), (q_4, .inl (ca 0, 16, .inl (fun _ => 0))), (q_14, .inl (ca 4, 148, .inr (.inr (.inr (.inr (fun _ => none)))))), (q_94, .inl (ca 7, 6, .inr (.inr (.inr (.inr (va_up (va_up (va_up (va_up (va_up (va_up (fun _ => none) 0 (some (sa 10))) 1 (some (sa 11))) 2 (some (sa 12))) 3 (some (sa 13))) 4 (some (sa 14))) 5 (some (sa 15))))))))] := hD
  replace hP := hP.sub (ws' := [(h0, .inr (0, fs_57)), (q_1, .inr (1, q_2)), (q_3, .inr (2, [.ref q_4, .int 0])), (q_4, .inl (ca 0, 16, .inl (fun _ => 0))), (q_14, .inl (ca 4, 148, .inr (.inr (.inr (.inr (fun _ => none))))))]) [0, 1, 2, 3, 4] rfl
  replace hD := hD.sub (ws' := [(h0, .inr (0, fs_57)), (q_1, .inr (1, q_2)), (q_3, .inr (2, [.ref q_4, .int 0])), (q_4, .inl (ca 0, 16, .inl (fun _ => 0))), (q_14, .inl (ca 4, 148, .inr (.inr (.inr (.inr (fun _ => none))))))]) [0, 1, 2, 3, 4] (by decide) rfl
  refine m_put M (fs := fs_57) (wt := [(q_1, .inr (1, q_2)), (q_3, .inr (2, [.ref q_4, .int 0])), (q_4, .inl (ca 0, 16, .inl (fun _ => 0))), (q_14, .inl (ca 4, 148, .inr (.inr (.inr (.inr (fun _ => none))))))]) (k := 80) (ty := .array (.object "java/lang/String")) hP hD hS hlen (by decide) xm_139 rfl rfl (by decide +kernel) rfl rfl d_MM_init_708 ?_
  clear hP hD hS hlen
  intro H locs hlen hP hD hS
  obtain ⟨fs_58, e_58⟩ : ∃ z, z = fs_57.set 80 (.ref q_94) := ⟨_, rfl⟩
  rw [← e_58] at hP hD hlen
  replace hP : va_P (dC, dI) classes [(h0, .inr (0, fs_58)), (q_1, .inr (1, q_2)), (q_3, .inr (2, [.ref q_4, .int 0])), (q_4, .inl (ca 0, 16, .inl (fun _ => 0))), (q_14, .inl (ca 4, 148, .inr (.inr (.inr (.inr (fun _ => none))))))] H := hP
  replace hD : va_D A [(h0, .inr (0, fs_58)), (q_1, .inr (1, q_2)), (q_3, .inr (2, [.ref q_4, .int 0])), (q_4, .inl (ca 0, 16, .inl (fun _ => 0))), (q_14, .inl (ca 4, 148, .inr (.inr (.inr (.inr (fun _ => none))))))] := hD
  refine lv_aload_n hx hb d_MM_init_711 rfl (lv_at hl 0 rfl) ?_
  refine lv_bipush (v := 64) hx hb d_MM_init_712 (by decide +kernel) ?_
  refine m_arr M (atype := .int) (ty := .int) (fs := fs_58) (wt := [(q_1, .inr (1, q_2)), (q_3, .inr (2, [.ref q_4, .int 0])), (q_4, .inl (ca 0, 16, .inl (fun _ => 0))), (q_14, .inl (ca 4, 148, .inr (.inr (.inr (.inr (fun _ => none))))))]) (t0 := 1) (n := 64) (N' := 64) (k := 90) (tf := .array (.int)) (a0 := (64, .inl (fun _ => 0))) hP hD hS hlen rfl xm_11 rfl (fun C h => by cases h) (m_a_int 64) (by decide +kernel) (by decide +kernel) (by decide +kernel) (by decide) xm_140 rfl rfl (by decide +kernel) (fun _ => rfl) (fun _ => rfl) (Nat.le_of_ble_eq_true rfl) (Nat.le_of_ble_eq_true rfl) d_MM_init_714 d_MM_init_716 ?_
  clear hP hD hS hlen
  intro q_95 H locs hlen hP hD hS
  obtain ⟨fs_59, e_59⟩ : ∃ z, z = fs_58.set 90 (.ref q_95) := ⟨_, rfl⟩
  rw [← e_59] at hP hD hlen
  replace hP : va_P (dC, dI) classes [(h0, .inr (0, fs_59)), (q_1, .inr (1, q_2)), (q_3, .inr (2, [.ref q_4, .int 0])), (q_4, .inl (ca 0, 16, .inl (fun _ => 0))), (q_14, .inl (ca 4, 148, .inr (.inr (.inr (.inr (fun _ => none))))))] H := hP
  replace hD : va_D A [(h0, .inr (0, fs_59)), (q_1, .inr (1, q_2)), (q_3, .inr (2, [.ref q_4, .int 0])), (q_4, .inl (ca 0, 16, .inl (fun _ => 0))), (q_14, .inl (ca 4, 148, .inr (.inr (.inr (.inr (fun _ => none))))))] := hD
  refine W.widen (k := 113) (n := 525050) (Nat.le_of_ble_eq_true rfl) (Nat.le_of_ble_eq_true rfl) ?_
  refine lv_aload_n hx hb d_MM_init_719 rfl (lv_at hl 0 rfl) ?_
  refine lv_bipush (v := 64) hx hb d_MM_init_720 (by decide +kernel) ?_
  refine m_arr M (atype := .int) (ty := .int) (fs := fs_59) (wt := [(q_1, .inr (1, q_2)), (q_3, .inr (2, [.ref q_4, .int 0])), (q_4, .inl (ca 0, 16, .inl (fun _ => 0))), (q_14, .inl (ca 4, 148, .inr (.inr (.inr (.inr (fun _ => none))))))]) (t0 := 1) (n := 64) (N' := 64) (k := 91) (tf := .array (.int)) (a0 := (64, .inl (fun _ => 0))) hP hD hS hlen rfl xm_11 rfl (fun C h => by cases h) (m_a_int 64) (by decide +kernel) (by decide +kernel) (by decide +kernel) (by decide) xm_141 rfl rfl (by decide +kernel) (fun _ => rfl) (fun _ => rfl) (Nat.le_of_ble_eq_true rfl) (Nat.le_of_ble_eq_true rfl) d_MM_init_722 d_MM_init_724 ?_
  clear hP hD hS hlen
  intro q_96 H locs hlen hP hD hS
  obtain ⟨fs_60, e_60⟩ : ∃ z, z = fs_59.set 91 (.ref q_96) := ⟨_, rfl⟩
  rw [← e_60] at hP hD hlen
  replace hP : va_P (dC, dI) classes [(h0, .inr (0, fs_60)), (q_1, .inr (1, q_2)), (q_3, .inr (2, [.ref q_4, .int 0])), (q_4, .inl (ca 0, 16, .inl (fun _ => 0))), (q_14, .inl (ca 4, 148, .inr (.inr (.inr (.inr (fun _ => none))))))] H := hP
  replace hD : va_D A [(h0, .inr (0, fs_60)), (q_1, .inr (1, q_2)), (q_3, .inr (2, [.ref q_4, .int 0])), (q_4, .inl (ca 0, 16, .inl (fun _ => 0))), (q_14, .inl (ca 4, 148, .inr (.inr (.inr (.inr (fun _ => none))))))] := hD
  refine W.widen (k := 114) (n := 525114) (Nat.le_of_ble_eq_true rfl) (Nat.le_of_ble_eq_true rfl) ?_
  refine lv_aload_n hx hb d_MM_init_727 rfl (lv_at hl 0 rfl) ?_
  refine lv_bipush (v := 80) hx hb d_MM_init_728 (by decide +kernel) ?_
  refine m_arr M (atype := .int) (ty := .int) (fs := fs_60) (wt := [(q_1, .inr (1, q_2)), (q_3, .inr (2, [.ref q_4, .int 0])), (q_4, .inl (ca 0, 16, .inl (fun _ => 0))), (q_14, .inl (ca 4, 148, .inr (.inr (.inr (.inr (fun _ => none))))))]) (t0 := 1) (n := 80) (N' := 80) (k := 93) (tf := .array (.int)) (a0 := (80, .inl (fun _ => 0))) hP hD hS hlen rfl xm_11 rfl (fun C h => by cases h) (m_a_int 80) (by decide +kernel) (by decide +kernel) (by decide +kernel) (by decide) xm_142 rfl rfl (by decide +kernel) (fun _ => rfl) (fun _ => rfl) (Nat.le_of_ble_eq_true rfl) (Nat.le_of_ble_eq_true rfl) d_MM_init_730 d_MM_init_732 ?_
  clear hP hD hS hlen
  intro q_97 H locs hlen hP hD hS
  obtain ⟨fs_61, e_61⟩ : ∃ z, z = fs_60.set 93 (.ref q_97) := ⟨_, rfl⟩
  rw [← e_61] at hP hD hlen
  replace hP : va_P (dC, dI) classes [(h0, .inr (0, fs_61)), (q_1, .inr (1, q_2)), (q_3, .inr (2, [.ref q_4, .int 0])), (q_4, .inl (ca 0, 16, .inl (fun _ => 0))), (q_14, .inl (ca 4, 148, .inr (.inr (.inr (.inr (fun _ => none))))))] H := hP
  replace hD : va_D A [(h0, .inr (0, fs_61)), (q_1, .inr (1, q_2)), (q_3, .inr (2, [.ref q_4, .int 0])), (q_4, .inl (ca 0, 16, .inl (fun _ => 0))), (q_14, .inl (ca 4, 148, .inr (.inr (.inr (.inr (fun _ => none))))))] := hD
  refine W.widen (k := 115) (n := 525194) (Nat.le_of_ble_eq_true rfl) (Nat.le_of_ble_eq_true rfl) ?_
  refine lv_aload_n hx hb d_MM_init_735 rfl (lv_at hl 0 rfl) ?_
  refine lv_bipush (v := 80) hx hb d_MM_init_736 (by decide +kernel) ?_
  refine m_arr M (atype := .boolean) (ty := .boolean) (fs := fs_61) (wt := [(q_1, .inr (1, q_2)), (q_3, .inr (2, [.ref q_4, .int 0])), (q_4, .inl (ca 0, 16, .inl (fun _ => 0))), (q_14, .inl (ca 4, 148, .inr (.inr (.inr (.inr (fun _ => none))))))]) (t0 := 3) (n := 80) (N' := 80) (k := 94) (tf := .array (.boolean)) (a0 := (80, .inl (fun _ => 0))) hP hD hS hlen rfl xm_174 rfl (fun C h => by cases h) (m_a_boolean 80) (by decide +kernel) (by decide +kernel) (by decide +kernel) (by decide) xm_143 rfl rfl (by decide +kernel) (fun _ => rfl) (fun _ => rfl) (Nat.le_of_ble_eq_true rfl) (Nat.le_of_ble_eq_true rfl) d_MM_init_738 d_MM_init_740 ?_
  clear hP hD hS hlen
  intro q_98 H locs hlen hP hD hS
  obtain ⟨fs_62, e_62⟩ : ∃ z, z = fs_61.set 94 (.ref q_98) := ⟨_, rfl⟩
  rw [← e_62] at hP hD hlen
  replace hP : va_P (dC, dI) classes [(h0, .inr (0, fs_62)), (q_1, .inr (1, q_2)), (q_3, .inr (2, [.ref q_4, .int 0])), (q_4, .inl (ca 0, 16, .inl (fun _ => 0))), (q_14, .inl (ca 4, 148, .inr (.inr (.inr (.inr (fun _ => none))))))] H := hP
  replace hD : va_D A [(h0, .inr (0, fs_62)), (q_1, .inr (1, q_2)), (q_3, .inr (2, [.ref q_4, .int 0])), (q_4, .inl (ca 0, 16, .inl (fun _ => 0))), (q_14, .inl (ca 4, 148, .inr (.inr (.inr (.inr (fun _ => none))))))] := hD
  refine W.widen (k := 116) (n := 525274) (Nat.le_of_ble_eq_true rfl) (Nat.le_of_ble_eq_true rfl) ?_
  refine lv_aload_n hx hb d_MM_init_743 rfl (lv_at hl 0 rfl) ?_
  refine lv_bipush (v := 80) hx hb d_MM_init_744 (by decide +kernel) ?_
  refine m_arr M (atype := .int) (ty := .int) (fs := fs_62) (wt := [(q_1, .inr (1, q_2)), (q_3, .inr (2, [.ref q_4, .int 0])), (q_4, .inl (ca 0, 16, .inl (fun _ => 0))), (q_14, .inl (ca 4, 148, .inr (.inr (.inr (.inr (fun _ => none))))))]) (t0 := 1) (n := 80) (N' := 80) (k := 95) (tf := .array (.int)) (a0 := (80, .inl (fun _ => 0))) hP hD hS hlen rfl xm_11 rfl (fun C h => by cases h) (m_a_int 80) (by decide +kernel) (by decide +kernel) (by decide +kernel) (by decide) xm_144 rfl rfl (by decide +kernel) (fun _ => rfl) (fun _ => rfl) (Nat.le_of_ble_eq_true rfl) (Nat.le_of_ble_eq_true rfl) d_MM_init_746 d_MM_init_748 ?_
  clear hP hD hS hlen
  intro q_99 H locs hlen hP hD hS
  obtain ⟨fs_63, e_63⟩ : ∃ z, z = fs_62.set 95 (.ref q_99) := ⟨_, rfl⟩
  rw [← e_63] at hP hD hlen
  replace hP : va_P (dC, dI) classes [(h0, .inr (0, fs_63)), (q_1, .inr (1, q_2)), (q_3, .inr (2, [.ref q_4, .int 0])), (q_4, .inl (ca 0, 16, .inl (fun _ => 0))), (q_14, .inl (ca 4, 148, .inr (.inr (.inr (.inr (fun _ => none))))))] H := hP
  replace hD : va_D A [(h0, .inr (0, fs_63)), (q_1, .inr (1, q_2)), (q_3, .inr (2, [.ref q_4, .int 0])), (q_4, .inl (ca 0, 16, .inl (fun _ => 0))), (q_14, .inl (ca 4, 148, .inr (.inr (.inr (.inr (fun _ => none))))))] := hD
  refine W.widen (k := 117) (n := 525354) (Nat.le_of_ble_eq_true rfl) (Nat.le_of_ble_eq_true rfl) ?_
  refine lv_aload_n hx hb d_MM_init_751 rfl (lv_at hl 0 rfl) ?_
  refine lv_bipush (v := 80) hx hb d_MM_init_752 (by decide +kernel) ?_
  refine m_arr M (atype := .int) (ty := .int) (fs := fs_63) (wt := [(q_1, .inr (1, q_2)), (q_3, .inr (2, [.ref q_4, .int 0])), (q_4, .inl (ca 0, 16, .inl (fun _ => 0))), (q_14, .inl (ca 4, 148, .inr (.inr (.inr (.inr (fun _ => none))))))]) (t0 := 1) (n := 80) (N' := 80) (k := 96) (tf := .array (.int)) (a0 := (80, .inl (fun _ => 0))) hP hD hS hlen rfl xm_11 rfl (fun C h => by cases h) (m_a_int 80) (by decide +kernel) (by decide +kernel) (by decide +kernel) (by decide) xm_145 rfl rfl (by decide +kernel) (fun _ => rfl) (fun _ => rfl) (Nat.le_of_ble_eq_true rfl) (Nat.le_of_ble_eq_true rfl) d_MM_init_754 d_MM_init_756 ?_
  clear hP hD hS hlen
  intro q_100 H locs hlen hP hD hS
  obtain ⟨fs_64, e_64⟩ : ∃ z, z = fs_63.set 96 (.ref q_100) := ⟨_, rfl⟩
  rw [← e_64] at hP hD hlen
  replace hP : va_P (dC, dI) classes [(h0, .inr (0, fs_64)), (q_1, .inr (1, q_2)), (q_3, .inr (2, [.ref q_4, .int 0])), (q_4, .inl (ca 0, 16, .inl (fun _ => 0))), (q_14, .inl (ca 4, 148, .inr (.inr (.inr (.inr (fun _ => none))))))] H := hP
  replace hD : va_D A [(h0, .inr (0, fs_64)), (q_1, .inr (1, q_2)), (q_3, .inr (2, [.ref q_4, .int 0])), (q_4, .inl (ca 0, 16, .inl (fun _ => 0))), (q_14, .inl (ca 4, 148, .inr (.inr (.inr (.inr (fun _ => none))))))] := hD
  refine W.widen (k := 118) (n := 525434) (Nat.le_of_ble_eq_true rfl) (Nat.le_of_ble_eq_true rfl) ?_
  refine lv_aload_n hx hb d_MM_init_759 rfl (lv_at hl 0 rfl) ?_
  refine m_new M (wt := [(q_1, .inr (1, q_2)), (q_3, .inr (2, [.ref q_4, .int 0])), (q_4, .inl (ca 0, 16, .inl (fun _ => 0))), (q_14, .inl (ca 4, 148, .inr (.inr (.inr (.inr (fun _ => none))))))]) (ci := 4) (C := R_ML) (T := F_ML) (N := 2) (f0 := [.null, .int 0]) hP hD hS i_ML t_ML_ok xm_69 xm_50 xm_5 rfl (by decide +kernel) (Nat.le_of_ble_eq_true rfl) (Nat.le_of_ble_eq_true rfl) d_MM_init_760 d_MM_init_763 ?_
  clear hP hD hS
  intro q_101 H hP hD hS
  replace hP : va_P (dC, dI) classes [(h0, .inr (0, fs_64)), (q_1, .inr (1, q_2)), (q_3, .inr (2, [.ref q_4, .int 0])), (q_4, .inl (ca 0, 16, .inl (fun _ => 0))), (q_14, .inl (ca 4, 148, .inr (.inr (.inr (.inr (fun _ => none)))))), (q_101, .inr (4, [.null, .int 0]))] H := hP
  replace hD : va_D A [(h0, .inr (0, fs_64)), (q_1, .inr (1, q_2)), (q_3, .inr (2, [.ref q_4, .int 0])), (q_4, .inl (ca 0, 16, .inl (fun _ => 0))), (q_14, .inl (ca 4, 148, .inr (.inr (.inr (.inr (fun _ => none)))))), (q_101, .inr (4, [.null, .int 0]))] := hD
  refine W.widen (k := 119) (n := 525436) (Nat.le_of_ble_eq_true rfl) (Nat.le_of_ble_eq_true rfl) ?_
  refine lv_iconst (v := 4) hx hb d_MM_init_764 (by decide) ?_
  refine ax_I (k := 1) (As := [.int 4]) (rest := [.ref q_101, .ref h0]) (wr := [(h0, .inr (0, fs_64)), (q_1, .inr (1, q_2)), (q_3, .inr (2, [.ref q_4, .int 0])), (q_4, .inl (ca 0, 16, .inl (fun _ => 0))), (q_14, .inl (ca 4, 148, .inr (.inr (.inr (.inr (fun _ => none))))))]) rfl hx hb hml hown hts g_wm (mK_bl dC dI ca) (c_ML_init l dC dI ca q_101) rfl xm_70 xm_52 xm_5 xm_53 (by decide +kernel) rfl (Nat.le_of_ble_eq_true rfl) (Nat.le_of_ble_eq_true rfl) hl.1 (Nat.le_of_ble_eq_true rfl) (mK_up hK) hP hD hS hA [5] [0, 1, 2, 3, 4] rfl (by decide) rfl rfl (by decide) (by decide) (Nat.le_of_ble_eq_true rfl) (Nat.le_of_ble_eq_true rfl) d_MM_init_765 ?_
  clear hP hD hS
  intro v q_102 H locs hp hP hD hS
  obtain rfl : v = none := hp
  replace hP : va_P (dC, dI) classes [(h0, .inr (0, fs_64)), (q_1, .inr (1, q_2)), (q_3, .inr (2, [.ref q_4, .int 0])), (q_4, .inl (ca 0, 16, .inl (fun _ => 0))), (q_14, .inl (ca 4, 148, .inr (.inr (.inr (.inr (fun _ => none)))))), (q_101, .inr (4, [.ref q_102, .int 0])), (q_102, .inl (ca 2, 4, .inr (.inl (fun _ => 0))))] H := hP
  replace hD : va_D A [(h0, .inr (0, fs_64)), (q_1, .inr (1, q_2)), (q_3, .inr (2, [.ref q_4, .int 0])), (q_4, .inl (ca 0, 16, .inl (fun _ => 0))), (q_14, .inl (ca 4, 148, .inr (.inr (.inr (.inr (fun _ => none)))))), (q_101, .inr (4, [.ref q_102, .int 0])), (q_102, .inl (ca 2, 4, .inr (.inl (fun _ => 0))))] := hD
  refine W.eq (g2 := F0 m 768 ls [.ref q_101, .ref h0]) rfl ?_
  refine W.widen (k := 120) (n := 525440) (Nat.le_of_ble_eq_true rfl) (Nat.le_of_ble_eq_true rfl) ?_
  replace hP := hP.sub (ws' := [(h0, .inr (0, fs_64)), (q_1, .inr (1, q_2)), (q_3, .inr (2, [.ref q_4, .int 0])), (q_4, .inl (ca 0, 16, .inl (fun _ => 0))), (q_14, .inl (ca 4, 148, .inr (.inr (.inr (.inr (fun _ => none))))))]) [0, 1, 2, 3, 4] rfl
  replace hD := hD.sub (ws' := [(h0, .inr (0, fs_64)), (q_1, .inr (1, q_2)), (q_3, .inr (2, [.ref q_4, .int 0])), (q_4, .inl (ca 0, 16, .inl (fun _ => 0))), (q_14, .inl (ca 4, 148, .inr (.inr (.inr (.inr (fun _ => none))))))]) [0, 1, 2, 3, 4] (by decide) rfl
  refine m_put M (fs := fs_64) (wt := [(q_1, .inr (1, q_2)), (q_3, .inr (2, [.ref q_4, .int 0])), (q_4, .inl (ca 0, 16, .inl (fun _ => 0))), (q_14, .inl (ca 4, 148, .inr (.inr (.inr (.inr (fun _ => none))))))]) (k := 103) (ty := .object "SourceBackModel$Longs") hP hD hS hlen (by decide) xm_146 rfl rfl (by decide +kernel) rfl rfl d_MM_init_768 ?_
  clear hP hD hS hlen
  intro H locs hlen hP hD hS
  obtain ⟨fs_65, e_65⟩ : ∃ z, z = fs_64.set 103 (.ref q_101) := ⟨_, rfl⟩
  rw [← e_65] at hP hD hlen
  replace hP : va_P (dC, dI) classes [(h0, .inr (0, fs_65)), (q_1, .inr (1, q_2)), (q_3, .inr (2, [.ref q_4, .int 0])), (q_4, .inl (ca 0, 16, .inl (fun _ => 0))), (q_14, .inl (ca 4, 148, .inr (.inr (.inr (.inr (fun _ => none))))))] H := hP
  replace hD : va_D A [(h0, .inr (0, fs_65)), (q_1, .inr (1, q_2)), (q_3, .inr (2, [.ref q_4, .int 0])), (q_4, .inl (ca 0, 16, .inl (fun _ => 0))), (q_14, .inl (ca 4, 148, .inr (.inr (.inr (.inr (fun _ => none))))))] := hD
  refine lv_aload_n hx hb d_MM_init_771 rfl (lv_at hl 0 rfl) ?_
  refine m_new M (wt := [(q_1, .inr (1, q_2)), (q_3, .inr (2, [.ref q_4, .int 0])), (q_4, .inl (ca 0, 16, .inl (fun _ => 0))), (q_14, .inl (ca 4, 148, .inr (.inr (.inr (.inr (fun _ => none))))))]) (ci := 3) (C := R_MI) (T := F_MI) (N := 2) (f0 := [.null, .int 0]) hP hD hS i_MI t_MI_ok xm_32 xm_33 xm_3 rfl (by decide +kernel) (Nat.le_of_ble_eq_true rfl) (Nat.le_of_ble_eq_true rfl) d_MM_init_772 d_MM_init_775 ?_
  clear hP hD hS
  intro q_103 H hP hD hS
  replace hP : va_P (dC, dI) classes [(h0, .inr (0, fs_65)), (q_1, .inr (1, q_2)), (q_3, .inr (2, [.ref q_4, .int 0])), (q_4, .inl (ca 0, 16, .inl (fun _ => 0))), (q_14, .inl (ca 4, 148, .inr (.inr (.inr (.inr (fun _ => none)))))), (q_103, .inr (3, [.null, .int 0]))] H := hP
  replace hD : va_D A [(h0, .inr (0, fs_65)), (q_1, .inr (1, q_2)), (q_3, .inr (2, [.ref q_4, .int 0])), (q_4, .inl (ca 0, 16, .inl (fun _ => 0))), (q_14, .inl (ca 4, 148, .inr (.inr (.inr (.inr (fun _ => none)))))), (q_103, .inr (3, [.null, .int 0]))] := hD
  refine W.widen (k := 121) (n := 525442) (Nat.le_of_ble_eq_true rfl) (Nat.le_of_ble_eq_true rfl) ?_
  refine lv_iconst (v := 4) hx hb d_MM_init_776 (by decide) ?_
  refine ax_I (k := 1) (As := [.int 4]) (rest := [.ref q_103, .ref h0]) (wr := [(h0, .inr (0, fs_65)), (q_1, .inr (1, q_2)), (q_3, .inr (2, [.ref q_4, .int 0])), (q_4, .inl (ca 0, 16, .inl (fun _ => 0))), (q_14, .inl (ca 4, 148, .inr (.inr (.inr (.inr (fun _ => none))))))]) rfl hx hb hml hown hts g_wm (mK_bl dC dI ca) (c_MI_init l dC dI ca q_103) rfl xm_34 xm_35 xm_3 xm_36 (by decide +kernel) rfl (Nat.le_of_ble_eq_true rfl) (Nat.le_of_ble_eq_true rfl) hl.1 (Nat.le_of_ble_eq_true rfl) (mK_up hK) hP hD hS hA [5] [0, 1, 2, 3, 4] rfl (by decide) rfl rfl (by decide) (by decide) (Nat.le_of_ble_eq_true rfl) (Nat.le_of_ble_eq_true rfl) d_MM_init_777 ?_
  clear hP hD hS
  intro v q_104 H locs hp hP hD hS
  obtain rfl : v = none := hp
  replace hP : va_P (dC, dI) classes [(h0, .inr (0, fs_65)), (q_1, .inr (1, q_2)), (q_3, .inr (2, [.ref q_4, .int 0])), (q_4, .inl (ca 0, 16, .inl (fun _ => 0))), (q_14, .inl (ca 4, 148, .inr (.inr (.inr (.inr (fun _ => none)))))), (q_103, .inr (3, [.ref q_104, .int 0])), (q_104, .inl (ca 1, 4, .inl (fun _ => 0)))] H := hP
  replace hD : va_D A [(h0, .inr (0, fs_65)), (q_1, .inr (1, q_2)), (q_3, .inr (2, [.ref q_4, .int 0])), (q_4, .inl (ca 0, 16, .inl (fun _ => 0))), (q_14, .inl (ca 4, 148, .inr (.inr (.inr (.inr (fun _ => none)))))), (q_103, .inr (3, [.ref q_104, .int 0])), (q_104, .inl (ca 1, 4, .inl (fun _ => 0)))] := hD
  refine W.eq (g2 := F0 m 780 ls [.ref q_103, .ref h0]) rfl ?_
  refine W.widen (k := 122) (n := 525446) (Nat.le_of_ble_eq_true rfl) (Nat.le_of_ble_eq_true rfl) ?_
  replace hP := hP.sub (ws' := [(h0, .inr (0, fs_65)), (q_1, .inr (1, q_2)), (q_3, .inr (2, [.ref q_4, .int 0])), (q_4, .inl (ca 0, 16, .inl (fun _ => 0))), (q_14, .inl (ca 4, 148, .inr (.inr (.inr (.inr (fun _ => none))))))]) [0, 1, 2, 3, 4] rfl
  replace hD := hD.sub (ws' := [(h0, .inr (0, fs_65)), (q_1, .inr (1, q_2)), (q_3, .inr (2, [.ref q_4, .int 0])), (q_4, .inl (ca 0, 16, .inl (fun _ => 0))), (q_14, .inl (ca 4, 148, .inr (.inr (.inr (.inr (fun _ => none))))))]) [0, 1, 2, 3, 4] (by decide) rfl
  refine m_put M (fs := fs_65) (wt := [(q_1, .inr (1, q_2)), (q_3, .inr (2, [.ref q_4, .int 0])), (q_4, .inl (ca 0, 16, .inl (fun _ => 0))), (q_14, .inl (ca 4, 148, .inr (.inr (.inr (.inr (fun _ => none))))))]) (k := 104) (ty := .object "SourceBackModel$Ints") hP hD hS hlen (by decide) xm_147 rfl rfl (by decide +kernel) rfl rfl d_MM_init_780 ?_
  clear hP hD hS hlen
  intro H locs hlen hP hD hS
  obtain ⟨fs_66, e_66⟩ : ∃ z, z = fs_65.set 104 (.ref q_103) := ⟨_, rfl⟩
  rw [← e_66] at hP hD hlen
  replace hP : va_P (dC, dI) classes [(h0, .inr (0, fs_66)), (q_1, .inr (1, q_2)), (q_3, .inr (2, [.ref q_4, .int 0])), (q_4, .inl (ca 0, 16, .inl (fun _ => 0))), (q_14, .inl (ca 4, 148, .inr (.inr (.inr (.inr (fun _ => none))))))] H := hP
  replace hD : va_D A [(h0, .inr (0, fs_66)), (q_1, .inr (1, q_2)), (q_3, .inr (2, [.ref q_4, .int 0])), (q_4, .inl (ca 0, 16, .inl (fun _ => 0))), (q_14, .inl (ca 4, 148, .inr (.inr (.inr (.inr (fun _ => none))))))] := hD
  refine lv_aload_n hx hb d_MM_init_783 rfl (lv_at hl 0 rfl) ?_
  refine m_new M (wt := [(q_1, .inr (1, q_2)), (q_3, .inr (2, [.ref q_4, .int 0])), (q_4, .inl (ca 0, 16, .inl (fun _ => 0))), (q_14, .inl (ca 4, 148, .inr (.inr (.inr (.inr (fun _ => none))))))]) (ci := 5) (C := R_MR) (T := F_MR) (N := 24) (f0 := [.int 0, .int 0, .int 0, .int 0, .int 0, .int 0, .int 0, .null, .null, .null, .null, .null, .null, .null, .null, .null, .null, .null, .int 0, .int 0, .int 0, .int 0, .null, .int 0]) hP hD hS i_MR t_MR_ok xm_41 xm_42 xm_4 rfl (by decide +kernel) (Nat.le_of_ble_eq_true rfl) (Nat.le_of_ble_eq_true rfl) d_MM_init_784 d_MM_init_787 ?_
  clear hP hD hS
  intro q_105 H hP hD hS
  replace hP : va_P (dC, dI) classes [(h0, .inr (0, fs_66)), (q_1, .inr (1, q_2)), (q_3, .inr (2, [.ref q_4, .int 0])), (q_4, .inl (ca 0, 16, .inl (fun _ => 0))), (q_14, .inl (ca 4, 148, .inr (.inr (.inr (.inr (fun _ => none)))))), (q_105, .inr (5, [.int 0, .int 0, .int 0, .int 0, .int 0, .int 0, .int 0, .null, .null, .null, .null, .null, .null, .null, .null, .null, .null, .null, .int 0, .int 0, .int 0, .int 0, .null, .int 0]))] H := hP
  replace hD : va_D A [(h0, .inr (0, fs_66)), (q_1, .inr (1, q_2)), (q_3, .inr (2, [.ref q_4, .int 0])), (q_4, .inl (ca 0, 16, .inl (fun _ => 0))), (q_14, .inl (ca 4, 148, .inr (.inr (.inr (.inr (fun _ => none)))))), (q_105, .inr (5, [.int 0, .int 0, .int 0, .int 0, .int 0, .int 0, .int 0, .null, .null, .null, .null, .null, .null, .null, .null, .null, .null, .null, .int 0, .int 0, .int 0, .int 0, .null, .int 0]))] := hD
  refine W.widen (k := 123) (n := 525470) (Nat.le_of_ble_eq_true rfl) (Nat.le_of_ble_eq_true rfl) ?_
  refine lv_iconst (v := 4) hx hb d_MM_init_788 (by decide) ?_
  refine lv_iconst (v := 4) hx hb d_MM_init_789 (by decide) ?_
  refine ax_I (k := 2) (As := [.int 4, .int 4]) (rest := [.ref q_105, .ref h0]) (wr := [(h0, .inr (0, fs_66)), (q_1, .inr (1, q_2)), (q_3, .inr (2, [.ref q_4, .int 0])), (q_4, .inl (ca 0, 16, .inl (fun _ => 0))), (q_14, .inl (ca 4, 148, .inr (.inr (.inr (.inr (fun _ => none))))))]) rfl hx hb hml hown hts g_wm (mK_bl dC dI ca) (c_MR_init l dC dI ca q_105) rfl xm_43 xm_44 xm_4 xm_45 (by decide +kernel) rfl (Nat.le_of_ble_eq_true rfl) (Nat.le_of_ble_eq_true rfl) hl.1 (Nat.le_of_ble_eq_true rfl) (mK_up hK) hP hD hS hA [5] [0, 1, 2, 3, 4] rfl (by decide) rfl rfl (by decide) (by decide) (Nat.le_of_ble_eq_true rfl) (Nat.le_of_ble_eq_true rfl) d_MM_init_790 ?_
  clear hP hD hS
  intro v q_106 H locs hp hP hD hS
  obtain rfl : v = none := hp
  replace hP : va_P (dC, dI) classes [(h0, .inr (0, fs_66)), (q_1, .inr (1, q_2)), (q_3, .inr (2, [.ref q_4, .int 0])), (q_4, .inl (ca 0, 16, .inl (fun _ => 0))), (q_14, .inl (ca 4, 148, .inr (.inr (.inr (.inr (fun _ => none)))))), (q_105, .inr (5, q_106))] H := hP
  replace hD : va_D A [(h0, .inr (0, fs_66)), (q_1, .inr (1, q_2)), (q_3, .inr (2, [.ref q_4, .int 0])), (q_4, .inl (ca 0, 16, .inl (fun _ => 0))), (q_14, .inl (ca 4, 148, .inr (.inr (.inr (.inr (fun _ => none)))))), (q_105, .inr (5, q_106))] := hD
  refine W.eq (g2 := F0 m 793 ls [.ref q_105, .ref h0]) rfl ?_
  refine W.widen (k := 143) (n := 525530) (Nat.le_of_ble_eq_true rfl) (Nat.le_of_ble_eq_true rfl) ?_
  replace hP := hP.sub (ws' := [(h0, .inr (0, fs_66)), (q_1, .inr (1, q_2)), (q_3, .inr (2, [.ref q_4, .int 0])), (q_4, .inl (ca 0, 16, .inl (fun _ => 0))), (q_14, .inl (ca 4, 148, .inr (.inr (.inr (.inr (fun _ => none))))))]) [0, 1, 2, 3, 4] rfl
  replace hD := hD.sub (ws' := [(h0, .inr (0, fs_66)), (q_1, .inr (1, q_2)), (q_3, .inr (2, [.ref q_4, .int 0])), (q_4, .inl (ca 0, 16, .inl (fun _ => 0))), (q_14, .inl (ca 4, 148, .inr (.inr (.inr (.inr (fun _ => none))))))]) [0, 1, 2, 3, 4] (by decide) rfl
  refine m_put M (fs := fs_66) (wt := [(q_1, .inr (1, q_2)), (q_3, .inr (2, [.ref q_4, .int 0])), (q_4, .inl (ca 0, 16, .inl (fun _ => 0))), (q_14, .inl (ca 4, 148, .inr (.inr (.inr (.inr (fun _ => none))))))]) (k := 106) (ty := .object "SourceBackModel$Member") hP hD hS hlen (by decide) xm_149 rfl rfl (by decide +kernel) rfl rfl d_MM_init_793 ?_
  clear hP hD hS hlen
  intro H locs hlen hP hD hS
  obtain ⟨fs_67, e_67⟩ : ∃ z, z = fs_66.set 106 (.ref q_105) := ⟨_, rfl⟩
  rw [← e_67] at hP hD hlen
  replace hP : va_P (dC, dI) classes [(h0, .inr (0, fs_67)), (q_1, .inr (1, q_2)), (q_3, .inr (2, [.ref q_4, .int 0])), (q_4, .inl (ca 0, 16, .inl (fun _ => 0))), (q_14, .inl (ca 4, 148, .inr (.inr (.inr (.inr (fun _ => none))))))] H := hP
  replace hD : va_D A [(h0, .inr (0, fs_67)), (q_1, .inr (1, q_2)), (q_3, .inr (2, [.ref q_4, .int 0])), (q_4, .inl (ca 0, 16, .inl (fun _ => 0))), (q_14, .inl (ca 4, 148, .inr (.inr (.inr (.inr (fun _ => none))))))] := hD
  refine lv_aload_n hx hb d_MM_init_796 rfl (lv_at hl 0 rfl) ?_
  refine m_new M (wt := [(q_1, .inr (1, q_2)), (q_3, .inr (2, [.ref q_4, .int 0])), (q_4, .inl (ca 0, 16, .inl (fun _ => 0))), (q_14, .inl (ca 4, 148, .inr (.inr (.inr (.inr (fun _ => none))))))]) (ci := 2) (C := R_MB) (T := F_MB) (N := 2) (f0 := [.null, .int 0]) hP hD hS i_MB t_MB_ok xm_25 xm_26 xm_2 rfl (by decide +kernel) (Nat.le_of_ble_eq_true rfl) (Nat.le_of_ble_eq_true rfl) d_MM_init_797 d_MM_init_800 ?_
  clear hP hD hS
  intro q_107 H hP hD hS
  replace hP : va_P (dC, dI) classes [(h0, .inr (0, fs_67)), (q_1, .inr (1, q_2)), (q_3, .inr (2, [.ref q_4, .int 0])), (q_4, .inl (ca 0, 16, .inl (fun _ => 0))), (q_14, .inl (ca 4, 148, .inr (.inr (.inr (.inr (fun _ => none)))))), (q_107, .inr (2, [.null, .int 0]))] H := hP
  replace hD : va_D A [(h0, .inr (0, fs_67)), (q_1, .inr (1, q_2)), (q_3, .inr (2, [.ref q_4, .int 0])), (q_4, .inl (ca 0, 16, .inl (fun _ => 0))), (q_14, .inl (ca 4, 148, .inr (.inr (.inr (.inr (fun _ => none)))))), (q_107, .inr (2, [.null, .int 0]))] := hD
  refine W.widen (k := 144) (n := 525532) (Nat.le_of_ble_eq_true rfl) (Nat.le_of_ble_eq_true rfl) ?_
  refine ax_IN (k := 0) (As := []) (rest := [.ref q_107, .ref h0]) (wr := [(h0, .inr (0, fs_67)), (q_1, .inr (1, q_2)), (q_3, .inr (2, [.ref q_4, .int 0])), (q_4, .inl (ca 0, 16, .inl (fun _ => 0))), (q_14, .inl (ca 4, 148, .inr (.inr (.inr (.inr (fun _ => none))))))]) rfl hx hb hml hown hts g_wm (mK_bl dC dI ca) (c_MB_init l dC dI ca q_107) rfl (hK.2.1 _ zm_3) xm_27 xm_2 xm_28 (by decide +kernel) rfl (Nat.le_of_ble_eq_true rfl) (Nat.le_of_ble_eq_true rfl) hl.1 (Nat.le_of_ble_eq_true rfl) (mK_up hK) hP hD hS hA [5] [0, 1, 2, 3, 4] rfl (by decide) rfl rfl (by decide) (by decide) (Nat.le_of_ble_eq_true rfl) (Nat.le_of_ble_eq_true rfl) d_MM_init_801 ?_
  clear hP hD hS
  intro v q_108 H locs hp hP hD hS
  obtain rfl : v = none := hp
  replace hP : va_P (dC, dI) classes [(h0, .inr (0, fs_67)), (q_1, .inr (1, q_2)), (q_3, .inr (2, [.ref q_4, .int 0])), (q_4, .inl (ca 0, 16, .inl (fun _ => 0))), (q_14, .inl (ca 4, 148, .inr (.inr (.inr (.inr (fun _ => none)))))), (q_107, .inr (2, [.ref q_108, .int 0])), (q_108, .inl (ca 0, 16, .inl (fun _ => 0)))] H := hP
  replace hD : va_D A [(h0, .inr (0, fs_67)), (q_1, .inr (1, q_2)), (q_3, .inr (2, [.ref q_4, .int 0])), (q_4, .inl (ca 0, 16, .inl (fun _ => 0))), (q_14, .inl (ca 4, 148, .inr (.inr (.inr (.inr (fun _ => none)))))), (q_107, .inr (2, [.ref q_108, .int 0])), (q_108, .inl (ca 0, 16, .inl (fun _ => 0)))] := hD
  refine W.eq (g2 := F0 m 804 ls [.ref q_107, .ref h0]) rfl ?_
  refine W.widen (k := 145) (n := 525548) (Nat.le_of_ble_eq_true rfl) (Nat.le_of_ble_eq_true rfl) ?_
  replace hP := hP.sub (ws' := [(h0, .inr (0, fs_67)), (q_1, .inr (1, q_2)), (q_3, .inr (2, [.ref q_4, .int 0])), (q_4, .inl (ca 0, 16, .inl (fun _ => 0))), (q_14, .inl (ca 4, 148, .inr (.inr (.inr (.inr (fun _ => none))))))]) [0, 1, 2, 3, 4] rfl
  replace hD := hD.sub (ws' := [(h0, .inr (0, fs_67)), (q_1, .inr (1, q_2)), (q_3, .inr (2, [.ref q_4, .int 0])), (q_4, .inl (ca 0, 16, .inl (fun _ => 0))), (q_14, .inl (ca 4, 148, .inr (.inr (.inr (.inr (fun _ => none))))))]) [0, 1, 2, 3, 4] (by decide) rfl
  refine m_put M (fs := fs_67) (wt := [(q_1, .inr (1, q_2)), (q_3, .inr (2, [.ref q_4, .int 0])), (q_4, .inl (ca 0, 16, .inl (fun _ => 0))), (q_14, .inl (ca 4, 148, .inr (.inr (.inr (.inr (fun _ => none))))))]) (k := 108) (ty := .object "SourceBackModel$Bytes") hP hD hS hlen (by decide) xm_150 rfl rfl (by decide +kernel) rfl rfl d_MM_init_804 ?_
  clear hP hD hS hlen
  intro H locs hlen hP hD hS
  obtain ⟨fs_68, e_68⟩ : ∃ z, z = fs_67.set 108 (.ref q_107) := ⟨_, rfl⟩
  rw [← e_68] at hP hD hlen
  replace hP : va_P (dC, dI) classes [(h0, .inr (0, fs_68)), (q_1, .inr (1, q_2)), (q_3, .inr (2, [.ref q_4, .int 0])), (q_4, .inl (ca 0, 16, .inl (fun _ => 0))), (q_14, .inl (ca 4, 148, .inr (.inr (.inr (.inr (fun _ => none))))))] H := hP
  replace hD : va_D A [(h0, .inr (0, fs_68)), (q_1, .inr (1, q_2)), (q_3, .inr (2, [.ref q_4, .int 0])), (q_4, .inl (ca 0, 16, .inl (fun _ => 0))), (q_14, .inl (ca 4, 148, .inr (.inr (.inr (.inr (fun _ => none))))))] := hD
  refine lv_aload_n hx hb d_MM_init_807 rfl (lv_at hl 0 rfl) ?_
  refine m_new M (wt := [(q_1, .inr (1, q_2)), (q_3, .inr (2, [.ref q_4, .int 0])), (q_4, .inl (ca 0, 16, .inl (fun _ => 0))), (q_14, .inl (ca 4, 148, .inr (.inr (.inr (.inr (fun _ => none))))))]) (ci := 2) (C := R_MB) (T := F_MB) (N := 2) (f0 := [.null, .int 0]) hP hD hS i_MB t_MB_ok xm_25 xm_26 xm_2 rfl (by decide +kernel) (Nat.le_of_ble_eq_true rfl) (Nat.le_of_ble_eq_true rfl) d_MM_init_808 d_MM_init_811 ?_
  clear hP hD hS
  intro q_109 H hP hD hS
  replace hP : va_P (dC, dI) classes [(h0, .inr (0, fs_68)), (q_1, .inr (1, q_2)), (q_3, .inr (2, [.ref q_4, .int 0])), (q_4, .inl (ca 0, 16, .inl (fun _ => 0))), (q_14, .inl (ca 4, 148, .inr (.inr (.inr (.inr (fun _ => none)))))), (q_109, .inr (2, [.null, .int 0]))] H := hP
  replace hD : va_D A [(h0, .inr (0, fs_68)), (q_1, .inr (1, q_2)), (q_3, .inr (2, [.ref q_4, .int 0])), (q_4, .inl (ca 0, 16, .inl (fun _ => 0))), (q_14, .inl (ca 4, 148, .inr (.inr (.inr (.inr (fun _ => none)))))), (q_109, .inr (2, [.null, .int 0]))] := hD
  refine W.widen (k := 146) (n := 525550) (Nat.le_of_ble_eq_true rfl) (Nat.le_of_ble_eq_true rfl) ?_
  refine ax_IN (k := 0) (As := []) (rest := [.ref q_109, .ref h0]) (wr := [(h0, .inr (0, fs_68)), (q_1, .inr (1, q_2)), (q_3, .inr (2, [.ref q_4, .int 0])), (q_4, .inl (ca 0, 16, .inl (fun _ => 0))), (q_14, .inl (ca 4, 148, .inr (.inr (.inr (.inr (fun _ => none))))))]) rfl hx hb hml hown hts g_wm (mK_bl dC dI ca) (c_MB_init l dC dI ca q_109) rfl (hK.2.1 _ zm_3) xm_27 xm_2 xm_28 (by decide +kernel) rfl (Nat.le_of_ble_eq_true rfl) (Nat.le_of_ble_eq_true rfl) hl.1 (Nat.le_of_ble_eq_true rfl) (mK_up hK) hP hD hS hA [5] [0, 1, 2, 3, 4] rfl (by decide) rfl rfl (by decide) (by decide) (Nat.le_of_ble_eq_true rfl) (Nat.le_of_ble_eq_true rfl) d_MM_init_812 ?_
  clear hP hD hS
  intro v q_110 H locs hp hP hD hS
  obtain rfl : v = none := hp
  replace hP : va_P (dC, dI) classes [(h0, .inr (0, fs_68)), (q_1, .inr (1, q_2)), (q_3, .inr (2, [.ref q_4, .int 0])), (q_4, .inl (ca 0, 16, .inl (fun _ => 0))), (q_14, .inl (ca 4, 148, .inr (.inr (.inr (.inr (fun _ => none)))))), (q_109, .inr (2, [.ref q_110, .int 0])), (q_110, .inl (ca 0, 16, .inl (fun _ => 0)))] H := hP
  replace hD : va_D A [(h0, .inr (0, fs_68)), (q_1, .inr (1, q_2)), (q_3, .inr (2, [.ref q_4, .int 0])), (q_4, .inl (ca 0, 16, .inl (fun _ => 0))), (q_14, .inl (ca 4, 148, .inr (.inr (.inr (.inr (fun _ => none)))))), (q_109, .inr (2, [.ref q_110, .int 0])), (q_110, .inl (ca 0, 16, .inl (fun _ => 0)))] := hD
  refine W.eq (g2 := F0 m 815 ls [.ref q_109, .ref h0]) rfl ?_
  refine W.widen (k := 147) (n := 525566) (Nat.le_of_ble_eq_true rfl) (Nat.le_of_ble_eq_true rfl) ?_
  replace hP := hP.sub (ws' := [(h0, .inr (0, fs_68)), (q_1, .inr (1, q_2)), (q_3, .inr (2, [.ref q_4, .int 0])), (q_4, .inl (ca 0, 16, .inl (fun _ => 0))), (q_14, .inl (ca 4, 148, .inr (.inr (.inr (.inr (fun _ => none))))))]) [0, 1, 2, 3, 4] rfl
  replace hD := hD.sub (ws' := [(h0, .inr (0, fs_68)), (q_1, .inr (1, q_2)), (q_3, .inr (2, [.ref q_4, .int 0])), (q_4, .inl (ca 0, 16, .inl (fun _ => 0))), (q_14, .inl (ca 4, 148, .inr (.inr (.inr (.inr (fun _ => none))))))]) [0, 1, 2, 3, 4] (by decide) rfl
  refine m_put M (fs := fs_68) (wt := [(q_1, .inr (1, q_2)), (q_3, .inr (2, [.ref q_4, .int 0])), (q_4, .inl (ca 0, 16, .inl (fun _ => 0))), (q_14, .inl (ca 4, 148, .inr (.inr (.inr (.inr (fun _ => none))))))]) (k := 109) (ty := .object "SourceBackModel$Bytes") hP hD hS hlen (by decide) xm_151 rfl rfl (by decide +kernel) rfl rfl d_MM_init_815 ?_
  clear hP hD hS hlen
  intro H locs hlen hP hD hS
  obtain ⟨fs_69, e_69⟩ : ∃ z, z = fs_68.set 109 (.ref q_109) := ⟨_, rfl⟩
  rw [← e_69] at hP hD hlen
  replace hP : va_P (dC, dI) classes [(h0, .inr (0, fs_69)), (q_1, .inr (1, q_2)), (q_3, .inr (2, [.ref q_4, .int 0])), (q_4, .inl (ca 0, 16, .inl (fun _ => 0))), (q_14, .inl (ca 4, 148, .inr (.inr (.inr (.inr (fun _ => none))))))] H := hP
  replace hD : va_D A [(h0, .inr (0, fs_69)), (q_1, .inr (1, q_2)), (q_3, .inr (2, [.ref q_4, .int 0])), (q_4, .inl (ca 0, 16, .inl (fun _ => 0))), (q_14, .inl (ca 4, 148, .inr (.inr (.inr (.inr (fun _ => none))))))] := hD
  refine lv_aload_n hx hb d_MM_init_818 rfl (lv_at hl 0 rfl) ?_
  refine lv_iconst (v := 2) hx hb d_MM_init_819 (by decide) ?_
  refine m_arrK M (atype := .int) (ty := .int) (fs := fs_69) (wt := [(q_1, .inr (1, q_2)), (q_3, .inr (2, [.ref q_4, .int 0])), (q_4, .inl (ca 0, 16, .inl (fun _ => 0))), (q_14, .inl (ca 4, 148, .inr (.inr (.inr (.inr (fun _ => none))))))]) (t0 := 1) (n := 2) (N' := 2) (k := 110) (tf := .array (.int)) (a0 := (2, .inl (fun _ => 0))) hP hD hS hlen rfl xm_11 rfl (fun C h => by cases h) (m_a_int 2) (by decide +kernel) (by decide +kernel) (by decide +kernel) (by decide) xm_152 rfl rfl (by decide +kernel) (fun _ => rfl) (fun _ => rfl) (Nat.le_of_ble_eq_true rfl) (Nat.le_of_ble_eq_true rfl) d_MM_init_820 d_MM_init_822 ?_
  clear hP hD hS hlen
  intro q_111 H locs hlen hP hD hS
  obtain ⟨fs_70, e_70⟩ : ∃ z, z = fs_69.set 110 (.ref q_111) := ⟨_, rfl⟩
  rw [← e_70] at hP hD hlen
  replace hP : va_P (dC, dI) classes [(h0, .inr (0, fs_70)), (q_1, .inr (1, q_2)), (q_3, .inr (2, [.ref q_4, .int 0])), (q_4, .inl (ca 0, 16, .inl (fun _ => 0))), (q_14, .inl (ca 4, 148, .inr (.inr (.inr (.inr (fun _ => none)))))), (q_111, .inl (ca 1, 2, .inl (fun _ => 0)))] H := hP
  replace hD : va_D A [(h0, .inr (0, fs_70)), (q_1, .inr (1, q_2)), (q_3, .inr (2, [.ref q_4, .int 0])), (q_4, .inl (ca 0, 16, .inl (fun _ => 0))), (q_14, .inl (ca 4, 148, .inr (.inr (.inr (.inr (fun _ => none)))))), (q_111, .inl (ca 1, 2, .inl (fun _ => 0)))] := hD
  refine W.widen (k := 148) (n := 525568) (Nat.le_of_ble_eq_true rfl) (Nat.le_of_ble_eq_true rfl) ?_
  refine lv_aload_n hx hb d_MM_init_825 rfl (lv_at hl 0 rfl) ?_
  refine lv_iconst (v := 2) hx hb d_MM_init_826 (by decide) ?_
  refine m_arrK M (atype := .long) (ty := .long) (fs := fs_70) (wt := [(q_1, .inr (1, q_2)), (q_3, .inr (2, [.ref q_4, .int 0])), (q_4, .inl (ca 0, 16, .inl (fun _ => 0))), (q_14, .inl (ca 4, 148, .inr (.inr (.inr (.inr (fun _ => none)))))), (q_111, .inl (ca 1, 2, .inl (fun _ => 0)))]) (t0 := 2) (n := 2) (N' := 2) (k := 111) (tf := .array (.long)) (a0 := (2, .inr (.inl (fun _ => 0)))) hP hD hS hlen rfl xm_12 rfl (fun C h => by cases h) (m_a_long 2) (by decide +kernel) (by decide +kernel) (by decide +kernel) (by decide) xm_153 rfl rfl (by decide +kernel) (fun _ => rfl) (fun _ => rfl) (Nat.le_of_ble_eq_true rfl) (Nat.le_of_ble_eq_true rfl) d_MM_init_827 d_MM_init_829 ?_
  clear hP hD hS hlen
  intro q_112 H locs hlen hP hD hS
  obtain ⟨fs_71, e_71⟩ : ∃ z, z = fs_70.set 111 (.ref q_112) := ⟨_, rfl⟩
  rw [← e_71] at hP hD hlen
  replace hP : va_P (dC, dI) classes [(h0, .inr (0, fs_71)), (q_1, .inr (1, q_2)), (q_3, .inr (2, [.ref q_4, .int 0])), (q_4, .inl (ca 0, 16, .inl (fun _ => 0))), (q_14, .inl (ca 4, 148, .inr (.inr (.inr (.inr (fun _ => none)))))), (q_111, .inl (ca 1, 2, .inl (fun _ => 0))), (q_112, .inl (ca 2, 2, .inr (.inl (fun _ => 0))))] H := hP
  replace hD : va_D A [(h0, .inr (0, fs_71)), (q_1, .inr (1, q_2)), (q_3, .inr (2, [.ref q_4, .int 0])), (q_4, .inl (ca 0, 16, .inl (fun _ => 0))), (q_14, .inl (ca 4, 148, .inr (.inr (.inr (.inr (fun _ => none)))))), (q_111, .inl (ca 1, 2, .inl (fun _ => 0))), (q_112, .inl (ca 2, 2, .inr (.inl (fun _ => 0))))] := hD
  refine W.widen (k := 149) (n := 525570) (Nat.le_of_ble_eq_true rfl) (Nat.le_of_ble_eq_true rfl) ?_
  refine lv_aload_n hx hb d_MM_init_832 rfl (lv_at hl 0 rfl) ?_
  refine lv_iconst (v := 2) hx hb d_MM_init_833 (by decide) ?_
  refine m_arrK M (atype := .int) (ty := .int) (fs := fs_71) (wt := [(q_1, .inr (1, q_2)), (q_3, .inr (2, [.ref q_4, .int 0])), (q_4, .inl (ca 0, 16, .inl (fun _ => 0))), (q_14, .inl (ca 4, 148, .inr (.inr (.inr (.inr (fun _ => none)))))), (q_111, .inl (ca 1, 2, .inl (fun _ => 0))), (q_112, .inl (ca 2, 2, .inr (.inl (fun _ => 0))))]) (t0 := 1) (n := 2) (N' := 2) (k := 112) (tf := .array (.int)) (a0 := (2, .inl (fun _ => 0))) hP hD hS hlen rfl xm_11 rfl (fun C h => by cases h) (m_a_int 2) (by decide +kernel) (by decide +kernel) (by decide +kernel) (by decide) xm_154 rfl rfl (by decide +kernel) (fun _ => rfl) (fun _ => rfl) (Nat.le_of_ble_eq_true rfl) (Nat.le_of_ble_eq_true rfl) d_MM_init_834 d_MM_init_836 ?_
  clear hP hD hS hlen
  intro q_113 H locs hlen hP hD hS
  obtain ⟨fs_72, e_72⟩ : ∃ z, z = fs_71.set 112 (.ref q_113) := ⟨_, rfl⟩
  rw [← e_72] at hP hD hlen
  replace hP : va_P (dC, dI) classes [(h0, .inr (0, fs_72)), (q_1, .inr (1, q_2)), (q_3, .inr (2, [.ref q_4, .int 0])), (q_4, .inl (ca 0, 16, .inl (fun _ => 0))), (q_14, .inl (ca 4, 148, .inr (.inr (.inr (.inr (fun _ => none)))))), (q_111, .inl (ca 1, 2, .inl (fun _ => 0))), (q_112, .inl (ca 2, 2, .inr (.inl (fun _ => 0)))), (q_113, .inl (ca 1, 2, .inl (fun _ => 0)))] H := hP
  replace hD : va_D A [(h0, .inr (0, fs_72)), (q_1, .inr (1, q_2)), (q_3, .inr (2, [.ref q_4, .int 0])), (q_4, .inl (ca 0, 16, .inl (fun _ => 0))), (q_14, .inl (ca 4, 148, .inr (.inr (.inr (.inr (fun _ => none)))))), (q_111, .inl (ca 1, 2, .inl (fun _ => 0))), (q_112, .inl (ca 2, 2, .inr (.inl (fun _ => 0)))), (q_113, .inl (ca 1, 2, .inl (fun _ => 0)))] := hD
  refine W.widen (k := 150) (n := 525572) (Nat.le_of_ble_eq_true rfl) (Nat.le_of_ble_eq_true rfl) ?_
  refine lv_aload_n hx hb d_MM_init_839 rfl (lv_at hl 0 rfl) ?_
  refine lv_iconst (v := 2) hx hb d_MM_init_840 (by decide) ?_
  refine m_arrK M (atype := .long) (ty := .long) (fs := fs_72) (wt := [(q_1, .inr (1, q_2)), (q_3, .inr (2, [.ref q_4, .int 0])), (q_4, .inl (ca 0, 16, .inl (fun _ => 0))), (q_14, .inl (ca 4, 148, .inr (.inr (.inr (.inr (fun _ => none)))))), (q_111, .inl (ca 1, 2, .inl (fun _ => 0))), (q_112, .inl (ca 2, 2, .inr (.inl (fun _ => 0)))), (q_113, .inl (ca 1, 2, .inl (fun _ => 0)))]) (t0 := 2) (n := 2) (N' := 2) (k := 113) (tf := .array (.long)) (a0 := (2, .inr (.inl (fun _ => 0)))) hP hD hS hlen rfl xm_12 rfl (fun C h => by cases h) (m_a_long 2) (by decide +kernel) (by decide +kernel) (by decide +kernel) (by decide) xm_155 rfl rfl (by decide +kernel) (fun _ => rfl) (fun _ => rfl) (Nat.le_of_ble_eq_true rfl) (Nat.le_of_ble_eq_true rfl) d_MM_init_841 d_MM_init_843 ?_
  clear hP hD hS hlen
  intro q_114 H locs hlen hP hD hS
  obtain ⟨fs_73, e_73⟩ : ∃ z, z = fs_72.set 113 (.ref q_114) := ⟨_, rfl⟩
  rw [← e_73] at hP hD hlen
  replace hP : va_P (dC, dI) classes [(h0, .inr (0, fs_73)), (q_1, .inr (1, q_2)), (q_3, .inr (2, [.ref q_4, .int 0])), (q_4, .inl (ca 0, 16, .inl (fun _ => 0))), (q_14, .inl (ca 4, 148, .inr (.inr (.inr (.inr (fun _ => none)))))), (q_111, .inl (ca 1, 2, .inl (fun _ => 0))), (q_112, .inl (ca 2, 2, .inr (.inl (fun _ => 0)))), (q_113, .inl (ca 1, 2, .inl (fun _ => 0))), (q_114, .inl (ca 2, 2, .inr (.inl (fun _ => 0))))] H := hP
  replace hD : va_D A [(h0, .inr (0, fs_73)), (q_1, .inr (1, q_2)), (q_3, .inr (2, [.ref q_4, .int 0])), (q_4, .inl (ca 0, 16, .inl (fun _ => 0))), (q_14, .inl (ca 4, 148, .inr (.inr (.inr (.inr (fun _ => none)))))), (q_111, .inl (ca 1, 2, .inl (fun _ => 0))), (q_112, .inl (ca 2, 2, .inr (.inl (fun _ => 0)))), (q_113, .inl (ca 1, 2, .inl (fun _ => 0))), (q_114, .inl (ca 2, 2, .inr (.inl (fun _ => 0))))] := hD
  refine W.widen (k := 151) (n := 525574) (Nat.le_of_ble_eq_true rfl) (Nat.le_of_ble_eq_true rfl) ?_
  refine lv_aload_n hx hb d_MM_init_846 rfl (lv_at hl 0 rfl) ?_
  refine lv_iconst (v := 2) hx hb d_MM_init_847 (by decide) ?_
  refine m_arrK M (atype := .long) (ty := .long) (fs := fs_73) (wt := [(q_1, .inr (1, q_2)), (q_3, .inr (2, [.ref q_4, .int 0])), (q_4, .inl (ca 0, 16, .inl (fun _ => 0))), (q_14, .inl (ca 4, 148, .inr (.inr (.inr (.inr (fun _ => none)))))), (q_111, .inl (ca 1, 2, .inl (fun _ => 0))), (q_112, .inl (ca 2, 2, .inr (.inl (fun _ => 0)))), (q_113, .inl (ca 1, 2, .inl (fun _ => 0))), (q_114, .inl (ca 2, 2, .inr (.inl (fun _ => 0))))]) (t0 := 2) (n := 2) (N' := 2) (k := 114) (tf := .array (.long)) (a0 := (2, .inr (.inl (fun _ => 0)))) hP hD hS hlen rfl xm_12 rfl (fun C h => by cases h) (m_a_long 2) (by decide +kernel) (by decide +kernel) (by decide +kernel) (by decide) xm_156 rfl rfl (by decide +kernel) (fun _ => rfl) (fun _ => rfl) (Nat.le_of_ble_eq_true rfl) (Nat.le_of_ble_eq_true rfl) d_MM_init_848 d_MM_init_850 ?_
  clear hP hD hS hlen
  intro q_115 H locs hlen hP hD hS
  obtain ⟨fs_74, e_74⟩ : ∃ z, z = fs_73.set 114 (.ref q_115) := ⟨_, rfl⟩
  rw [← e_74] at hP hD hlen
  replace hP : va_P (dC, dI) classes [(h0, .inr (0, fs_74)), (q_1, .inr (1, q_2)), (q_3, .inr (2, [.ref q_4, .int 0])), (q_4, .inl (ca 0, 16, .inl (fun _ => 0))), (q_14, .inl (ca 4, 148, .inr (.inr (.inr (.inr (fun _ => none)))))), (q_111, .inl (ca 1, 2, .inl (fun _ => 0))), (q_112, .inl (ca 2, 2, .inr (.inl (fun _ => 0)))), (q_113, .inl (ca 1, 2, .inl (fun _ => 0))), (q_114, .inl (ca 2, 2, .inr (.inl (fun _ => 0)))), (q_115, .inl (ca 2, 2, .inr (.inl (fun _ => 0))))] H := hP
  replace hD : va_D A [(h0, .inr (0, fs_74)), (q_1, .inr (1, q_2)), (q_3, .inr (2, [.ref q_4, .int 0])), (q_4, .inl (ca 0, 16, .inl (fun _ => 0))), (q_14, .inl (ca 4, 148, .inr (.inr (.inr (.inr (fun _ => none)))))), (q_111, .inl (ca 1, 2, .inl (fun _ => 0))), (q_112, .inl (ca 2, 2, .inr (.inl (fun _ => 0)))), (q_113, .inl (ca 1, 2, .inl (fun _ => 0))), (q_114, .inl (ca 2, 2, .inr (.inl (fun _ => 0)))), (q_115, .inl (ca 2, 2, .inr (.inl (fun _ => 0))))] := hD
  refine W.widen (k := 152) (n := 525576) (Nat.le_of_ble_eq_true rfl) (Nat.le_of_ble_eq_true rfl) ?_
  refine lv_aload_n hx hb d_MM_init_853 rfl (lv_at hl 0 rfl) ?_
  refine lv_sipush (v := 3200) hx hb d_MM_init_854 (by decide +kernel) ?_
  refine m_arr M (atype := .long) (ty := .long) (fs := fs_74) (wt := [(q_1, .inr (1, q_2)), (q_3, .inr (2, [.ref q_4, .int 0])), (q_4, .inl (ca 0, 16, .inl (fun _ => 0))), (q_14, .inl (ca 4, 148, .inr (.inr (.inr (.inr (fun _ => none)))))), (q_111, .inl (ca 1, 2, .inl (fun _ => 0))), (q_112, .inl (ca 2, 2, .inr (.inl (fun _ => 0)))), (q_113, .inl (ca 1, 2, .inl (fun _ => 0))), (q_114, .inl (ca 2, 2, .inr (.inl (fun _ => 0)))), (q_115, .inl (ca 2, 2, .inr (.inl (fun _ => 0))))]) (t0 := 2) (n := 3200) (N' := 3200) (k := 116) (tf := .array (.long)) (a0 := (3200, .inr (.inl (fun _ => 0)))) hP hD hS hlen rfl xm_12 rfl (fun C h => by cases h) (m_a_long 3200) (by decide +kernel) (by decide +kernel) (by decide +kernel) (by decide) xm_158 rfl rfl (by decide +kernel) (fun _ => rfl) (fun _ => rfl) (Nat.le_of_ble_eq_true rfl) (Nat.le_of_ble_eq_true rfl) d_MM_init_857 d_MM_init_859 ?_
  clear hP hD hS hlen
  intro q_116 H locs hlen hP hD hS
  obtain ⟨fs_75, e_75⟩ : ∃ z, z = fs_74.set 116 (.ref q_116) := ⟨_, rfl⟩
  rw [← e_75] at hP hD hlen
  replace hP : va_P (dC, dI) classes [(h0, .inr (0, fs_75)), (q_1, .inr (1, q_2)), (q_3, .inr (2, [.ref q_4, .int 0])), (q_4, .inl (ca 0, 16, .inl (fun _ => 0))), (q_14, .inl (ca 4, 148, .inr (.inr (.inr (.inr (fun _ => none)))))), (q_111, .inl (ca 1, 2, .inl (fun _ => 0))), (q_112, .inl (ca 2, 2, .inr (.inl (fun _ => 0)))), (q_113, .inl (ca 1, 2, .inl (fun _ => 0))), (q_114, .inl (ca 2, 2, .inr (.inl (fun _ => 0)))), (q_115, .inl (ca 2, 2, .inr (.inl (fun _ => 0))))] H := hP
  replace hD : va_D A [(h0, .inr (0, fs_75)), (q_1, .inr (1, q_2)), (q_3, .inr (2, [.ref q_4, .int 0])), (q_4, .inl (ca 0, 16, .inl (fun _ => 0))), (q_14, .inl (ca 4, 148, .inr (.inr (.inr (.inr (fun _ => none)))))), (q_111, .inl (ca 1, 2, .inl (fun _ => 0))), (q_112, .inl (ca 2, 2, .inr (.inl (fun _ => 0)))), (q_113, .inl (ca 1, 2, .inl (fun _ => 0))), (q_114, .inl (ca 2, 2, .inr (.inl (fun _ => 0)))), (q_115, .inl (ca 2, 2, .inr (.inl (fun _ => 0))))] := hD
  refine W.widen (k := 153) (n := 528776) (Nat.le_of_ble_eq_true rfl) (Nat.le_of_ble_eq_true rfl) ?_
  refine lv_aload_n hx hb d_MM_init_862 rfl (lv_at hl 0 rfl) ?_
  refine lv_iconst (v := 2) hx hb d_MM_init_863 (by decide) ?_
  refine m_arrK M (atype := .int) (ty := .int) (fs := fs_75) (wt := [(q_1, .inr (1, q_2)), (q_3, .inr (2, [.ref q_4, .int 0])), (q_4, .inl (ca 0, 16, .inl (fun _ => 0))), (q_14, .inl (ca 4, 148, .inr (.inr (.inr (.inr (fun _ => none)))))), (q_111, .inl (ca 1, 2, .inl (fun _ => 0))), (q_112, .inl (ca 2, 2, .inr (.inl (fun _ => 0)))), (q_113, .inl (ca 1, 2, .inl (fun _ => 0))), (q_114, .inl (ca 2, 2, .inr (.inl (fun _ => 0)))), (q_115, .inl (ca 2, 2, .inr (.inl (fun _ => 0))))]) (t0 := 1) (n := 2) (N' := 2) (k := 117) (tf := .array (.int)) (a0 := (2, .inl (fun _ => 0))) hP hD hS hlen rfl xm_11 rfl (fun C h => by cases h) (m_a_int 2) (by decide +kernel) (by decide +kernel) (by decide +kernel) (by decide) xm_159 rfl rfl (by decide +kernel) (fun _ => rfl) (fun _ => rfl) (Nat.le_of_ble_eq_true rfl) (Nat.le_of_ble_eq_true rfl) d_MM_init_864 d_MM_init_866 ?_
  clear hP hD hS hlen
  intro q_117 H locs hlen hP hD hS
  obtain ⟨fs_76, e_76⟩ : ∃ z, z = fs_75.set 117 (.ref q_117) := ⟨_, rfl⟩
  rw [← e_76] at hP hD hlen
  replace hP : va_P (dC, dI) classes [(h0, .inr (0, fs_76)), (q_1, .inr (1, q_2)), (q_3, .inr (2, [.ref q_4, .int 0])), (q_4, .inl (ca 0, 16, .inl (fun _ => 0))), (q_14, .inl (ca 4, 148, .inr (.inr (.inr (.inr (fun _ => none)))))), (q_111, .inl (ca 1, 2, .inl (fun _ => 0))), (q_112, .inl (ca 2, 2, .inr (.inl (fun _ => 0)))), (q_113, .inl (ca 1, 2, .inl (fun _ => 0))), (q_114, .inl (ca 2, 2, .inr (.inl (fun _ => 0)))), (q_115, .inl (ca 2, 2, .inr (.inl (fun _ => 0)))), (q_117, .inl (ca 1, 2, .inl (fun _ => 0)))] H := hP
  replace hD : va_D A [(h0, .inr (0, fs_76)), (q_1, .inr (1, q_2)), (q_3, .inr (2, [.ref q_4, .int 0])), (q_4, .inl (ca 0, 16, .inl (fun _ => 0))), (q_14, .inl (ca 4, 148, .inr (.inr (.inr (.inr (fun _ => none)))))), (q_111, .inl (ca 1, 2, .inl (fun _ => 0))), (q_112, .inl (ca 2, 2, .inr (.inl (fun _ => 0)))), (q_113, .inl (ca 1, 2, .inl (fun _ => 0))), (q_114, .inl (ca 2, 2, .inr (.inl (fun _ => 0)))), (q_115, .inl (ca 2, 2, .inr (.inl (fun _ => 0)))), (q_117, .inl (ca 1, 2, .inl (fun _ => 0)))] := hD
  refine W.widen (k := 154) (n := 528778) (Nat.le_of_ble_eq_true rfl) (Nat.le_of_ble_eq_true rfl) ?_
  refine lv_aload_n hx hb d_MM_init_869 rfl (lv_at hl 0 rfl) ?_
  refine lv_iconst (v := 2) hx hb d_MM_init_870 (by decide) ?_
  refine m_arrK M (atype := .int) (ty := .int) (fs := fs_76) (wt := [(q_1, .inr (1, q_2)), (q_3, .inr (2, [.ref q_4, .int 0])), (q_4, .inl (ca 0, 16, .inl (fun _ => 0))), (q_14, .inl (ca 4, 148, .inr (.inr (.inr (.inr (fun _ => none)))))), (q_111, .inl (ca 1, 2, .inl (fun _ => 0))), (q_112, .inl (ca 2, 2, .inr (.inl (fun _ => 0)))), (q_113, .inl (ca 1, 2, .inl (fun _ => 0))), (q_114, .inl (ca 2, 2, .inr (.inl (fun _ => 0)))), (q_115, .inl (ca 2, 2, .inr (.inl (fun _ => 0)))), (q_117, .inl (ca 1, 2, .inl (fun _ => 0)))]) (t0 := 1) (n := 2) (N' := 2) (k := 118) (tf := .array (.int)) (a0 := (2, .inl (fun _ => 0))) hP hD hS hlen rfl xm_11 rfl (fun C h => by cases h) (m_a_int 2) (by decide +kernel) (by decide +kernel) (by decide +kernel) (by decide) xm_160 rfl rfl (by decide +kernel) (fun _ => rfl) (fun _ => rfl) (Nat.le_of_ble_eq_true rfl) (Nat.le_of_ble_eq_true rfl) d_MM_init_871 d_MM_init_873 ?_
  clear hP hD hS hlen
  intro q_118 H locs hlen hP hD hS
  obtain ⟨fs_77, e_77⟩ : ∃ z, z = fs_76.set 118 (.ref q_118) := ⟨_, rfl⟩
  rw [← e_77] at hP hD hlen
  replace hP : va_P (dC, dI) classes [(h0, .inr (0, fs_77)), (q_1, .inr (1, q_2)), (q_3, .inr (2, [.ref q_4, .int 0])), (q_4, .inl (ca 0, 16, .inl (fun _ => 0))), (q_14, .inl (ca 4, 148, .inr (.inr (.inr (.inr (fun _ => none)))))), (q_111, .inl (ca 1, 2, .inl (fun _ => 0))), (q_112, .inl (ca 2, 2, .inr (.inl (fun _ => 0)))), (q_113, .inl (ca 1, 2, .inl (fun _ => 0))), (q_114, .inl (ca 2, 2, .inr (.inl (fun _ => 0)))), (q_115, .inl (ca 2, 2, .inr (.inl (fun _ => 0)))), (q_117, .inl (ca 1, 2, .inl (fun _ => 0))), (q_118, .inl (ca 1, 2, .inl (fun _ => 0)))] H := hP
  replace hD : va_D A [(h0, .inr (0, fs_77)), (q_1, .inr (1, q_2)), (q_3, .inr (2, [.ref q_4, .int 0])), (q_4, .inl (ca 0, 16, .inl (fun _ => 0))), (q_14, .inl (ca 4, 148, .inr (.inr (.inr (.inr (fun _ => none)))))), (q_111, .inl (ca 1, 2, .inl (fun _ => 0))), (q_112, .inl (ca 2, 2, .inr (.inl (fun _ => 0)))), (q_113, .inl (ca 1, 2, .inl (fun _ => 0))), (q_114, .inl (ca 2, 2, .inr (.inl (fun _ => 0)))), (q_115, .inl (ca 2, 2, .inr (.inl (fun _ => 0)))), (q_117, .inl (ca 1, 2, .inl (fun _ => 0))), (q_118, .inl (ca 1, 2, .inl (fun _ => 0)))] := hD
  refine W.widen (k := 155) (n := 528780) (Nat.le_of_ble_eq_true rfl) (Nat.le_of_ble_eq_true rfl) ?_
  refine lv_aload_n hx hb d_MM_init_876 rfl (lv_at hl 0 rfl) ?_
  refine lv_sipush (v := 8000) hx hb d_MM_init_877 (by decide +kernel) ?_
  refine m_arr M (atype := .int) (ty := .int) (fs := fs_77) (wt := [(q_1, .inr (1, q_2)), (q_3, .inr (2, [.ref q_4, .int 0])), (q_4, .inl (ca 0, 16, .inl (fun _ => 0))), (q_14, .inl (ca 4, 148, .inr (.inr (.inr (.inr (fun _ => none)))))), (q_111, .inl (ca 1, 2, .inl (fun _ => 0))), (q_112, .inl (ca 2, 2, .inr (.inl (fun _ => 0)))), (q_113, .inl (ca 1, 2, .inl (fun _ => 0))), (q_114, .inl (ca 2, 2, .inr (.inl (fun _ => 0)))), (q_115, .inl (ca 2, 2, .inr (.inl (fun _ => 0)))), (q_117, .inl (ca 1, 2, .inl (fun _ => 0))), (q_118, .inl (ca 1, 2, .inl (fun _ => 0)))]) (t0 := 1) (n := 8000) (N' := 8000) (k := 119) (tf := .array (.int)) (a0 := (8000, .inl (fun _ => 0))) hP hD hS hlen rfl xm_11 rfl (fun C h => by cases h) (m_a_int 8000) (by decide +kernel) (by decide +kernel) (by decide +kernel) (by decide) xm_161 rfl rfl (by decide +kernel) (fun _ => rfl) (fun _ => rfl) (Nat.le_of_ble_eq_true rfl) (Nat.le_of_ble_eq_true rfl) d_MM_init_880 d_MM_init_882 ?_
  clear hP hD hS hlen
  intro q_119 H locs hlen hP hD hS
  obtain ⟨fs_78, e_78⟩ : ∃ z, z = fs_77.set 119 (.ref q_119) := ⟨_, rfl⟩
  rw [← e_78] at hP hD hlen
  replace hP : va_P (dC, dI) classes [(h0, .inr (0, fs_78)), (q_1, .inr (1, q_2)), (q_3, .inr (2, [.ref q_4, .int 0])), (q_4, .inl (ca 0, 16, .inl (fun _ => 0))), (q_14, .inl (ca 4, 148, .inr (.inr (.inr (.inr (fun _ => none)))))), (q_111, .inl (ca 1, 2, .inl (fun _ => 0))), (q_112, .inl (ca 2, 2, .inr (.inl (fun _ => 0)))), (q_113, .inl (ca 1, 2, .inl (fun _ => 0))), (q_114, .inl (ca 2, 2, .inr (.inl (fun _ => 0)))), (q_115, .inl (ca 2, 2, .inr (.inl (fun _ => 0)))), (q_117, .inl (ca 1, 2, .inl (fun _ => 0))), (q_118, .inl (ca 1, 2, .inl (fun _ => 0)))] H := hP
  replace hD : va_D A [(h0, .inr (0, fs_78)), (q_1, .inr (1, q_2)), (q_3, .inr (2, [.ref q_4, .int 0])), (q_4, .inl (ca 0, 16, .inl (fun _ => 0))), (q_14, .inl (ca 4, 148, .inr (.inr (.inr (.inr (fun _ => none)))))), (q_111, .inl (ca 1, 2, .inl (fun _ => 0))), (q_112, .inl (ca 2, 2, .inr (.inl (fun _ => 0)))), (q_113, .inl (ca 1, 2, .inl (fun _ => 0))), (q_114, .inl (ca 2, 2, .inr (.inl (fun _ => 0)))), (q_115, .inl (ca 2, 2, .inr (.inl (fun _ => 0)))), (q_117, .inl (ca 1, 2, .inl (fun _ => 0))), (q_118, .inl (ca 1, 2, .inl (fun _ => 0)))] := hD
  refine W.widen (k := 156) (n := 536780) (Nat.le_of_ble_eq_true rfl) (Nat.le_of_ble_eq_true rfl) ?_
  refine lv_aload_n hx hb d_MM_init_885 rfl (lv_at hl 0 rfl) ?_
  refine lv_sipush (v := 8000) hx hb d_MM_init_886 (by decide +kernel) ?_
  refine m_arrK M (atype := .int) (ty := .int) (fs := fs_78) (wt := [(q_1, .inr (1, q_2)), (q_3, .inr (2, [.ref q_4, .int 0])), (q_4, .inl (ca 0, 16, .inl (fun _ => 0))), (q_14, .inl (ca 4, 148, .inr (.inr (.inr (.inr (fun _ => none)))))), (q_111, .inl (ca 1, 2, .inl (fun _ => 0))), (q_112, .inl (ca 2, 2, .inr (.inl (fun _ => 0)))), (q_113, .inl (ca 1, 2, .inl (fun _ => 0))), (q_114, .inl (ca 2, 2, .inr (.inl (fun _ => 0)))), (q_115, .inl (ca 2, 2, .inr (.inl (fun _ => 0)))), (q_117, .inl (ca 1, 2, .inl (fun _ => 0))), (q_118, .inl (ca 1, 2, .inl (fun _ => 0)))]) (t0 := 1) (n := 8000) (N' := 8000) (k := 120) (tf := .array (.int)) (a0 := (8000, .inl (fun _ => 0))) hP hD hS hlen rfl xm_11 rfl (fun C h => by cases h) (m_a_int 8000) (by decide +kernel) (by decide +kernel) (by decide +kernel) (by decide) xm_162 rfl rfl (by decide +kernel) (fun _ => rfl) (fun _ => rfl) (Nat.le_of_ble_eq_true rfl) (Nat.le_of_ble_eq_true rfl) d_MM_init_889 d_MM_init_891 ?_
  clear hP hD hS hlen
  intro q_120 H locs hlen hP hD hS
  obtain ⟨fs_79, e_79⟩ : ∃ z, z = fs_78.set 120 (.ref q_120) := ⟨_, rfl⟩
  rw [← e_79] at hP hD hlen
  replace hP : va_P (dC, dI) classes [(h0, .inr (0, fs_79)), (q_1, .inr (1, q_2)), (q_3, .inr (2, [.ref q_4, .int 0])), (q_4, .inl (ca 0, 16, .inl (fun _ => 0))), (q_14, .inl (ca 4, 148, .inr (.inr (.inr (.inr (fun _ => none)))))), (q_111, .inl (ca 1, 2, .inl (fun _ => 0))), (q_112, .inl (ca 2, 2, .inr (.inl (fun _ => 0)))), (q_113, .inl (ca 1, 2, .inl (fun _ => 0))), (q_114, .inl (ca 2, 2, .inr (.inl (fun _ => 0)))), (q_115, .inl (ca 2, 2, .inr (.inl (fun _ => 0)))), (q_117, .inl (ca 1, 2, .inl (fun _ => 0))), (q_118, .inl (ca 1, 2, .inl (fun _ => 0))), (q_120, .inl (ca 1, 8000, .inl (fun _ => 0)))] H := hP
  replace hD : va_D A [(h0, .inr (0, fs_79)), (q_1, .inr (1, q_2)), (q_3, .inr (2, [.ref q_4, .int 0])), (q_4, .inl (ca 0, 16, .inl (fun _ => 0))), (q_14, .inl (ca 4, 148, .inr (.inr (.inr (.inr (fun _ => none)))))), (q_111, .inl (ca 1, 2, .inl (fun _ => 0))), (q_112, .inl (ca 2, 2, .inr (.inl (fun _ => 0)))), (q_113, .inl (ca 1, 2, .inl (fun _ => 0))), (q_114, .inl (ca 2, 2, .inr (.inl (fun _ => 0)))), (q_115, .inl (ca 2, 2, .inr (.inl (fun _ => 0)))), (q_117, .inl (ca 1, 2, .inl (fun _ => 0))), (q_118, .inl (ca 1, 2, .inl (fun _ => 0))), (q_120, .inl (ca 1, 8000, .inl (fun _ => 0)))] := hD
  refine W.widen (k := 157) (n := 544780) (Nat.le_of_ble_eq_true rfl) (Nat.le_of_ble_eq_true rfl) ?_
  refine lv_aload_n hx hb d_MM_init_894 rfl (lv_at hl 0 rfl) ?_
  refine lv_ldcw (v := 80000) hx hb hown (hts _ xm_72) d_MM_init_895 ?_
  refine m_arr M (atype := .long) (ty := .long) (fs := fs_79) (wt := [(q_1, .inr (1, q_2)), (q_3, .inr (2, [.ref q_4, .int 0])), (q_4, .inl (ca 0, 16, .inl (fun _ => 0))), (q_14, .inl (ca 4, 148, .inr (.inr (.inr (.inr (fun _ => none)))))), (q_111, .inl (ca 1, 2, .inl (fun _ => 0))), (q_112, .inl (ca 2, 2, .inr (.inl (fun _ => 0)))), (q_113, .inl (ca 1, 2, .inl (fun _ => 0))), (q_114, .inl (ca 2, 2, .inr (.inl (fun _ => 0)))), (q_115, .inl (ca 2, 2, .inr (.inl (fun _ => 0)))), (q_117, .inl (ca 1, 2, .inl (fun _ => 0))), (q_118, .inl (ca 1, 2, .inl (fun _ => 0))), (q_120, .inl (ca 1, 8000, .inl (fun _ => 0)))]) (t0 := 2) (n := 80000) (N' := 80000) (k := 121) (tf := .array (.long)) (a0 := (80000, .inr (.inl (fun _ => 0)))) hP hD hS hlen rfl xm_12 rfl (fun C h => by cases h) (m_a_long 80000) (by decide +kernel) (by decide +kernel) (by decide +kernel) (by decide) xm_163 rfl rfl (by decide +kernel) (fun _ => rfl) (fun _ => rfl) (Nat.le_of_ble_eq_true rfl) (Nat.le_of_ble_eq_true rfl) d_MM_init_898 d_MM_init_900 ?_
  clear hP hD hS hlen
  intro q_121 H locs hlen hP hD hS
  obtain ⟨fs_80, e_80⟩ : ∃ z, z = fs_79.set 121 (.ref q_121) := ⟨_, rfl⟩
  rw [← e_80] at hP hD hlen
  replace hP : va_P (dC, dI) classes [(h0, .inr (0, fs_80)), (q_1, .inr (1, q_2)), (q_3, .inr (2, [.ref q_4, .int 0])), (q_4, .inl (ca 0, 16, .inl (fun _ => 0))), (q_14, .inl (ca 4, 148, .inr (.inr (.inr (.inr (fun _ => none)))))), (q_111, .inl (ca 1, 2, .inl (fun _ => 0))), (q_112, .inl (ca 2, 2, .inr (.inl (fun _ => 0)))), (q_113, .inl (ca 1, 2, .inl (fun _ => 0))), (q_114, .inl (ca 2, 2, .inr (.inl (fun _ => 0)))), (q_115, .inl (ca 2, 2, .inr (.inl (fun _ => 0)))), (q_117, .inl (ca 1, 2, .inl (fun _ => 0))), (q_118, .inl (ca 1, 2, .inl (fun _ => 0))), (q_120, .inl (ca 1, 8000, .inl (fun _ => 0)))] H := hP
  replace hD : va_D A [(h0, .inr (0, fs_80)), (q_1, .inr (1, q_2)), (q_3, .inr (2, [.ref q_4, .int 0])), (q_4, .inl (ca 0, 16, .inl (fun _ => 0))), (q_14, .inl (ca 4, 148, .inr (.inr (.inr (.inr (fun _ => none)))))), (q_111, .inl (ca 1, 2, .inl (fun _ => 0))), (q_112, .inl (ca 2, 2, .inr (.inl (fun _ => 0)))), (q_113, .inl (ca 1, 2, .inl (fun _ => 0))), (q_114, .inl (ca 2, 2, .inr (.inl (fun _ => 0)))), (q_115, .inl (ca 2, 2, .inr (.inl (fun _ => 0)))), (q_117, .inl (ca 1, 2, .inl (fun _ => 0))), (q_118, .inl (ca 1, 2, .inl (fun _ => 0))), (q_120, .inl (ca 1, 8000, .inl (fun _ => 0)))] := hD
  refine W.widen (k := 158) (n := 624780) (Nat.le_of_ble_eq_true rfl) (Nat.le_of_ble_eq_true rfl) ?_
  refine lv_aload_n hx hb d_MM_init_903 rfl (lv_at hl 0 rfl) ?_
  refine lv_iconst (v := 2) hx hb d_MM_init_904 (by decide) ?_
  refine m_arrK M (atype := .int) (ty := .int) (fs := fs_80) (wt := [(q_1, .inr (1, q_2)), (q_3, .inr (2, [.ref q_4, .int 0])), (q_4, .inl (ca 0, 16, .inl (fun _ => 0))), (q_14, .inl (ca 4, 148, .inr (.inr (.inr (.inr (fun _ => none)))))), (q_111, .inl (ca 1, 2, .inl (fun _ => 0))), (q_112, .inl (ca 2, 2, .inr (.inl (fun _ => 0)))), (q_113, .inl (ca 1, 2, .inl (fun _ => 0))), (q_114, .inl (ca 2, 2, .inr (.inl (fun _ => 0)))), (q_115, .inl (ca 2, 2, .inr (.inl (fun _ => 0)))), (q_117, .inl (ca 1, 2, .inl (fun _ => 0))), (q_118, .inl (ca 1, 2, .inl (fun _ => 0))), (q_120, .inl (ca 1, 8000, .inl (fun _ => 0)))]) (t0 := 1) (n := 2) (N' := 2) (k := 122) (tf := .array (.int)) (a0 := (2, .inl (fun _ => 0))) hP hD hS hlen rfl xm_11 rfl (fun C h => by cases h) (m_a_int 2) (by decide +kernel) (by decide +kernel) (by decide +kernel) (by decide) xm_164 rfl rfl (by decide +kernel) (fun _ => rfl) (fun _ => rfl) (Nat.le_of_ble_eq_true rfl) (Nat.le_of_ble_eq_true rfl) d_MM_init_905 d_MM_init_907 ?_
  clear hP hD hS hlen
  intro q_122 H locs hlen hP hD hS
  obtain ⟨fs_81, e_81⟩ : ∃ z, z = fs_80.set 122 (.ref q_122) := ⟨_, rfl⟩
  rw [← e_81] at hP hD hlen
  replace hP : va_P (dC, dI) classes [(h0, .inr (0, fs_81)), (q_1, .inr (1, q_2)), (q_3, .inr (2, [.ref q_4, .int 0])), (q_4, .inl (ca 0, 16, .inl (fun _ => 0))), (q_14, .inl (ca 4, 148, .inr (.inr (.inr (.inr (fun _ => none)))))), (q_111, .inl (ca 1, 2, .inl (fun _ => 0))), (q_112, .inl (ca 2, 2, .inr (.inl (fun _ => 0)))), (q_113, .inl (ca 1, 2, .inl (fun _ => 0))), (q_114, .inl (ca 2, 2, .inr (.inl (fun _ => 0)))), (q_115, .inl (ca 2, 2, .inr (.inl (fun _ => 0)))), (q_117, .inl (ca 1, 2, .inl (fun _ => 0))), (q_118, .inl (ca 1, 2, .inl (fun _ => 0))), (q_120, .inl (ca 1, 8000, .inl (fun _ => 0))), (q_122, .inl (ca 1, 2, .inl (fun _ => 0)))] H := hP
  replace hD : va_D A [(h0, .inr (0, fs_81)), (q_1, .inr (1, q_2)), (q_3, .inr (2, [.ref q_4, .int 0])), (q_4, .inl (ca 0, 16, .inl (fun _ => 0))), (q_14, .inl (ca 4, 148, .inr (.inr (.inr (.inr (fun _ => none)))))), (q_111, .inl (ca 1, 2, .inl (fun _ => 0))), (q_112, .inl (ca 2, 2, .inr (.inl (fun _ => 0)))), (q_113, .inl (ca 1, 2, .inl (fun _ => 0))), (q_114, .inl (ca 2, 2, .inr (.inl (fun _ => 0)))), (q_115, .inl (ca 2, 2, .inr (.inl (fun _ => 0)))), (q_117, .inl (ca 1, 2, .inl (fun _ => 0))), (q_118, .inl (ca 1, 2, .inl (fun _ => 0))), (q_120, .inl (ca 1, 8000, .inl (fun _ => 0))), (q_122, .inl (ca 1, 2, .inl (fun _ => 0)))] := hD
  refine W.widen (k := 159) (n := 624782) (Nat.le_of_ble_eq_true rfl) (Nat.le_of_ble_eq_true rfl) ?_
  refine lv_aload_n hx hb d_MM_init_910 rfl (lv_at hl 0 rfl) ?_
  refine lv_bipush (v := 120) hx hb d_MM_init_911 (by decide +kernel) ?_
  refine m_arr M (atype := .int) (ty := .int) (fs := fs_81) (wt := [(q_1, .inr (1, q_2)), (q_3, .inr (2, [.ref q_4, .int 0])), (q_4, .inl (ca 0, 16, .inl (fun _ => 0))), (q_14, .inl (ca 4, 148, .inr (.inr (.inr (.inr (fun _ => none)))))), (q_111, .inl (ca 1, 2, .inl (fun _ => 0))), (q_112, .inl (ca 2, 2, .inr (.inl (fun _ => 0)))), (q_113, .inl (ca 1, 2, .inl (fun _ => 0))), (q_114, .inl (ca 2, 2, .inr (.inl (fun _ => 0)))), (q_115, .inl (ca 2, 2, .inr (.inl (fun _ => 0)))), (q_117, .inl (ca 1, 2, .inl (fun _ => 0))), (q_118, .inl (ca 1, 2, .inl (fun _ => 0))), (q_120, .inl (ca 1, 8000, .inl (fun _ => 0))), (q_122, .inl (ca 1, 2, .inl (fun _ => 0)))]) (t0 := 1) (n := 120) (N' := 120) (k := 123) (tf := .array (.int)) (a0 := (120, .inl (fun _ => 0))) hP hD hS hlen rfl xm_11 rfl (fun C h => by cases h) (m_a_int 120) (by decide +kernel) (by decide +kernel) (by decide +kernel) (by decide) xm_165 rfl rfl (by decide +kernel) (fun _ => rfl) (fun _ => rfl) (Nat.le_of_ble_eq_true rfl) (Nat.le_of_ble_eq_true rfl) d_MM_init_913 d_MM_init_915 ?_
  clear hP hD hS hlen
  intro q_123 H locs hlen hP hD hS
  obtain ⟨fs_82, e_82⟩ : ∃ z, z = fs_81.set 123 (.ref q_123) := ⟨_, rfl⟩
  rw [← e_82] at hP hD hlen
  replace hP : va_P (dC, dI) classes [(h0, .inr (0, fs_82)), (q_1, .inr (1, q_2)), (q_3, .inr (2, [.ref q_4, .int 0])), (q_4, .inl (ca 0, 16, .inl (fun _ => 0))), (q_14, .inl (ca 4, 148, .inr (.inr (.inr (.inr (fun _ => none)))))), (q_111, .inl (ca 1, 2, .inl (fun _ => 0))), (q_112, .inl (ca 2, 2, .inr (.inl (fun _ => 0)))), (q_113, .inl (ca 1, 2, .inl (fun _ => 0))), (q_114, .inl (ca 2, 2, .inr (.inl (fun _ => 0)))), (q_115, .inl (ca 2, 2, .inr (.inl (fun _ => 0)))), (q_117, .inl (ca 1, 2, .inl (fun _ => 0))), (q_118, .inl (ca 1, 2, .inl (fun _ => 0))), (q_120, .inl (ca 1, 8000, .inl (fun _ => 0))), (q_122, .inl (ca 1, 2, .inl (fun _ => 0)))] H := hP
  replace hD : va_D A [(h0, .inr (0, fs_82)), (q_1, .inr (1, q_2)), (q_3, .inr (2, [.ref q_4, .int 0])), (q_4, .inl (ca 0, 16, .inl (fun _ => 0))), (q_14, .inl (ca 4, 148, .inr (.inr (.inr (.inr (fun _ => none)))))), (q_111, .inl (ca 1, 2, .inl (fun _ => 0))), (q_112, .inl (ca 2, 2, .inr (.inl (fun _ => 0)))), (q_113, .inl (ca 1, 2, .inl (fun _ => 0))), (q_114, .inl (ca 2, 2, .inr (.inl (fun _ => 0)))), (q_115, .inl (ca 2, 2, .inr (.inl (fun _ => 0)))), (q_117, .inl (ca 1, 2, .inl (fun _ => 0))), (q_118, .inl (ca 1, 2, .inl (fun _ => 0))), (q_120, .inl (ca 1, 8000, .inl (fun _ => 0))), (q_122, .inl (ca 1, 2, .inl (fun _ => 0)))] := hD
  refine W.widen (k := 160) (n := 624902) (Nat.le_of_ble_eq_true rfl) (Nat.le_of_ble_eq_true rfl) ?_
  refine lv_aload_n hx hb d_MM_init_918 rfl (lv_at hl 0 rfl) ?_
  refine lv_bipush (v := 120) hx hb d_MM_init_919 (by decide +kernel) ?_
  refine m_arr M (atype := .int) (ty := .int) (fs := fs_82) (wt := [(q_1, .inr (1, q_2)), (q_3, .inr (2, [.ref q_4, .int 0])), (q_4, .inl (ca 0, 16, .inl (fun _ => 0))), (q_14, .inl (ca 4, 148, .inr (.inr (.inr (.inr (fun _ => none)))))), (q_111, .inl (ca 1, 2, .inl (fun _ => 0))), (q_112, .inl (ca 2, 2, .inr (.inl (fun _ => 0)))), (q_113, .inl (ca 1, 2, .inl (fun _ => 0))), (q_114, .inl (ca 2, 2, .inr (.inl (fun _ => 0)))), (q_115, .inl (ca 2, 2, .inr (.inl (fun _ => 0)))), (q_117, .inl (ca 1, 2, .inl (fun _ => 0))), (q_118, .inl (ca 1, 2, .inl (fun _ => 0))), (q_120, .inl (ca 1, 8000, .inl (fun _ => 0))), (q_122, .inl (ca 1, 2, .inl (fun _ => 0)))]) (t0 := 1) (n := 120) (N' := 120) (k := 124) (tf := .array (.int)) (a0 := (120, .inl (fun _ => 0))) hP hD hS hlen rfl xm_11 rfl (fun C h => by cases h) (m_a_int 120) (by decide +kernel) (by decide +kernel) (by decide +kernel) (by decide) xm_166 rfl rfl (by decide +kernel) (fun _ => rfl) (fun _ => rfl) (Nat.le_of_ble_eq_true rfl) (Nat.le_of_ble_eq_true rfl) d_MM_init_921 d_MM_init_923 ?_
  clear hP hD hS hlen
  intro q_124 H locs hlen hP hD hS
  obtain ⟨fs_83, e_83⟩ : ∃ z, z = fs_82.set 124 (.ref q_124) := ⟨_, rfl⟩
  rw [← e_83] at hP hD hlen
  replace hP : va_P (dC, dI) classes [(h0, .inr (0, fs_83)), (q_1, .inr (1, q_2)), (q_3, .inr (2, [.ref q_4, .int 0])), (q_4, .inl (ca 0, 16, .inl (fun _ => 0))), (q_14, .inl (ca 4, 148, .inr (.inr (.inr (.inr (fun _ => none)))))), (q_111, .inl (ca 1, 2, .inl (fun _ => 0))), (q_112, .inl (ca 2, 2, .inr (.inl (fun _ => 0)))), (q_113, .inl (ca 1, 2, .inl (fun _ => 0))), (q_114, .inl (ca 2, 2, .inr (.inl (fun _ => 0)))), (q_115, .inl (ca 2, 2, .inr (.inl (fun _ => 0)))), (q_117, .inl (ca 1, 2, .inl (fun _ => 0))), (q_118, .inl (ca 1, 2, .inl (fun _ => 0))), (q_120, .inl (ca 1, 8000, .inl (fun _ => 0))), (q_122, .inl (ca 1, 2, .inl (fun _ => 0)))] H := hP
  replace hD : va_D A [(h0, .inr (0, fs_83)), (q_1, .inr (1, q_2)), (q_3, .inr (2, [.ref q_4, .int 0])), (q_4, .inl (ca 0, 16, .inl (fun _ => 0))), (q_14, .inl (ca 4, 148, .inr (.inr (.inr (.inr (fun _ => none)))))), (q_111, .inl (ca 1, 2, .inl (fun _ => 0))), (q_112, .inl (ca 2, 2, .inr (.inl (fun _ => 0)))), (q_113, .inl (ca 1, 2, .inl (fun _ => 0))), (q_114, .inl (ca 2, 2, .inr (.inl (fun _ => 0)))), (q_115, .inl (ca 2, 2, .inr (.inl (fun _ => 0)))), (q_117, .inl (ca 1, 2, .inl (fun _ => 0))), (q_118, .inl (ca 1, 2, .inl (fun _ => 0))), (q_120, .inl (ca 1, 8000, .inl (fun _ => 0))), (q_122, .inl (ca 1, 2, .inl (fun _ => 0)))] := hD
  refine W.widen (k := 161) (n := 625022) (Nat.le_of_ble_eq_true rfl) (Nat.le_of_ble_eq_true rfl) ?_
  refine lv_aload_n hx hb d_MM_init_926 rfl (lv_at hl 0 rfl) ?_
  refine lv_bipush (v := 120) hx hb d_MM_init_927 (by decide +kernel) ?_
  refine m_refs M (fs := fs_83) (wt := [(q_1, .inr (1, q_2)), (q_3, .inr (2, [.ref q_4, .int 0])), (q_4, .inl (ca 0, 16, .inl (fun _ => 0))), (q_14, .inl (ca 4, 148, .inr (.inr (.inr (.inr (fun _ => none)))))), (q_111, .inl (ca 1, 2, .inl (fun _ => 0))), (q_112, .inl (ca 2, 2, .inr (.inl (fun _ => 0)))), (q_113, .inl (ca 1, 2, .inl (fun _ => 0))), (q_114, .inl (ca 2, 2, .inr (.inl (fun _ => 0)))), (q_115, .inl (ca 2, 2, .inr (.inl (fun _ => 0)))), (q_117, .inl (ca 1, 2, .inl (fun _ => 0))), (q_118, .inl (ca 1, 2, .inl (fun _ => 0))), (q_120, .inl (ca 1, 8000, .inl (fun _ => 0))), (q_122, .inl (ca 1, 2, .inl (fun _ => 0)))]) (n := 120) (N' := 120) (k := 125) (tf := .array (.object "SourceBackModel$Member")) hP hD hS hlen xm_41 (List.mem_of_getElem? (i := 2) rfl) (by decide +kernel) (by decide +kernel) (by decide +kernel) (by decide) xm_167 rfl rfl (by decide +kernel) (fun _ => rfl) (fun _ => rfl) (Nat.le_of_ble_eq_true rfl) (Nat.le_of_ble_eq_true rfl) d_MM_init_929 d_MM_init_932 ?_
  clear hP hD hS hlen
  intro q_125 H locs hlen hP hD hS
  obtain ⟨fs_84, e_84⟩ : ∃ z, z = fs_83.set 125 (.ref q_125) := ⟨_, rfl⟩
  rw [← e_84] at hP hD hlen
  replace hP : va_P (dC, dI) classes [(h0, .inr (0, fs_84)), (q_1, .inr (1, q_2)), (q_3, .inr (2, [.ref q_4, .int 0])), (q_4, .inl (ca 0, 16, .inl (fun _ => 0))), (q_14, .inl (ca 4, 148, .inr (.inr (.inr (.inr (fun _ => none)))))), (q_111, .inl (ca 1, 2, .inl (fun _ => 0))), (q_112, .inl (ca 2, 2, .inr (.inl (fun _ => 0)))), (q_113, .inl (ca 1, 2, .inl (fun _ => 0))), (q_114, .inl (ca 2, 2, .inr (.inl (fun _ => 0)))), (q_115, .inl (ca 2, 2, .inr (.inl (fun _ => 0)))), (q_117, .inl (ca 1, 2, .inl (fun _ => 0))), (q_118, .inl (ca 1, 2, .inl (fun _ => 0))), (q_120, .inl (ca 1, 8000, .inl (fun _ => 0))), (q_122, .inl (ca 1, 2, .inl (fun _ => 0)))] H := hP
  replace hD : va_D A [(h0, .inr (0, fs_84)), (q_1, .inr (1, q_2)), (q_3, .inr (2, [.ref q_4, .int 0])), (q_4, .inl (ca 0, 16, .inl (fun _ => 0))), (q_14, .inl (ca 4, 148, .inr (.inr (.inr (.inr (fun _ => none)))))), (q_111, .inl (ca 1, 2, .inl (fun _ => 0))), (q_112, .inl (ca 2, 2, .inr (.inl (fun _ => 0)))), (q_113, .inl (ca 1, 2, .inl (fun _ => 0))), (q_114, .inl (ca 2, 2, .inr (.inl (fun _ => 0)))), (q_115, .inl (ca 2, 2, .inr (.inl (fun _ => 0)))), (q_117, .inl (ca 1, 2, .inl (fun _ => 0))), (q_118, .inl (ca 1, 2, .inl (fun _ => 0))), (q_120, .inl (ca 1, 8000, .inl (fun _ => 0))), (q_122, .inl (ca 1, 2, .inl (fun _ => 0)))] := hD
  refine W.widen (k := 162) (n := 625142) (Nat.le_of_ble_eq_true rfl) (Nat.le_of_ble_eq_true rfl) ?_
  refine lv_aload_n hx hb d_MM_init_935 rfl (lv_at hl 0 rfl) ?_
  refine lv_bipush (v := 120) hx hb d_MM_init_936 (by decide +kernel) ?_
  refine m_arr M (atype := .int) (ty := .int) (fs := fs_84) (wt := [(q_1, .inr (1, q_2)), (q_3, .inr (2, [.ref q_4, .int 0])), (q_4, .inl (ca 0, 16, .inl (fun _ => 0))), (q_14, .inl (ca 4, 148, .inr (.inr (.inr (.inr (fun _ => none)))))), (q_111, .inl (ca 1, 2, .inl (fun _ => 0))), (q_112, .inl (ca 2, 2, .inr (.inl (fun _ => 0)))), (q_113, .inl (ca 1, 2, .inl (fun _ => 0))), (q_114, .inl (ca 2, 2, .inr (.inl (fun _ => 0)))), (q_115, .inl (ca 2, 2, .inr (.inl (fun _ => 0)))), (q_117, .inl (ca 1, 2, .inl (fun _ => 0))), (q_118, .inl (ca 1, 2, .inl (fun _ => 0))), (q_120, .inl (ca 1, 8000, .inl (fun _ => 0))), (q_122, .inl (ca 1, 2, .inl (fun _ => 0)))]) (t0 := 1) (n := 120) (N' := 120) (k := 126) (tf := .array (.int)) (a0 := (120, .inl (fun _ => 0))) hP hD hS hlen rfl xm_11 rfl (fun C h => by cases h) (m_a_int 120) (by decide +kernel) (by decide +kernel) (by decide +kernel) (by decide) xm_168 rfl rfl (by decide +kernel) (fun _ => rfl) (fun _ => rfl) (Nat.le_of_ble_eq_true rfl) (Nat.le_of_ble_eq_true rfl) d_MM_init_938 d_MM_init_940 ?_
  clear hP hD hS hlen
  intro q_126 H locs hlen hP hD hS
  obtain ⟨fs_85, e_85⟩ : ∃ z, z = fs_84.set 126 (.ref q_126) := ⟨_, rfl⟩
  rw [← e_85] at hP hD hlen
  replace hP : va_P (dC, dI) classes [(h0, .inr (0, fs_85)), (q_1, .inr (1, q_2)), (q_3, .inr (2, [.ref q_4, .int 0])), (q_4, .inl (ca 0, 16, .inl (fun _ => 0))), (q_14, .inl (ca 4, 148, .inr (.inr (.inr (.inr (fun _ => none)))))), (q_111, .inl (ca 1, 2, .inl (fun _ => 0))), (q_112, .inl (ca 2, 2, .inr (.inl (fun _ => 0)))), (q_113, .inl (ca 1, 2, .inl (fun _ => 0))), (q_114, .inl (ca 2, 2, .inr (.inl (fun _ => 0)))), (q_115, .inl (ca 2, 2, .inr (.inl (fun _ => 0)))), (q_117, .inl (ca 1, 2, .inl (fun _ => 0))), (q_118, .inl (ca 1, 2, .inl (fun _ => 0))), (q_120, .inl (ca 1, 8000, .inl (fun _ => 0))), (q_122, .inl (ca 1, 2, .inl (fun _ => 0)))] H := hP
  replace hD : va_D A [(h0, .inr (0, fs_85)), (q_1, .inr (1, q_2)), (q_3, .inr (2, [.ref q_4, .int 0])), (q_4, .inl (ca 0, 16, .inl (fun _ => 0))), (q_14, .inl (ca 4, 148, .inr (.inr (.inr (.inr (fun _ => none)))))), (q_111, .inl (ca 1, 2, .inl (fun _ => 0))), (q_112, .inl (ca 2, 2, .inr (.inl (fun _ => 0)))), (q_113, .inl (ca 1, 2, .inl (fun _ => 0))), (q_114, .inl (ca 2, 2, .inr (.inl (fun _ => 0)))), (q_115, .inl (ca 2, 2, .inr (.inl (fun _ => 0)))), (q_117, .inl (ca 1, 2, .inl (fun _ => 0))), (q_118, .inl (ca 1, 2, .inl (fun _ => 0))), (q_120, .inl (ca 1, 8000, .inl (fun _ => 0))), (q_122, .inl (ca 1, 2, .inl (fun _ => 0)))] := hD
  refine W.widen (k := 163) (n := 625262) (Nat.le_of_ble_eq_true rfl) (Nat.le_of_ble_eq_true rfl) ?_
  refine lv_aload_n hx hb d_MM_init_943 rfl (lv_at hl 0 rfl) ?_
  refine lv_bipush (v := 120) hx hb d_MM_init_944 (by decide +kernel) ?_
  refine m_arr M (atype := .int) (ty := .int) (fs := fs_85) (wt := [(q_1, .inr (1, q_2)), (q_3, .inr (2, [.ref q_4, .int 0])), (q_4, .inl (ca 0, 16, .inl (fun _ => 0))), (q_14, .inl (ca 4, 148, .inr (.inr (.inr (.inr (fun _ => none)))))), (q_111, .inl (ca 1, 2, .inl (fun _ => 0))), (q_112, .inl (ca 2, 2, .inr (.inl (fun _ => 0)))), (q_113, .inl (ca 1, 2, .inl (fun _ => 0))), (q_114, .inl (ca 2, 2, .inr (.inl (fun _ => 0)))), (q_115, .inl (ca 2, 2, .inr (.inl (fun _ => 0)))), (q_117, .inl (ca 1, 2, .inl (fun _ => 0))), (q_118, .inl (ca 1, 2, .inl (fun _ => 0))), (q_120, .inl (ca 1, 8000, .inl (fun _ => 0))), (q_122, .inl (ca 1, 2, .inl (fun _ => 0)))]) (t0 := 1) (n := 120) (N' := 120) (k := 127) (tf := .array (.int)) (a0 := (120, .inl (fun _ => 0))) hP hD hS hlen rfl xm_11 rfl (fun C h => by cases h) (m_a_int 120) (by decide +kernel) (by decide +kernel) (by decide +kernel) (by decide) xm_169 rfl rfl (by decide +kernel) (fun _ => rfl) (fun _ => rfl) (Nat.le_of_ble_eq_true rfl) (Nat.le_of_ble_eq_true rfl) d_MM_init_946 d_MM_init_948 ?_
  clear hP hD hS hlen
  intro q_127 H locs hlen hP hD hS
  obtain ⟨fs_86, e_86⟩ : ∃ z, z = fs_85.set 127 (.ref q_127) := ⟨_, rfl⟩
  rw [← e_86] at hP hD hlen
  replace hP : va_P (dC, dI) classes [(h0, .inr (0, fs_86)), (q_1, .inr (1, q_2)), (q_3, .inr (2, [.ref q_4, .int 0])), (q_4, .inl (ca 0, 16, .inl (fun _ => 0))), (q_14, .inl (ca 4, 148, .inr (.inr (.inr (.inr (fun _ => none)))))), (q_111, .inl (ca 1, 2, .inl (fun _ => 0))), (q_112, .inl (ca 2, 2, .inr (.inl (fun _ => 0)))), (q_113, .inl (ca 1, 2, .inl (fun _ => 0))), (q_114, .inl (ca 2, 2, .inr (.inl (fun _ => 0)))), (q_115, .inl (ca 2, 2, .inr (.inl (fun _ => 0)))), (q_117, .inl (ca 1, 2, .inl (fun _ => 0))), (q_118, .inl (ca 1, 2, .inl (fun _ => 0))), (q_120, .inl (ca 1, 8000, .inl (fun _ => 0))), (q_122, .inl (ca 1, 2, .inl (fun _ => 0)))] H := hP
  replace hD : va_D A [(h0, .inr (0, fs_86)), (q_1, .inr (1, q_2)), (q_3, .inr (2, [.ref q_4, .int 0])), (q_4, .inl (ca 0, 16, .inl (fun _ => 0))), (q_14, .inl (ca 4, 148, .inr (.inr (.inr (.inr (fun _ => none)))))), (q_111, .inl (ca 1, 2, .inl (fun _ => 0))), (q_112, .inl (ca 2, 2, .inr (.inl (fun _ => 0)))), (q_113, .inl (ca 1, 2, .inl (fun _ => 0))), (q_114, .inl (ca 2, 2, .inr (.inl (fun _ => 0)))), (q_115, .inl (ca 2, 2, .inr (.inl (fun _ => 0)))), (q_117, .inl (ca 1, 2, .inl (fun _ => 0))), (q_118, .inl (ca 1, 2, .inl (fun _ => 0))), (q_120, .inl (ca 1, 8000, .inl (fun _ => 0))), (q_122, .inl (ca 1, 2, .inl (fun _ => 0)))] := hD
  refine W.widen (k := 164) (n := 625382) (Nat.le_of_ble_eq_true rfl) (Nat.le_of_ble_eq_true rfl) ?_
  refine lv_aload_n hx hb d_MM_init_951 rfl (lv_at hl 0 rfl) ?_
  refine lv_sipush (v := 7200) hx hb d_MM_init_952 (by decide +kernel) ?_
  refine m_arr M (atype := .long) (ty := .long) (fs := fs_86) (wt := [(q_1, .inr (1, q_2)), (q_3, .inr (2, [.ref q_4, .int 0])), (q_4, .inl (ca 0, 16, .inl (fun _ => 0))), (q_14, .inl (ca 4, 148, .inr (.inr (.inr (.inr (fun _ => none)))))), (q_111, .inl (ca 1, 2, .inl (fun _ => 0))), (q_112, .inl (ca 2, 2, .inr (.inl (fun _ => 0)))), (q_113, .inl (ca 1, 2, .inl (fun _ => 0))), (q_114, .inl (ca 2, 2, .inr (.inl (fun _ => 0)))), (q_115, .inl (ca 2, 2, .inr (.inl (fun _ => 0)))), (q_117, .inl (ca 1, 2, .inl (fun _ => 0))), (q_118, .inl (ca 1, 2, .inl (fun _ => 0))), (q_120, .inl (ca 1, 8000, .inl (fun _ => 0))), (q_122, .inl (ca 1, 2, .inl (fun _ => 0)))]) (t0 := 2) (n := 7200) (N' := 7200) (k := 128) (tf := .array (.long)) (a0 := (7200, .inr (.inl (fun _ => 0)))) hP hD hS hlen rfl xm_12 rfl (fun C h => by cases h) (m_a_long 7200) (by decide +kernel) (by decide +kernel) (by decide +kernel) (by decide) xm_170 rfl rfl (by decide +kernel) (fun _ => rfl) (fun _ => rfl) (Nat.le_of_ble_eq_true rfl) (Nat.le_of_ble_eq_true rfl) d_MM_init_955 d_MM_init_957 ?_
  clear hP hD hS hlen
  intro q_128 H locs hlen hP hD hS
  obtain ⟨fs_87, e_87⟩ : ∃ z, z = fs_86.set 128 (.ref q_128) := ⟨_, rfl⟩
  rw [← e_87] at hP hD hlen
  replace hP : va_P (dC, dI) classes [(h0, .inr (0, fs_87)), (q_1, .inr (1, q_2)), (q_3, .inr (2, [.ref q_4, .int 0])), (q_4, .inl (ca 0, 16, .inl (fun _ => 0))), (q_14, .inl (ca 4, 148, .inr (.inr (.inr (.inr (fun _ => none)))))), (q_111, .inl (ca 1, 2, .inl (fun _ => 0))), (q_112, .inl (ca 2, 2, .inr (.inl (fun _ => 0)))), (q_113, .inl (ca 1, 2, .inl (fun _ => 0))), (q_114, .inl (ca 2, 2, .inr (.inl (fun _ => 0)))), (q_115, .inl (ca 2, 2, .inr (.inl (fun _ => 0)))), (q_117, .inl (ca 1, 2, .inl (fun _ => 0))), (q_118, .inl (ca 1, 2, .inl (fun _ => 0))), (q_120, .inl (ca 1, 8000, .inl (fun _ => 0))), (q_122, .inl (ca 1, 2, .inl (fun _ => 0)))] H := hP
  replace hD : va_D A [(h0, .inr (0, fs_87)), (q_1, .inr (1, q_2)), (q_3, .inr (2, [.ref q_4, .int 0])), (q_4, .inl (ca 0, 16, .inl (fun _ => 0))), (q_14, .inl (ca 4, 148, .inr (.inr (.inr (.inr (fun _ => none)))))), (q_111, .inl (ca 1, 2, .inl (fun _ => 0))), (q_112, .inl (ca 2, 2, .inr (.inl (fun _ => 0)))), (q_113, .inl (ca 1, 2, .inl (fun _ => 0))), (q_114, .inl (ca 2, 2, .inr (.inl (fun _ => 0)))), (q_115, .inl (ca 2, 2, .inr (.inl (fun _ => 0)))), (q_117, .inl (ca 1, 2, .inl (fun _ => 0))), (q_118, .inl (ca 1, 2, .inl (fun _ => 0))), (q_120, .inl (ca 1, 8000, .inl (fun _ => 0))), (q_122, .inl (ca 1, 2, .inl (fun _ => 0)))] := hD
  refine W.widen (k := 165) (n := 632582) (Nat.le_of_ble_eq_true rfl) (Nat.le_of_ble_eq_true rfl) ?_
  refine lv_aload_n hx hb d_MM_init_960 rfl (lv_at hl 0 rfl) ?_
  refine lv_sipush (v := 7440) hx hb d_MM_init_961 (by decide +kernel) ?_
  refine m_arr M (atype := .long) (ty := .long) (fs := fs_87) (wt := [(q_1, .inr (1, q_2)), (q_3, .inr (2, [.ref q_4, .int 0])), (q_4, .inl (ca 0, 16, .inl (fun _ => 0))), (q_14, .inl (ca 4, 148, .inr (.inr (.inr (.inr (fun _ => none)))))), (q_111, .inl (ca 1, 2, .inl (fun _ => 0))), (q_112, .inl (ca 2, 2, .inr (.inl (fun _ => 0)))), (q_113, .inl (ca 1, 2, .inl (fun _ => 0))), (q_114, .inl (ca 2, 2, .inr (.inl (fun _ => 0)))), (q_115, .inl (ca 2, 2, .inr (.inl (fun _ => 0)))), (q_117, .inl (ca 1, 2, .inl (fun _ => 0))), (q_118, .inl (ca 1, 2, .inl (fun _ => 0))), (q_120, .inl (ca 1, 8000, .inl (fun _ => 0))), (q_122, .inl (ca 1, 2, .inl (fun _ => 0)))]) (t0 := 2) (n := 7440) (N' := 7440) (k := 129) (tf := .array (.long)) (a0 := (7440, .inr (.inl (fun _ => 0)))) hP hD hS hlen rfl xm_12 rfl (fun C h => by cases h) (m_a_long 7440) (by decide +kernel) (by decide +kernel) (by decide +kernel) (by decide) xm_171 rfl rfl (by decide +kernel) (fun _ => rfl) (fun _ => rfl) (Nat.le_of_ble_eq_true rfl) (Nat.le_of_ble_eq_true rfl) d_MM_init_964 d_MM_init_966 ?_
  clear hP hD hS hlen
  intro q_129 H locs hlen hP hD hS
  obtain ⟨fs_88, e_88⟩ : ∃ z, z = fs_87.set 129 (.ref q_129) := ⟨_, rfl⟩
  rw [← e_88] at hP hD hlen
  replace hP : va_P (dC, dI) classes [(h0, .inr (0, fs_88)), (q_1, .inr (1, q_2)), (q_3, .inr (2, [.ref q_4, .int 0])), (q_4, .inl (ca 0, 16, .inl (fun _ => 0))), (q_14, .inl (ca 4, 148, .inr (.inr (.inr (.inr (fun _ => none)))))), (q_111, .inl (ca 1, 2, .inl (fun _ => 0))), (q_112, .inl (ca 2, 2, .inr (.inl (fun _ => 0)))), (q_113, .inl (ca 1, 2, .inl (fun _ => 0))), (q_114, .inl (ca 2, 2, .inr (.inl (fun _ => 0)))), (q_115, .inl (ca 2, 2, .inr (.inl (fun _ => 0)))), (q_117, .inl (ca 1, 2, .inl (fun _ => 0))), (q_118, .inl (ca 1, 2, .inl (fun _ => 0))), (q_120, .inl (ca 1, 8000, .inl (fun _ => 0))), (q_122, .inl (ca 1, 2, .inl (fun _ => 0)))] H := hP
  replace hD : va_D A [(h0, .inr (0, fs_88)), (q_1, .inr (1, q_2)), (q_3, .inr (2, [.ref q_4, .int 0])), (q_4, .inl (ca 0, 16, .inl (fun _ => 0))), (q_14, .inl (ca 4, 148, .inr (.inr (.inr (.inr (fun _ => none)))))), (q_111, .inl (ca 1, 2, .inl (fun _ => 0))), (q_112, .inl (ca 2, 2, .inr (.inl (fun _ => 0)))), (q_113, .inl (ca 1, 2, .inl (fun _ => 0))), (q_114, .inl (ca 2, 2, .inr (.inl (fun _ => 0)))), (q_115, .inl (ca 2, 2, .inr (.inl (fun _ => 0)))), (q_117, .inl (ca 1, 2, .inl (fun _ => 0))), (q_118, .inl (ca 1, 2, .inl (fun _ => 0))), (q_120, .inl (ca 1, 8000, .inl (fun _ => 0))), (q_122, .inl (ca 1, 2, .inl (fun _ => 0)))] := hD
  refine W.widen (k := 166) (n := 640022) (Nat.le_of_ble_eq_true rfl) (Nat.le_of_ble_eq_true rfl) ?_
  have efin : fs_88 = mF (fun k => ([0, q_1, q_3, q_5, q_7, q_9, 0, 0, 0, q_11, q_12, q_13, q_14, 0, 0, q_15, 0, q_17, q_19, q_20, q_21, q_22, q_23, 0, 0, 0, 0, q_24, q_25, q_26, q_27, q_28, q_29, q_30, 0, q_31, q_32, q_34, q_36, q_38, q_40, q_42, q_43, q_45, q_47, q_49, q_51, q_53, q_55, q_57, q_59, q_61, q_63, q_65, q_67, q_69, q_71, q_73, q_75, q_77, q_79, q_81, 0, 0, q_83, 0, 0, 0, 0, 0, q_84, 0, q_86, q_88, 0, 0, q_89, q_91, q_93, 0, q_94, 0, 0, 0, 0, 0, 0, 0, 0, 0, q_95, q_96, 0, q_97, q_98, q_99, q_100, 0, 0, 0, 0, 0, 0, q_101, q_103, 0, q_105, 0, q_107, q_109, q_111, q_112, q_113, q_114, q_115, 0, q_116, q_117, q_118, q_119, q_120, q_121, q_122, q_123, q_124, q_125, q_126, q_127, q_128, q_129, 0, 0] : List Nat).getD k 0) 0 := by rw [e_88, e_87, e_86, e_85, e_84, e_83, e_82, e_81, e_80, e_79, e_78, e_77, e_76, e_75, e_74, e_73, e_72, e_71, e_70, e_69, e_68, e_67, e_66, e_65, e_64, e_63, e_62, e_61, e_60, e_59, e_58, e_57, e_56, e_55, e_54, e_53, e_52, e_51, e_50, e_49, e_48, e_47, e_46, e_45, e_44, e_43, e_42, e_41, e_40, e_39, e_38, e_37, e_36, e_35, e_34, e_33, e_32, e_31, e_30, e_29, e_28, e_27, e_26, e_25, e_24, e_23, e_22, e_21, e_20, e_19, e_18, e_17, e_16, e_15, e_14, e_13, e_12, e_11, e_10, e_9, e_8, e_7, e_6, e_5, e_4, e_3, e_2, e_1, e_0]; rfl
  rw [efin] at hP hD
  exact ax_vret hx hb hr hlocks hP hD hS ((fun k => ([0, q_1, q_3, q_5, q_7, q_9, 0, 0, 0, q_11, q_12, q_13, q_14, 0, 0, q_15, 0, q_17, q_19, q_20, q_21, q_22, q_23, 0, 0, 0, 0, q_24, q_25, q_26, q_27, q_28, q_29, q_30, 0, q_31, q_32, q_34, q_36, q_38, q_40, q_42, q_43, q_45, q_47, q_49, q_51, q_53, q_55, q_57, q_59, q_61, q_63, q_65, q_67, q_69, q_71, q_73, q_75, q_77, q_79, q_81, 0, 0, q_83, 0, 0, 0, 0, 0, q_84, 0, q_86, q_88, 0, 0, q_89, q_91, q_93, 0, q_94, 0, 0, 0, 0, 0, 0, 0, 0, 0, q_95, q_96, 0, q_97, q_98, q_99, q_100, 0, 0, 0, 0, 0, 0, q_101, q_103, 0, q_105, 0, q_107, q_109, q_111, q_112, q_113, q_114, q_115, 0, q_116, q_117, q_118, q_119, q_120, q_121, q_122, q_123, q_124, q_125, q_126, q_127, q_128, q_129, 0, 0] : List Nat).getD k 0), q_2, q_4) ⟨rfl, h8_1⟩ [0, 1, 2, 3, 4, 5, 6, 7, 8, 9, 10, 11, 12, 13] rfl (by decide) rfl (Nat.le_of_ble_eq_true rfl) (Nat.le_of_ble_eq_true rfl) d_MM_init_969
end
