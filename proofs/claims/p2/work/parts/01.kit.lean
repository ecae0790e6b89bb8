/-! MY OWN KIT: one form of contract for all methods; a call as one row. Nothing here speaks of the classes. -/
/-- a method's words: its code, and one list Z for all methods of a side -/
abbrev ax_w (Z : List Cond) (y : MethodName) (b : ByteArray) (n : Nat) (r : Option FieldType) : List Cond := .code y b n r :: Z
/-- what a method knows beside its cells asks nothing of frames -/
def ax_bl (K : State → Prop) : Prop := ∀ (U : State) (g : JFrame) (mk : MethodId) (a : Array Value), K U → K (U.calling g mk a)
def ax_Pre (cl : List vw_C) (D : va_G) (K : State → Prop) (As : List Value) (ws : va_W) (sz : Nat) : Array Value → State → Prop :=
  va_Pc As (fun U => U.heap.size = sz ∧ va_P D cl ws U.heap ∧ K U ∧ va_D (fun _ => True) ws)
def ax_B {S : Type} (cl : List vw_C) (D : va_G) (A : Nat → Prop) (ws1 : S → va_W) (u : S) (t : State) : Prop :=
  va_P D cl (ws1 u) t.heap ∧ va_D A (ws1 u)
def ax_Q {S : Type} (post : Option Value → S → Prop) (B : S → State → Prop) (A : Nat → Prop) : Array Value → State → Outcome → State → Prop :=
  fun _ st oc t => (∃ (v : Option Value) (u : S), oc = .returned v ∧ post v u ∧ B u t) ∧ va_F A st t
/-- the contract: from the cells ws the method returns v with 'post v u', the cells are then 'ws1 u'; fr frames, lo words, mc cells of ms slots are enough -/
def CT {S : Type} (l : Launch) (cl : List vw_C) (D : va_G) (K : State → Prop) (Z : List Cond) (y : MethodName) (b : ByteArray) (n : Nat) (r : Option FieldType) (fr lo mc ms : Nat) (As : List Value) (ws : va_W) (post : Option Value → S → Prop) (ws1 : S → va_W) : Prop :=
  ∀ sz : Nat, Met l y (ax_w Z y b n r) ({ frames := fr, cells := mc, slots := ms, locals := lo }) (ax_Pre cl D K As ws sz) (ax_Q post (ax_B cl D (va_A ws sz) ws1) (va_A ws sz)) mc ms (va_A ws sz)
/-- what is known in a method's body -/
def ax_At (p : Program) (s : State) (m : MethodId) (meth : Method) (c : Code) (args : Array Value) (Z : List Cond) (y : MethodName) (b : ByteArray) (n : Nat) (r : Option FieldType) : Prop :=
  p.tables.exec = Jvm.exec ∧ c.code = b ∧ meth.sig.returnType = r ∧ c.maxLocals = n ∧ s.vm.findClass y.cls = some m.cls ∧ (∀ w ∈ Z, w.before args s = true) ∧ meth.locks = false ∧ meth.name = y.name
theorem ax_of {S : Type} {l : Launch} {cl : List vw_C} {D : va_G} {K : State → Prop} {Z : List Cond} {y : MethodName} {b : ByteArray} {n : Nat} {r : Option FieldType} {fr lo mc ms : Nat} {As : List Value} {ws : va_W} {post : Option Value → S → Prop} {ws1 : S → va_W}
    (hy : plainName y.cls = true) (hn : (lg_sl As).length ≤ n)
    (body : ∀ (p : Program) (e : Env) (s : State) (m : MethodId) (below : List Frame) (meth : Method) (c : Code) (A : Nat → Prop) (ls : Array Slot), ax_At p s m meth c As.toArray Z y b n r → K s → va_P D cl ws s.heap → va_D A ws → va_S A s.heap s.heap [] → (∀ q : Nat, s.heap.size ≤ q → A q) → lv_has ls n (lv_args 0 As) →
      W p l e ({ frames := fr, cells := mc, slots := ms, locals := lo }) s m As.toArray below meth c s.heap [] 0 0 (MQ below (ax_Q post (ax_B cl D A ws1) A) As.toArray s mc ms A) (F0 m 0 ls [])) :
    CT l cl D K Z y b n r fr lo mc ms As ws post ws1 := by
  intro sz
  refine Met.ofW (cc := b) (maxL := n) (ret := r) hy rfl ?_
  intro p e s m args below meth c s₁ B hml hv
  obtain ⟨rfl, hsz, hP, hK, hD0⟩ := hv
  subst hsz
  have hD := hD0.self (sz := s.heap.size)
  have hts0 := atoms_spec (ws := ax_w Z y b n r) B.pre
  rw [lg_entry_eq]
  exact body p e s m below meth c _ _ ⟨B.exec, B.bytes, B.returns, hml, findClass_of_methodNamed B.named, fun w h => hts0 w (List.mem_cons_of_mem _ h), B.notSynchronized, (name_of_methodNamed B.named B.method).1⟩ hK hP hD va_S.rf (fun q h => Or.inr h) (lv_entry As hn)
section AX
variable {p : Program} {l : Launch} {e : Env} {R : Room} {s : State} {m : MethodId} {args : Array Value} {below : List Frame} {meth : Method} {c : Code} {H : Heap} {locs : List Loc} {cells slots : Nat} {Q : State → Prop}
variable {cl : List vw_C} {D : va_G} {K : State → Prop} {tys : List (ClassId × FieldType)} {Z : List Cond} {A : Nat → Prop} {ws wc wr : va_W} {H0 : Heap} {cc : ByteArray} {pc : Nat} {ls : Array Slot} {rest : List Value}
/-- the end of a method without a result -/
theorem ax_vret {S : Type} {post : Option Value → S → Prop} {ws1 : S → va_W} {mc ms : Nat} (hx : p.tables.exec = Jvm.exec) (hb : c.code = cc) (hr : meth.sig.returnType = none) (hlocks : meth.locks = false) (hP : va_P D cl ws H) (hD : va_D A ws) (hS : va_S A s.heap H locs) (u : S) (hp : post none u) (is : List Nat) (h1 : is.filterMap (fun i => ws[i]?) = ws1 u) (hn : va_nd is = true) (h2 : is.map (fun i => ws[i]?) = (ws1 u).map some) (hc : cells ≤ mc) (hs : slots ≤ ms) (hdg : decode cc pc = .ok (.return_, 1)) :
    W p l e R s m args below meth c H locs cells slots (MQ below (ax_Q post (ax_B cl D A ws1) A) args s mc ms A) (F0 m pc ls []) := by
  refine W.widen hc hs ?_
  exact W.vret hx hb hr (fun t ht hW => ⟨⟨none, u, rfl, hp, by rw [ht]; exact hP.sub is h1, hD.sub is hn h2⟩, hS.F ht⟩) hS.2.2 hdg hlocks
theorem ax_iret {S : Type} {post : Option Value → S → Prop} {ws1 : S → va_W} {mc ms : Nat} {v : Int32} (hx : p.tables.exec = Jvm.exec) (hb : c.code = cc) (hr : meth.sig.returnType = some .int) (hlocks : meth.locks = false) (hP : va_P D cl ws H) (hD : va_D A ws) (hS : va_S A s.heap H locs) (u : S) (hp : post (some (.int v)) u) (is : List Nat) (h1 : is.filterMap (fun i => ws[i]?) = ws1 u) (hn : va_nd is = true) (h2 : is.map (fun i => ws[i]?) = (ws1 u).map some) (hc : cells ≤ mc) (hs : slots ≤ ms) (hdg : decode cc pc = .ok (.ireturn, 1)) :
    W p l e R s m args below meth c H locs cells slots (MQ below (ax_Q post (ax_B cl D A ws1) A) args s mc ms A) (F0 m pc ls [.int v]) := by
  refine W.widen hc hs ?_
  exact W.iret hx hb hr (fun t ht hW => ⟨⟨_, u, rfl, hp, by rw [ht]; exact hP.sub is h1, hD.sub is hn h2⟩, hS.F ht⟩) hS.2.2 hdg hlocks
theorem ax_zret {S : Type} {post : Option Value → S → Prop} {ws1 : S → va_W} {mc ms : Nat} {v : Int32} (hx : p.tables.exec = Jvm.exec) (hb : c.code = cc) (hr : meth.sig.returnType = some .boolean) (hz : narrow .boolean (.int v) = .int v) (hlocks : meth.locks = false) (hP : va_P D cl ws H) (hD : va_D A ws) (hS : va_S A s.heap H locs) (u : S) (hp : post (some (.int v)) u) (is : List Nat) (h1 : is.filterMap (fun i => ws[i]?) = ws1 u) (hn : va_nd is = true) (h2 : is.map (fun i => ws[i]?) = (ws1 u).map some) (hc : cells ≤ mc) (hs : slots ≤ ms) (hdg : decode cc pc = .ok (.ireturn, 1)) :
    W p l e R s m args below meth c H locs cells slots (MQ below (ax_Q post (ax_B cl D A ws1) A) args s mc ms A) (F0 m pc ls [.int v]) := by
  refine W.widen hc hs ?_
  exact W.zret hx hb hr hz (fun t ht hW => ⟨⟨_, u, rfl, hp, by rw [ht]; exact hP.sub is h1, hD.sub is hn h2⟩, hS.F ht⟩) hS.2.2 hdg (hlocks := hlocks)
theorem ax_lret {S : Type} {post : Option Value → S → Prop} {ws1 : S → va_W} {mc ms : Nat} {v : Int64} (hx : p.tables.exec = Jvm.exec) (hb : c.code = cc) (hr : meth.sig.returnType = some .long) (hlocks : meth.locks = false) (hP : va_P D cl ws H) (hD : va_D A ws) (hS : va_S A s.heap H locs) (u : S) (hp : post (some (.long v)) u) (is : List Nat) (h1 : is.filterMap (fun i => ws[i]?) = ws1 u) (hn : va_nd is = true) (h2 : is.map (fun i => ws[i]?) = (ws1 u).map some) (hc : cells ≤ mc) (hs : slots ≤ ms) (hdg : decode cc pc = .ok (.lreturn, 1)) :
    W p l e R s m args below meth c H locs cells slots (MQ below (ax_Q post (ax_B cl D A ws1) A) args s mc ms A) (F0 m pc ls [.long v]) := by
  refine W.widen hc hs ?_
  exact W.lret hx hb hr (fun t ht hW => ⟨⟨_, u, rfl, hp, by rw [ht]; exact hP.sub is h1, hD.sub is hn h2⟩, hS.F ht⟩) hS.2.2 hdg (hlocks := hlocks)
/-- what a callee's contract asks at the call -/
theorem ax_blind (kp : ax_bl K) {As : List Value} {sz : Nat} : FrameBlind (ax_Pre cl D K As wc sz) := fun a U g mk q => by
  obtain ⟨q0, q1, qP, qK, qD⟩ := q
  exact ⟨q0, q1, qP, kp U g mk a qK, qD⟩
theorem ax_preS {As : List Value} (kp : ax_bl K) (hK : ∀ U : State, U.heap = H → s.WarmedH U.vm → K U) (hP : va_P D cl wc H) (hD : va_D A wc) : PreS s H (ax_Pre cl D K As wc H.size) As :=
  ⟨ax_blind kp, fun U hU hW => ⟨rfl, by rw [hU], by rw [hU]; exact hP, hK U hU hW, hD.weaken (fun _ _ _ _ => trivial)⟩⟩
theorem ax_preV {As : List Value} {C : String} {a q0 ci : Nat} {T : u_T} {N : Nat} {fs : List Value} (kp : ax_bl K) (hK : ∀ U : State, U.heap = H → s.WarmedH U.vm → K U) (hk : va_K D cl tys s) (hP : va_P D cl wc H) (hD : va_D A wc) (hc : cl[ci]? = some (C, T, N)) (he : wc[q0]? = some (a, .inr (ci, fs))) : PreV s H C a (ax_Pre cl D K (.ref a :: As) wc H.size) As :=
  ⟨ax_blind kp, va_recv hk hP hc he, fun U hU hW => ⟨rfl, by rw [hU], by rw [hU]; exact hP, hK U hU hW, hD.weaken (fun _ _ _ _ => trivial)⟩⟩
/-- behind a call: what came back beside the rest -/
theorem ax_back {S : Type} {post : Option Value → S → Prop} {ws1 : S → va_W} {mc ms : Nat} {st0 : List Value} {a : Array Value}
    (hr : va_Run p l e R s m args below meth c H locs cells slots mc ms (F0 m pc ls st0) rest (ax_Q post (ax_B cl D (va_A wc H.size) ws1) (va_A wc H.size) a) (va_A wc H.size))
    (hP : va_P D cl ws H) (hD : va_D A ws) (hS : va_S A H0 H locs) (hA : ∀ q, H0.size ≤ q → A q) (isC isR : List Nat) (hC : isC.map (fun i => ws[i]?) = wc.map some) (hR : isR.map (fun i => ws[i]?) = wr.map some) (hn : va_nd isR = true) (hdis : ∀ i ∈ isR, i ∉ isC)
    (kk : ∀ (v : Option Value) (u : S) (H1 : Heap) (locs1 : List Loc), post v u → va_P D cl (wr ++ ws1 u) H1 → va_D A (wr ++ ws1 u) → va_S A H0 H1 locs1 → W p l e R s m args below meth c H1 locs1 (cells + mc) (slots + ms) Q (F0 m (pc + 3) ls (v.toList ++ rest))) :
    W p l e R s m args below meth c H locs cells slots Q (F0 m pc ls st0) := by
  intro T hT X
  obtain ⟨v, st₀, t, T', L, h0, X', hL, e1, e2, ⟨⟨v2, u, hv, hp, hP1, hD1⟩, hz, hk⟩, st⟩ := hr T hT X
  cases hv
  rw [h0] at hz hk
  have hF := va_free hD hS hA isC hC
  have hk2 : ∀ q : Nat, q < H.size → ¬ va_A wc H.size q → T'.heap[q]? = H[q]? := fun q h1 h2 => by rw [e1]; exact hk q h1 h2
  rw [← e1] at hP1 hz
  obtain ⟨hP2, hD2⟩ := va_join hP hD isC isR hC hR hn hdis hk2 hF hP1 hD1
  obtain ⟨t2, a1, b1⟩ := kk v u T'.heap (locs ++ L) hp hP2 hD2
    ⟨Nat.le_trans hS.1 hz, fun q h1 h2 => by rw [hk2 q (Nat.lt_of_lt_of_le h1 hS.1) (fun z => h2 (hF q z))]; exact hS.2.1 q h1 h2, fun q hq => by
      rcases List.mem_append.mp hq with h | h
      · exact hS.2.2 q h
      · exact hF _ (hL q h)⟩ T' rfl X'
  exact ⟨t2, st t2 a1, b1⟩
/-- a list of words that is good in itself -/
def ax_good (Z : List Cond) : Prop := GoodIn Z Z
theorem ax_goodc {y : MethodName} {b : ByteArray} {n : Nat} {r : Option FieldType} (hZ : ax_good Z) (h : Cond.code y b n r ∈ Z) : GoodIn Z (ax_w Z y b n r) := fun w hw => by
  rcases List.mem_cons.mp hw with rfl | h2
  · exact ⟨h, Or.inl rfl⟩
  · exact hZ w h2
/-- invokespecial <init> -/
theorem ax_I {S : Type} {post : Option Value → S → Prop} {ws1 : S → va_W} {y : MethodName} {b : ByteArray} {n fr lo mc ms nL index k : Nat} {As st0 : List Value} {a : Nat} {own : String} (hst : st0 = As.reverse ++ .ref a :: rest)
    (hx : p.tables.exec = Jvm.exec) (hb : c.code = cc) (hml : c.maxLocals = nL) (hown : s.vm.findClass own = some m.cls) (hts : ∀ w ∈ Z, w.before args s = true) (hZ : ax_good Z) (kp : ax_bl K)
    (C : CT l cl D K Z y b n none fr lo mc ms (.ref a :: As) wc post ws1) (hy1 : y.name = "<init>") (w1 : Cond.methodLink own index y ∈ Z) (w2 : Cond.instanceMethod y ∈ Z) (w3 : Cond.initialized y.cls ∈ Z) (w4 : Cond.code y b n none ∈ Z)
    (hd : y.cls ≠ "java/lang/invoke/MethodHandle" ∧ y.cls ≠ "java/lang/invoke/VarHandle" ∧ (parseMethodDescriptor y.desc).map (fun d => d.parameters.length) = some k) (hk : As.length = k) (hfr : fr + 1 ≤ R.frames) (hlo : 8 + (n + 11) + lo ≤ R.locals) (hls : ls.size = nL) (hrest : (rest.map fun v => v.category).sum ≤ 8)
    (hK : ∀ U : State, U.heap = H → s.WarmedH U.vm → K U) (hP : va_P D cl ws H) (hD : va_D A ws) (hS : va_S A H0 H locs) (hA : ∀ q, H0.size ≤ q → A q) (isC isR : List Nat) (hCf : isC.filterMap (fun i => ws[i]?) = wc) (hCn : va_nd isC = true) (hC : isC.map (fun i => ws[i]?) = wc.map some) (hR : isR.map (fun i => ws[i]?) = wr.map some) (hn : va_nd isR = true) (hdis : ∀ i ∈ isR, i ∉ isC)
    (hc : cells + mc ≤ R.cells) (hs : slots + ms ≤ R.slots) (hdg : decode cc pc = .ok (.invokespecial index, 3))
    (kk : ∀ (v : Option Value) (u : S) (H1 : Heap) (locs1 : List Loc), post v u → va_P D cl (wr ++ ws1 u) H1 → va_D A (wr ++ ws1 u) → va_S A H0 H1 locs1 → W p l e R s m args below meth c H1 locs1 (cells + mc) (slots + ms) Q (F0 m (pc + 3) ls (v.toList ++ rest))) :
    W p l e R s m args below meth c H locs cells slots Q (F0 m pc ls st0) :=
  ax_back (va_runI (As := As) (rest := rest) ⟨hx, hb, hml, hown, hts⟩ (C H.size) (cwI k hts (ax_goodc hZ w4) rfl rfl rfl (hts _ w3) (hts _ w1) (hts _ w2) hy1 hd ⟨hfr, hlo⟩) (ax_preS kp hK (hP.sub isC hCf) (hD.sub isC hCn hC)) rfl hk hls hst (lv_room hrest) hdg ⟨hc, hs⟩) hP hD hS hA isC isR hC hR hn hdis kk
/-- of a nest mate -/
theorem ax_IN {S : Type} {post : Option Value → S → Prop} {ws1 : S → va_W} {y : MethodName} {b : ByteArray} {n fr lo mc ms nL index k : Nat} {As st0 : List Value} {a : Nat} {own : String} (hst : st0 = As.reverse ++ .ref a :: rest)
    (hx : p.tables.exec = Jvm.exec) (hb : c.code = cc) (hml : c.maxLocals = nL) (hown : s.vm.findClass own = some m.cls) (hts : ∀ w ∈ Z, w.before args s = true) (hZ : ax_good Z) (kp : ax_bl K)
    (C : CT l cl D K Z y b n none fr lo mc ms (.ref a :: As) wc post ws1) (hy1 : y.name = "<init>") {host : String} (w1 : va_Nw (.methodLinkNest own index y host) s) (w2 : Cond.instanceMethod y ∈ Z) (w3 : Cond.initialized y.cls ∈ Z) (w4 : Cond.code y b n none ∈ Z)
    (hd : y.cls ≠ "java/lang/invoke/MethodHandle" ∧ y.cls ≠ "java/lang/invoke/VarHandle" ∧ (parseMethodDescriptor y.desc).map (fun d => d.parameters.length) = some k) (hk : As.length = k) (hfr : fr + 1 ≤ R.frames) (hlo : 8 + (n + 11) + lo ≤ R.locals) (hls : ls.size = nL) (hrest : (rest.map fun v => v.category).sum ≤ 8)
    (hK : ∀ U : State, U.heap = H → s.WarmedH U.vm → K U) (hP : va_P D cl ws H) (hD : va_D A ws) (hS : va_S A H0 H locs) (hA : ∀ q, H0.size ≤ q → A q) (isC isR : List Nat) (hCf : isC.filterMap (fun i => ws[i]?) = wc) (hCn : va_nd isC = true) (hC : isC.map (fun i => ws[i]?) = wc.map some) (hR : isR.map (fun i => ws[i]?) = wr.map some) (hn : va_nd isR = true) (hdis : ∀ i ∈ isR, i ∉ isC)
    (hc : cells + mc ≤ R.cells) (hs : slots + ms ≤ R.slots) (hdg : decode cc pc = .ok (.invokespecial index, 3))
    (kk : ∀ (v : Option Value) (u : S) (H1 : Heap) (locs1 : List Loc), post v u → va_P D cl (wr ++ ws1 u) H1 → va_D A (wr ++ ws1 u) → va_S A H0 H1 locs1 → W p l e R s m args below meth c H1 locs1 (cells + mc) (slots + ms) Q (F0 m (pc + 3) ls (v.toList ++ rest))) :
    W p l e R s m args below meth c H locs cells slots Q (F0 m pc ls st0) :=
  ax_back (va_runIN (host := host) (As := As) (rest := rest) ⟨hx, hb, hml, hown, hts⟩ (C H.size) ⟨va_cnB k hts (ax_goodc hZ w4) rfl rfl rfl w1 (hts _ w3) hd ⟨hfr, hlo⟩, hy1, hts _ w2⟩ (ax_preS kp hK (hP.sub isC hCf) (hD.sub isC hCn hC)) rfl hk hls hst (lv_room hrest) hdg ⟨hc, hs⟩) hP hD hS hA isC isR hC hR hn hdis kk
/-- invokevirtual of a class's own method -/
theorem ax_V {S : Type} {post : Option Value → S → Prop} {ws1 : S → va_W} {y : MethodName} {b : ByteArray} {n fr lo mc ms nL index k ci q0 N : Nat} {T : u_T} {fs : List Value} {ret : Option FieldType} {As st0 : List Value} {a : Nat} {own : String} (hst : st0 = As.reverse ++ .ref a :: rest)
    (hx : p.tables.exec = Jvm.exec) (hb : c.code = cc) (hml : c.maxLocals = nL) (hown : s.vm.findClass own = some m.cls) (hts : ∀ w ∈ Z, w.before args s = true) (hZ : ax_good Z) (kp : ax_bl K)
    (C : CT l cl D K Z y b n ret fr lo mc ms (.ref a :: As) wc post ws1) (w1 : Cond.methodLink own index y ∈ Z) (w2 : Cond.instanceMethod y ∈ Z) (w3 : Cond.initialized y.cls ∈ Z) (w4 : Cond.code y b n ret ∈ Z) (w5 : Cond.selects y.cls y y ∈ Z)
    (hd : y.cls ≠ "java/lang/invoke/MethodHandle" ∧ y.cls ≠ "java/lang/invoke/VarHandle" ∧ (parseMethodDescriptor y.desc).map (fun d => d.parameters.length) = some k) (hk : As.length = k) (hfr : fr + 1 ≤ R.frames) (hlo : 8 + (n + 11) + lo ≤ R.locals) (hls : ls.size = nL) (hrest : (rest.map fun v => v.category).sum ≤ 8)
    (hK : ∀ U : State, U.heap = H → s.WarmedH U.vm → K U) (hk9 : va_K D cl tys s) (hP : va_P D cl ws H) (hD : va_D A ws) (hS : va_S A H0 H locs) (hA : ∀ q, H0.size ≤ q → A q) (hci : cl[ci]? = some (y.cls, T, N)) (hcq : wc[q0]? = some (a, .inr (ci, fs))) (isC isR : List Nat) (hCf : isC.filterMap (fun i => ws[i]?) = wc) (hCn : va_nd isC = true) (hC : isC.map (fun i => ws[i]?) = wc.map some) (hR : isR.map (fun i => ws[i]?) = wr.map some) (hn : va_nd isR = true) (hdis : ∀ i ∈ isR, i ∉ isC)
    (hc : cells + mc ≤ R.cells) (hs : slots + ms ≤ R.slots) (hdg : decode cc pc = .ok (.invokevirtual index, 3))
    (kk : ∀ (v : Option Value) (u : S) (H1 : Heap) (locs1 : List Loc), post v u → va_P D cl (wr ++ ws1 u) H1 → va_D A (wr ++ ws1 u) → va_S A H0 H1 locs1 → W p l e R s m args below meth c H1 locs1 (cells + mc) (slots + ms) Q (F0 m (pc + 3) ls (v.toList ++ rest))) :
    W p l e R s m args below meth c H locs cells slots Q (F0 m pc ls st0) :=
  ax_back (va_runV (As := As) (rest := rest) (C := y.cls) ⟨hx, hb, hml, hown, hts⟩ (C H.size) ⟨callB_of k hts (ax_goodc hZ w4) rfl rfl rfl (hts _ w3) (hts _ w1) hd ⟨hfr, hlo⟩, hts _ w2, hts _ w5⟩ (ax_preV kp hK hk9 (hP.sub isC hCf) (hD.sub isC hCn hC) hci hcq) rfl hk hls hst (lv_room hrest) hdg ⟨hc, hs⟩) hP hD hS hA isC isR hC hR hn hdis kk
/-- of a nest mate -/
theorem ax_VN {S : Type} {post : Option Value → S → Prop} {ws1 : S → va_W} {y : MethodName} {b : ByteArray} {n fr lo mc ms nL index k ci q0 N : Nat} {T : u_T} {fs : List Value} {ret : Option FieldType} {As st0 : List Value} {a : Nat} {own : String} (hst : st0 = As.reverse ++ .ref a :: rest)
    (hx : p.tables.exec = Jvm.exec) (hb : c.code = cc) (hml : c.maxLocals = nL) (hown : s.vm.findClass own = some m.cls) (hts : ∀ w ∈ Z, w.before args s = true) (hZ : ax_good Z) (kp : ax_bl K)
    (C : CT l cl D K Z y b n ret fr lo mc ms (.ref a :: As) wc post ws1) {host : String} (w1 : va_Nw (.methodLinkNest own index y host) s) (w2 : Cond.instanceMethod y ∈ Z) (w3 : Cond.initialized y.cls ∈ Z) (w4 : Cond.code y b n ret ∈ Z) (w5 : Cond.selects y.cls y y ∈ Z)
    (hd : y.cls ≠ "java/lang/invoke/MethodHandle" ∧ y.cls ≠ "java/lang/invoke/VarHandle" ∧ (parseMethodDescriptor y.desc).map (fun d => d.parameters.length) = some k) (hk : As.length = k) (hfr : fr + 1 ≤ R.frames) (hlo : 8 + (n + 11) + lo ≤ R.locals) (hls : ls.size = nL) (hrest : (rest.map fun v => v.category).sum ≤ 8)
    (hK : ∀ U : State, U.heap = H → s.WarmedH U.vm → K U) (hk9 : va_K D cl tys s) (hP : va_P D cl ws H) (hD : va_D A ws) (hS : va_S A H0 H locs) (hA : ∀ q, H0.size ≤ q → A q) (hci : cl[ci]? = some (y.cls, T, N)) (hcq : wc[q0]? = some (a, .inr (ci, fs))) (isC isR : List Nat) (hCf : isC.filterMap (fun i => ws[i]?) = wc) (hCn : va_nd isC = true) (hC : isC.map (fun i => ws[i]?) = wc.map some) (hR : isR.map (fun i => ws[i]?) = wr.map some) (hn : va_nd isR = true) (hdis : ∀ i ∈ isR, i ∉ isC)
    (hc : cells + mc ≤ R.cells) (hs : slots + ms ≤ R.slots) (hdg : decode cc pc = .ok (.invokevirtual index, 3))
    (kk : ∀ (v : Option Value) (u : S) (H1 : Heap) (locs1 : List Loc), post v u → va_P D cl (wr ++ ws1 u) H1 → va_D A (wr ++ ws1 u) → va_S A H0 H1 locs1 → W p l e R s m args below meth c H1 locs1 (cells + mc) (slots + ms) Q (F0 m (pc + 3) ls (v.toList ++ rest))) :
    W p l e R s m args below meth c H locs cells slots Q (F0 m pc ls st0) :=
  ax_back (va_runVN (host := host) (As := As) (rest := rest) (C := y.cls) ⟨hx, hb, hml, hown, hts⟩ (C H.size) ⟨va_cnB k hts (ax_goodc hZ w4) rfl rfl rfl w1 (hts _ w3) hd ⟨hfr, hlo⟩, hts _ w2, hts _ w5⟩ (ax_preV kp hK hk9 (hP.sub isC hCf) (hD.sub isC hCn hC) hci hcq) rfl hk hls hst (lv_room hrest) hdg ⟨hc, hs⟩) hP hD hS hA isC isR hC hR hn hdis kk
/-- invokestatic -/
theorem ax_St {S : Type} {post : Option Value → S → Prop} {ws1 : S → va_W} {y : MethodName} {b : ByteArray} {n fr lo mc ms nL index k : Nat} {ret : Option FieldType} {As st0 : List Value} {own : String} (hst : st0 = As.reverse ++ rest)
    (hx : p.tables.exec = Jvm.exec) (hb : c.code = cc) (hml : c.maxLocals = nL) (hown : s.vm.findClass own = some m.cls) (hts : ∀ w ∈ Z, w.before args s = true) (hZ : ax_good Z) (kp : ax_bl K)
    (C : CT l cl D K Z y b n ret fr lo mc ms As wc post ws1) (w1 : Cond.methodLink own index y ∈ Z) (w2 : Cond.static y ∈ Z) (w3 : Cond.initialized y.cls ∈ Z) (w4 : Cond.code y b n ret ∈ Z)
    (hd : y.cls ≠ "java/lang/invoke/MethodHandle" ∧ y.cls ≠ "java/lang/invoke/VarHandle" ∧ (parseMethodDescriptor y.desc).map (fun d => d.parameters.length) = some k) (hk : As.length = k) (hfr : fr + 1 ≤ R.frames) (hlo : 8 + (n + 11) + lo ≤ R.locals) (hls : ls.size = nL) (hrest : (rest.map fun v => v.category).sum ≤ 8)
    (hK : ∀ U : State, U.heap = H → s.WarmedH U.vm → K U) (hP : va_P D cl ws H) (hD : va_D A ws) (hS : va_S A H0 H locs) (hA : ∀ q, H0.size ≤ q → A q) (isC isR : List Nat) (hCf : isC.filterMap (fun i => ws[i]?) = wc) (hCn : va_nd isC = true) (hC : isC.map (fun i => ws[i]?) = wc.map some) (hR : isR.map (fun i => ws[i]?) = wr.map some) (hn : va_nd isR = true) (hdis : ∀ i ∈ isR, i ∉ isC)
    (hc : cells + mc ≤ R.cells) (hs : slots + ms ≤ R.slots) (hdg : decode cc pc = .ok (.invokestatic index, 3))
    (kk : ∀ (v : Option Value) (u : S) (H1 : Heap) (locs1 : List Loc), post v u → va_P D cl (wr ++ ws1 u) H1 → va_D A (wr ++ ws1 u) → va_S A H0 H1 locs1 → W p l e R s m args below meth c H1 locs1 (cells + mc) (slots + ms) Q (F0 m (pc + 3) ls (v.toList ++ rest))) :
    W p l e R s m args below meth c H locs cells slots Q (F0 m pc ls st0) :=
  ax_back (va_runS (As := As) (rest := rest) ⟨hx, hb, hml, hown, hts⟩ (C H.size) ⟨callB_of k hts (ax_goodc hZ w4) rfl rfl rfl (hts _ w3) (hts _ w1) hd ⟨hfr, hlo⟩, hts _ w2⟩ (ax_preS kp hK (hP.sub isC hCf) (hD.sub isC hCn hC)) rfl hk hls hst (lv_room hrest) hdg ⟨hc, hs⟩) hP hD hS hA isC isR hC hR hn hdis kk
/-- a new array of a primitive kind whose class is in the world's tables already: no new kind -/
theorem ax_newa {atype : ArrayType} (hx : p.tables.exec = Jvm.exec) (hb : c.code = cc) (harr : (Cond.arrayClass (newarray.typeOf atype)).before args s = true) {ty : FieldType} (hty : newarray.typeOf atype = ty) (hK : va_K D cl tys s) (t0 : Nat) {cA : ClassId} (ht0 : tys[t0]? = some (cA, ty)) (hpr : ∀ C, ty ≠ .object C) (hP : va_P D cl ws H) (hD : va_D A ws) (hS : va_S A H0 H locs) (hA : ∀ q, H0.size ≤ q → A q)
    {n : Int32} {N' : Nat} {a0 : vp_A} (ha : ∀ cA : ClassId, vp_cell cA a0 = arrV cA N' (fun _ => defaultValue ty)) (hn : ¬ n < 0) (hN : n.toNatClampNeg = N') (hbytes : N' * componentBytes ty ≤ 536870912) (hcells : cells + 1 ≤ R.cells) (hslots : slots + N' ≤ R.slots) (hdg : decode cc pc = .ok (.newarray atype, 2))
    (kk : ∀ (q : Nat) (H1 : Heap), va_P D cl (ws ++ [(q, .inl (cA, a0))]) H1 → va_D A (ws ++ [(q, .inl (cA, a0))]) → va_S A H0 H1 locs →
      W p l e R s m args below meth c H1 locs (cells + 1) (slots + N') Q (F0 m (pc + 2) ls (.ref q :: rest))) : W p l e R s m args below meth c H locs cells slots Q (F0 m pc ls (.int n :: rest)) := by
  refine va_newa hx hb harr hty hK hP hD hS hA ha hn hN hbytes hcells hslots hdg (fun q cB H1 hK1 hP1 hD1 hS1 => ?_)
  have h1 : va_RA s cA ty := (hK.2 t0 _ ht0).2
  have h2 : va_RA s cB ty := (hK1.2 tys.length (cB, ty) (by simp)).2
  have he : cB = cA := by
    cases ty with
    | object C => exact absurd rfl (hpr C)
    | _ => exact Option.some.inj (h2.symm.trans h1)
  subst he
  exact kk q H1 hP1 hD1 hS1
/-- a new array of references that nobody asks for again -/
theorem ax_newq (hx : p.tables.exec = Jvm.exec) (hb : c.code = cc) {own C : String} {index : Nat} (hown : s.vm.findClass own = some m.cls) (hclink : (Cond.classLink own index C).before args s = true) (hover : va_AO C s) (hK : va_K D cl tys s) (hP : va_P D cl ws H) (hD : va_D A ws) (hS : va_S A H0 H locs) (hA : ∀ q, H0.size ≤ q → A q)
    {n : Int32} {N' : Nat} (hn : ¬ n < 0) (hN : n.toNatClampNeg = N') (hbytes : N' * 4 ≤ 536870912) (hcells : cells + 1 ≤ R.cells) (hslots : slots + N' ≤ R.slots) (hdg : decode cc pc = .ok (.anewarray index, 3))
    (kk : ∀ (q : Nat) (H1 : Heap), va_P D cl ws H1 → va_D A ws → va_S A H0 H1 locs → W p l e R s m args below meth c H1 locs (cells + 1) (slots + N') Q (F0 m (pc + 3) ls (.ref q :: rest))) : W p l e R s m args below meth c H locs cells slots Q (F0 m pc ls (.int n :: rest)) := by
  refine va_newq hx hb hown hclink hover hK hP hD hS hA hn hN hbytes hcells hslots hdg (fun q cA H1 hK1 hP1 hD1 hS1 => ?_)
  exact kk q H1 (fun k x hx => hP1 k x (by rw [List.getElem?_append_left (List.getElem?_eq_some_iff.mp hx).1]; exact hx)) hD hS1
end AX
