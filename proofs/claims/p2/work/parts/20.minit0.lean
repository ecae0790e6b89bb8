def strs : List (Nat × String) := [(211, " + "), (213, " - "), (215, " * "), (217, " / "), (219, " % "), (221, " & "), (223, " | "), (225, " ^ "), (227, " << "), (229, " >> "), (235, " == "), (237, " != "), (239, " < "), (241, " <= "), (243, " > "), (245, " >= ")]
def kM (dC : Nat → ClassId) (dI : Nat → Nat → Nat) (ca : Nat → ClassId) (sa : Nat → Nat) (h0 : Nat) (U : State) : Prop :=
  mK dC dI ca U ∧ kA hAtoms U ∧ ∀ (i : Nat) (z : Nat × String), strs[i]? = some z → vk_R R_MM z.1 z.2 (sa i) U ∧ va_Any "java/lang/String" U U.heap (sa i) ∧ sa i ≠ h0
theorem hA_stay : hAtoms.all ax_stay = true := by decide +kernel
theorem hA_st : ∀ C n d, Cond.isRef (.static C n d) ∈ hAtoms → Cond.laysStatic C n d ∈ hAtoms ∧ Cond.initialized C ∈ hAtoms := by
  have h : hAtoms.all (fun w => match w with
    | .isRef (.static C n d) => decide (Cond.laysStatic C n d ∈ hAtoms) && decide (Cond.initialized C ∈ hAtoms)
    | _ => true) = true := by decide +kernel
  intro C n d hw
  have h1 := List.all_eq_true.mp h _ hw
  simpa using h1
theorem kH_bl (dC : Nat → ClassId) (dI : Nat → Nat → Nat) (ca : Nat → ClassId) (h0 : Nat) : ax_bl (kH dC dI ca h0) := by
  intro U g mk a h
  obtain ⟨h1, h2, kX, h3, h4⟩ := h
  exact ⟨mK_bl dC dI ca U g mk a h1, kA_up hA_stay hA_st (s := U) (U := U.calling g mk a) (State.WarmedH.refl U) (fun _ _ h _ => h) h2, kX, h3, h4⟩
theorem ax_ofA {S : Type} {l : Launch} {cl : List vw_C} {D : va_G} {K : State → Prop} {Z : List Cond} {y : MethodName} {b : ByteArray} {n : Nat} {r : Option FieldType} {fr lo mc ms : Nat} {As : List Value} {ws : va_W} {post : Option Value → S → Prop} {ws1 : S → va_W}
    (hy : plainName y.cls = true) (hn : (lg_sl As).length ≤ n)
    (body : ∀ (p : Program) (e : Env) (s : State) (m : MethodId) (below : List Frame) (meth : Method) (c : Code) (A : Nat → Prop) (ls : Array Slot), ax_At p s m meth c As.toArray Z y b n r → K s → va_P D cl ws s.heap → va_D A ws → va_S A s.heap s.heap [] → (∀ q : Nat, s.heap.size ≤ q → A q) → (∀ q : Nat, A q → (∃ (k : Nat) (e : va_E), ws[k]? = some (q, e)) ∨ s.heap.size ≤ q) → lv_has ls n (lv_args 0 As) →
      W p l e ({ frames := fr, cells := mc, slots := ms, locals := lo }) s m As.toArray below meth c s.heap [] 0 0 (MQ below (ax_Q post (ax_B cl D A ws1) A) As.toArray s mc ms A) (F0 m 0 ls [])) :
    CT l cl D K Z y b n r fr lo mc ms As ws post ws1 := by
  intro sz
  refine Met.ofW (cc := b) (maxL := n) (ret := r) hy rfl ?_
  intro p e s m args below meth c s₁ B hml hv
  obtain ⟨rfl, hsz, hP, hK, hD0⟩ := hv
  subst hsz
  have hD := hD0.self (sz := s.heap.size)
  have hts0 := atoms_spec (ws := ax_w Z y b n r) B.pre
  rw [lg_entry_eq]
  exact body p e s m below meth c _ _ ⟨B.exec, B.bytes, B.returns, hml, findClass_of_methodNamed B.named, fun w h => hts0 w (List.mem_cons_of_mem _ h), B.notSynchronized, (name_of_methodNamed B.named B.method).1⟩ hK hP hD va_S.rf (fun q h => Or.inr h) (fun q h => h) (lv_entry As hn)
theorem any_at {E : String} {s : State} {H : Heap} {locs : List Loc} {A : Nat → Prop} {a : Nat} (h : va_Any E s s.heap a) (hS : va_S A s.heap H locs) (hn : ¬ A a) : va_Any E s H a := by
  obtain ⟨cell, h1, h2⟩ := h
  exact ⟨cell, by rw [hS.2.1 a (Array.getElem?_eq_some_iff.mp h1).1 hn]; exact h1, h2⟩
section AXN
variable {p : Program} {l : Launch} {e : Env} {R : Room} {s : State} {m : MethodId} {args : Array Value} {below : List Frame} {meth : Method} {c : Code} {H : Heap} {locs : List Loc} {cells slots : Nat} {Q : State → Prop}
variable {cl : List vw_C} {D : va_G} {tys : List (ClassId × FieldType)} {A : Nat → Prop} {ws : va_W} {H0 : Heap} {cc : ByteArray} {pc : Nat} {ls : Array Slot} {rest : List Value}
/-- a new object, with its cell as it was made -/
theorem ax_newF (hexec : p.tables.exec = Jvm.exec) (hb : c.code = cc) {own C : String} {T : u_T} {N ci index : Nat} {Ts : List Cond} (hts : ∀ w ∈ Ts, w.before args s = true) (hin : ∀ w ∈ u_ws C T N, w ∈ Ts) (ty : Nat → FieldType) (hty : ∀ k, k < N → parseFieldDescriptor (T k).2.2.1 = some (ty k)) (hown : s.vm.findClass own = some m.cls) (hcl : (Cond.classLink own index C).before args s = true) (hinst : (Cond.instantiable C N).before args s = true) (hini : (Cond.initialized C).before args s = true)
    (hK : va_K D cl tys s) (hP : va_P D cl ws H) (hD : va_D A ws) (hS : va_S A H0 H locs) (hA : ∀ q, H0.size ≤ q → A q) (hc : cl[ci]? = some (C, T, N)) {fs : List Value} (hfs : ∀ j, j < N → defaultValue (ty j) = vp_V fs j) (hcells : cells + 1 ≤ R.cells) (hslots : slots + N ≤ R.slots) (hdg : decode cc pc = .ok (.new index, 3))
    (kk : ∀ (q : Nat) (H1 : Heap), (∃ kX : Class, s.vm.classes[D.1 ci]? = some kX ∧ H1[q]? = some (freshCell (D.1 ci) kX)) → va_P D cl (ws ++ [(q, .inr (ci, fs))]) H1 → va_D A (ws ++ [(q, .inr (ci, fs))]) → va_S A H0 H1 locs →
      W p l e R s m args below meth c H1 locs (cells + 1) (slots + N) Q (F0 m (pc + 3) ls (.ref q :: rest))) : W p l e R s m args below meth c H locs cells slots Q (F0 m pc ls rest) := by
  have hKn := hK.1 ci _ hc
  refine W.newcK hexec hb hown hcl hinst hini rfl hdg hcells hslots hKn.2.1 rfl fun H1 kC hkC e1 z1 o1 => ?_
  have hk : ∀ (k : Nat) (x : Nat × va_E), ws[k]? = some x → H1[x.1]? = H[x.1]? := fun k x hx => o1 x.1 ((hP k x hx).lt)
  refine kk H.size H1 ⟨kC, hkC, e1⟩ ((hP.kept hk).app (fun k x hx => ?_)) (hD.push hP rfl (hA _ hS.1)) ⟨Nat.le_trans hS.1 (by omega), fun x h1 h2 => (o1 x (Nat.lt_of_lt_of_le h1 hS.1)).trans (hS.2.1 x h1 h2), hS.2.2⟩
  have hz : k < 1 := (List.getElem?_eq_some_iff.mp hx).1
  rw [show k = 0 by omega] at hx
  cases hx
  exact ⟨_, hc, (u_born ty hts hin hKn hkC e1 hty).to hfs⟩
/-- a new array of references whose kind is in the world's tables -/
theorem ax_newqK (hx : p.tables.exec = Jvm.exec) (hb : c.code = cc) {own C : String} {index : Nat} (hown : s.vm.findClass own = some m.cls) (hclink : (Cond.classLink own index C).before args s = true) (hover : va_AO C s) (hK : va_K D cl tys s) (t0 : Nat) {cA : ClassId} (ht0 : tys[t0]? = some (cA, .object C)) (hP : va_P D cl ws H) (hD : va_D A ws) (hS : va_S A H0 H locs) (hA : ∀ q, H0.size ≤ q → A q)
    {n : Int32} {N' : Nat} (hn : ¬ n < 0) (hN : n.toNatClampNeg = N') (hbytes : N' * 4 ≤ 536870912) (hcells : cells + 1 ≤ R.cells) (hslots : slots + N' ≤ R.slots) (hdg : decode cc pc = .ok (.anewarray index, 3))
    (kk : ∀ (q : Nat) (H1 : Heap), va_P D cl (ws ++ [(q, .inl (cA, N', .inr (.inr (.inr (.inr (fun _ => none))))))]) H1 → va_D A (ws ++ [(q, .inl (cA, N', .inr (.inr (.inr (.inr (fun _ => none))))))]) → va_S A H0 H1 locs → W p l e R s m args below meth c H1 locs (cells + 1) (slots + N') Q (F0 m (pc + 3) ls (.ref q :: rest))) : W p l e R s m args below meth c H locs cells slots Q (F0 m pc ls (.int n :: rest)) := by
  refine va_newq hx hb hown hclink hover hK hP hD hS hA hn hN hbytes hcells hslots hdg (fun q cB H1 hK1 hP1 hD1 hS1 => ?_)
  obtain ⟨kA1, cp1, -, -, -, h1⟩ := (hK.2 t0 _ ht0).2
  obtain ⟨kA2, cp2, -, -, -, h2⟩ := (hK1.2 tys.length (cB, .object C) (by simp)).2
  have he : cB = cA := Option.some.inj (h2.symm.trans h1)
  subst he
  exact kk q H1 hP1 hD1 hS1
end AXN
