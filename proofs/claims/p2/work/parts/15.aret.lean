section AXZ
variable {p : Program} {l : Launch} {e : Env} {R : Room} {s : State} {m : MethodId} {args : Array Value} {below : List Frame} {meth : Method} {c : Code} {H : Heap} {locs : List Loc} {cells slots : Nat} {Q : State → Prop}
variable {cl : List vw_C} {D : va_G} {A : Nat → Prop} {ws : va_W} {cc : ByteArray} {pc : Nat} {ls : Array Slot}
theorem ax_aret {S : Type} {post : Option Value → S → Prop} {ws1 : S → va_W} {mc ms : Nat} {v : Value} {rt : FieldType} (hx : p.tables.exec = Jvm.exec) (hb : c.code = cc) (hr : meth.sig.returnType = some rt) (hrt : (∃ n, rt = .object n) ∨ ∃ t, rt = .array t) (hv : v = .null ∨ ∃ a, v = .ref a) (hlocks : meth.locks = false) (hP : va_P D cl ws H) (hD : va_D A ws) (hS : va_S A s.heap H locs) (u : S) (hp : post (some v) u) (is : List Nat) (h1 : is.filterMap (fun i => ws[i]?) = ws1 u) (hn : va_nd is = true) (h2 : is.map (fun i => ws[i]?) = (ws1 u).map some) (hc : cells ≤ mc) (hs : slots ≤ ms) (hdg : decode cc pc = .ok (.areturn, 1)) :
    W p l e R s m args below meth c H locs cells slots (MQ below (ax_Q post (ax_B cl D A ws1) A) args s mc ms A) (F0 m pc ls [v]) := by
  refine W.widen hc hs ?_
  exact W.aret hx hb hr hrt hv (fun t ht hW => ⟨⟨_, u, rfl, hp, by rw [ht]; exact hP.sub is h1, hD.sub is hn h2⟩, hS.F ht⟩) hS.2.2 hdg hlocks
end AXZ
