/-! ROWS FOR THE SECOND SIDE -/
section AXA
variable {p : Program} {l : Launch} {e : Env} {R : Room} {s : State} {m : MethodId} {args : Array Value} {below : List Frame} {meth : Method} {c : Code} {H : Heap} {locs : List Loc} {cells slots : Nat} {Q : State → Prop}
variable {cl : List vw_C} {D : va_G} {tys : List (ClassId × FieldType)} {A : Nat → Prop} {ws : va_W} {H0 : Heap} {cc : ByteArray} {pc : Nat} {ls : Array Slot} {rest : List Value}
/-- a new array of arrays that nobody asks for again -/
theorem ax_newqA (hx : p.tables.exec = Jvm.exec) (hb : c.code = cc) {own : String} {ty : FieldType} {index : Nat} (hown : s.vm.findClass own = some m.cls) (hclink : (Cond.classLink own index (FieldType.array ty).toString).before args s = true) (hover : sAO ty s) (hP : va_P D cl ws H) (hD : va_D A ws) (hS : va_S A H0 H locs)
    {n : Int32} {N' : Nat} (hn : ¬ n < 0) (hN : n.toNatClampNeg = N') (hbytes : N' * 4 ≤ 536870912) (hcells : cells + 1 ≤ R.cells) (hslots : slots + N' ≤ R.slots) (hdg : decode cc pc = .ok (.anewarray index, 3))
    (kk : ∀ (q : Nat) (H1 : Heap), va_P D cl ws H1 → va_D A ws → va_S A H0 H1 locs → W p l e R s m args below meth c H1 locs (cells + 1) (slots + N') Q (F0 m (pc + 3) ls (.ref q :: rest))) : W p l e R s m args below meth c H locs cells slots Q (F0 m pc ls (.int n :: rest)) := by
  subst hN
  intro T hT X
  have hpl : e.platform.magicAccessors = ({} : Platform).magicAccessors := by rw [X.admits.platform]
  obtain ⟨comp, cA, kA, hcomp, hidx, hkA, hkindA⟩ := hover
  obtain ⟨kComp, hkComp, -⟩ := Vm.findClass_spec hcomp
  obtain ⟨cc9, hfcc, hcl⟩ := Cond.classLink_spec hown hclink e.platform hpl
  cases hcomp.symm.trans hfcc
  obtain ⟨hg1, hwarm, hready⟩ := State.classEntry (e := e) X.warmed hcl
  generalize T.vm.noted m.cls index (.cls comp) = vm1 at hg1 hwarm hready
  obtain ⟨kComp1, hkComp1, -⟩ := hwarm.alike.2.2 _ _ hkComp
  obtain ⟨kA1, hkA1, heA⟩ := hwarm.alike.2.2 _ _ hkA
  have hkind1 : kA1.kind = .array comp (.array ty) := by rw [heA]; exact hkindA
  have hidx1 : (vm1.classes.findIdx? fun (x : Class) => match x.kind with | .array component _ => component == comp | _ => false) = some cA := by
    rw [hwarm.alike.findIdx?_eqK _ (fun _ => rfl)]
    exact hidx
  have hlimit : ¬ n.toNatClampNeg > e.platform.arrayLengthLimit := by rw [Launch.admits_arrayLengthLimit X.admits]; omega
  have hheap : ¬ n.toNatClampNeg * componentBytes (.array ty) > e.platform.maxHeapBytes := by
    rw [Launch.admits_maxHeapBytes X.admits]
    show ¬ n.toNatClampNeg * 4 > 536870912
    omega
  have X1 := X.noted hwarm
  have X2 := X1.pushed { cls := cA, slots := Array.replicate n.toNatClampNeg .null, vm := .none }
  obtain ⟨hr1, hr2⟩ := X.roomAbove hcells hslots
  generalize hH1 : H.push ({ cls := cA, slots := Array.replicate n.toNatClampNeg .null, vm := .none } : Cell) = H1
  have z1 : H1.size = H.size + 1 := by rw [← hH1, Array.size_push]
  have o1 : ∀ q : Nat, q < H.size → H1[q]? = H[q]? := fun q hq => by rw [← hH1, Array.getElem?_push, if_neg (Nat.ne_of_lt hq)]
  have hk : ∀ (k : Nat) (x : Nat × va_E), ws[k]? = some x → H1[x.1]? = H[x.1]? := fun k x hx => o1 x.1 ((hP k x hx).lt)
  have hh : ((T.setVm vm1).pushCell { cls := cA, slots := Array.replicate n.toNatClampNeg .null, vm := .none }).heap = H1 := by
    rw [← hH1, ← hT]; rfl
  obtain ⟨t, a1, b1⟩ := kk H.size H1 (hP.kept hk) hD ⟨Nat.le_trans hS.1 (by omega), fun x h1 h2 => (o1 x (Nat.lt_of_lt_of_le h1 hS.1)).trans (hS.2.1 x h1 h2), hS.2.2⟩ _ hh (by simpa using X2)
  refine ⟨t, ?_, b1⟩
  jvm_step X.here [hx, hb, hdg, anewarray.wp_cold (e := e) (s := T) (f := F0 m pc ls (.int n :: rest)) X.here.top hg1 hready,
    anewarray.wp_ready (e := e) (s := T.setVm vm1) (f := F0 m pc ls (.int n :: rest)) (kc := kComp1) (k := kA1) (type := .array ty) X.here.top hready hkComp1 hidx1 hkA1 hkind1 rfl rfl hn hlimit hheap]
  refine ⟨by show T.heap.size < _; omega, by show T.slotsUsed + _ ≤ _; exact hr2, ?_⟩
  rw [← hT] at a1
  exact a1
end AXA
