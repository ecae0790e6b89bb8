/-! WHAT THE REFERENCE'S CONSTRUCTOR NEEDS BESIDE -/
/-- a static that is a reference stays one where its class's cell is the same -/
theorem st_kept {C n d : String} {s U : State} (hW : s.WarmedH U.vm) (hst : ∀ (q : Nat) (cell : Cell), s.heap[q]? = some cell → cell.vm.isStatics = true → U.heap[q]? = some cell)
    (h : (Cond.isRef (.static C n d)).before #[] s = true) (hl : (Cond.laysStatic C n d).before #[] s = true) (hi : (Cond.initialized C).before #[] s = true) : (Cond.isRef (.static C n d)).before #[] U = true := by
  have hz : va_Zq C n d (fun q => s.heap.size ≤ q) s s.heap := va_Zqof (args := #[]) hl hi h (fun a ha => Nat.not_le.mpr ha)
  have key : ∀ v : Value, v.isRef = true → va_Z C n d v (fun q => s.heap.size ≤ q) s s.heap → (Cond.isRef (.static C n d)).before #[] U = true := by
    intro v hv hz
    obtain ⟨cf, kf, fi, f, a, cell, h1, h2, h3, h4, h5, h6, h7, -⟩ := va_Z.moved hW.alike hz
    have h8 := hst a cell h5 h6
    have he : (Term.static C n d).eval #[] U none [] U = some v := by
      simp [Term.eval, State.fieldNamed?, h1, h2, h4, h8, h6, h7]
    simp only [Cond.before, Cond.holds, Cond.value, he]
    cases v <;> simp [Value.isRef] at hv ⊢
  rcases hz with hz | ⟨t, hz⟩
  · exact key _ rfl hz
  · exact key _ rfl hz
theorem ls_kept {C n d : String} {s U : State} (hW : s.WarmedH U.vm) (hst : ∀ (q : Nat) (cell : Cell), s.heap[q]? = some cell → cell.vm.isStatics = true → U.heap[q]? = some cell)
    (hl : (Cond.laysStatic C n d).before #[] s = true) : (Cond.laysStatic C n d).before #[] U = true := by
  obtain ⟨c, k, i, f, a, cell, hc, hi, h1, ha, hcell, hs, hcls, hlt, hty⟩ := Cond.laysStatic_spec (Cond.laysStatic_setVm hW.alike hl)
  exact Cond.laysStatic_of (s := U) hc hi h1 ha (hst a cell hcell hs) hs hcls hlt hty
/-- atoms that stay: words of the tables, and statics that are references -/
def ax_stay : Cond → Bool
  | .isRef (.static _ _ _) => true
  | .laysStatic _ _ _ => true
  | .declares _ => true
  | .castable _ _ => true
  | w => goodWord w
theorem kA_up {L : List Cond} (hL : L.all ax_stay = true) (hS : ∀ C n d, Cond.isRef (.static C n d) ∈ L → Cond.laysStatic C n d ∈ L ∧ Cond.initialized C ∈ L) {s U : State} (hW : s.WarmedH U.vm) (hst : ∀ (q : Nat) (cell : Cell), s.heap[q]? = some cell → cell.vm.isStatics = true → U.heap[q]? = some cell) (h : kA L s) : kA L U := by
  intro w hw
  have h1 := List.all_eq_true.mp hL w hw
  by_cases hg : goodWord w = true
  · exact word_at hW (good_of_word hg) (h w hw)
  · cases w with
    | isRef t =>
      cases t with
      | static C n d =>
        obtain ⟨a, b⟩ := hS C n d hw
        exact st_kept hW hst (h _ hw) (h _ a) (h _ b)
      | _ => exact absurd h1 hg
    | laysStatic C n d => exact ls_kept hW hst (h _ hw)
    | declares x => exact va_Nw.warmD hW (h _ hw)
    | castable a b => exact va_Nw.warmC hW (h _ hw)
    | _ => exact absurd h1 hg
