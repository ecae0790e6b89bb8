theorem d_MM_in_0 : decode b_MM_in 0 = .ok (.lload_n 0, 1) := by decide +kernel
theorem d_MM_in_1 : decode b_MM_in 1 = .ok (.lload_n 2, 1) := by decide +kernel
theorem d_MM_in_2 : decode b_MM_in 2 = .ok (.lcmp, 1) := by decide +kernel
theorem d_MM_in_3 : decode b_MM_in 3 = .ok (.ifCond .lt 14, 3) := by decide +kernel
theorem d_MM_in_6 : decode b_MM_in 6 = .ok (.lload_n 0, 1) := by decide +kernel
theorem d_MM_in_7 : decode b_MM_in 7 = .ok (.lload 4, 2) := by decide +kernel
theorem d_MM_in_9 : decode b_MM_in 9 = .ok (.lcmp, 1) := by decide +kernel
theorem d_MM_in_10 : decode b_MM_in 10 = .ok (.ifCond .gt 7, 3) := by decide +kernel
theorem d_MM_in_13 : decode b_MM_in 13 = .ok (.iconst 1, 1) := by decide +kernel
theorem d_MM_in_14 : decode b_MM_in 14 = .ok (.goto 4, 3) := by decide +kernel
theorem d_MM_in_17 : decode b_MM_in 17 = .ok (.iconst 0, 1) := by decide +kernel
theorem d_MM_in_18 : decode b_MM_in 18 = .ok (.ireturn, 1) := by decide +kernel
theorem lg_lt0 {x y : Int64} : lg_cmp x y < 0 ↔ x < y := by
  unfold lg_cmp
  by_cases h1 : y < x
  · have h2 : ¬ x < y := by rw [Int64.lt_iff_toInt_lt] at *; omega
    simp [h1, h2]
  · by_cases h3 : x = y
    · subst h3; simp
    · have h2 : x < y := by
        rw [Int64.lt_iff_toInt_lt] at *
        have : x.toInt ≠ y.toInt := fun h => h3 (Int64.toInt_inj.mp h)
        omega
      simp [h1, h3, h2]
theorem lg_gt0 {x y : Int64} : 0 < lg_cmp x y ↔ y < x := by
  unfold lg_cmp
  by_cases h1 : y < x
  · simp [h1]
  · by_cases h3 : x = y
    · subst h3; simp
    · simp [h1, h3]
set_option maxHeartbeats 4000000 in
theorem c_MM_in (l : Launch) (dC : Nat → ClassId) (dI : Nat → Nat → Nat) (ca : Nat → ClassId) (x lo hi : Int64) : CT l classes (dC, dI) (mK dC dI ca) wm y_MM_in b_MM_in 6 (some .boolean) 0 0 0 0 [.long x, .long lo, .long hi] [] (fun (v : Option Value) (_ : Unit) => (v = some (.int 1) ∧ lo ≤ x ∧ x ≤ hi) ∨ (v = some (.int 0) ∧ ¬ (lo ≤ x ∧ x ≤ hi))) (fun _ => []) := by
  refine ax_of (by decide) (Nat.le_of_ble_eq_true rfl) ?_
  intro p e s m below meth c A ls hAt hK hP hD hS hA hl
  obtain ⟨hx, hb, hr, hml, hown, hts, hlocks, hin⟩ := hAt
  have hl : lv_has ls 6 [(0, .long x), (2, .long lo), (4, .long hi)] := hl
  refine lv_lload_n hx hb d_MM_in_0 rfl (lv_at hl 0 rfl) ?_
  refine lv_lload_n hx hb d_MM_in_1 rfl (lv_at hl 1 rfl) ?_
  refine W.lcmp hx hb d_MM_in_2 ?_
  refine lv_if_lt (tgt := 17) hx hb d_MM_in_3 (by decide) (fun h1 => ?_) (fun h1 => ?_)
  · refine lv_iconst (v := 0) hx hb d_MM_in_17 (by decide) ?_
    exact ax_zret hx hb hr (by decide) hlocks hP hD hS () (Or.inr ⟨rfl, fun h => Int64.not_le.mpr (lg_lt0.mp h1) h.1⟩) [] rfl (by decide) rfl (Nat.le_refl _) (Nat.le_refl _) d_MM_in_18
  · refine lv_lload_n hx hb d_MM_in_6 rfl (lv_at hl 0 rfl) ?_
    refine lv_lload hx hb d_MM_in_7 (lv_at hl 2 rfl) ?_
    refine W.lcmp hx hb d_MM_in_9 ?_
    refine lv_if_gt (tgt := 17) hx hb d_MM_in_10 (by decide) (fun h2 => ?_) (fun h2 => ?_)
    · refine lv_iconst (v := 0) hx hb d_MM_in_17 (by decide) ?_
      exact ax_zret hx hb hr (by decide) hlocks hP hD hS () (Or.inr ⟨rfl, fun h => Int64.not_le.mpr (lg_gt0.mp h2) h.2⟩) [] rfl (by decide) rfl (Nat.le_refl _) (Nat.le_refl _) d_MM_in_18
    · refine lv_iconst (v := 1) hx hb d_MM_in_13 (by decide) ?_
      refine lv_goto (tgt := 18) hx hb d_MM_in_14 (by decide) ?_
      exact ax_zret hx hb hr (by decide) hlocks hP hD hS () (Or.inl ⟨rfl, Int64.not_lt.mp (fun h => h1 (lg_lt0.mpr h)), Int64.not_lt.mp (fun h => h2 (lg_gt0.mpr h))⟩) [] rfl (by decide) rfl (Nat.le_refl _) (Nat.le_refl _) d_MM_in_18
theorem in_no {x : Int64} : ¬ (0 ≤ x ∧ x ≤ -1) := by
  intro h
  have h1 := Int64.le_iff_toInt_le.mp h.1
  have h2 := Int64.le_iff_toInt_le.mp h.2
  have e1 : (0 : Int64).toInt = 0 := by decide
  have e2 : (-1 : Int64).toInt = -1 := by decide
  omega
/-- the fields of a fresh reference: its refs by q, all numbers 0 but thrown -/
def mF (q : Nat → Nat) (th : Int32) : List Value := [.int th, .ref (q 1), .ref (q 2), .ref (q 3), .ref (q 4), .ref (q 5), .int 0, .int 0, .int 0, .ref (q 9), .ref (q 10), .ref (q 11), .ref (q 12), .int 0, .null, .ref (q 15), .int 0, .ref (q 17), .ref (q 18), .ref (q 19), .ref (q 20), .ref (q 21), .ref (q 22), .int 0, .int 0, .int 0, .int 0, .ref (q 27), .ref (q 28), .ref (q 29), .ref (q 30), .ref (q 31), .ref (q 32), .ref (q 33), .int 0, .ref (q 35), .ref (q 36), .ref (q 37), .ref (q 38), .ref (q 39), .ref (q 40), .ref (q 41), .ref (q 42), .ref (q 43), .ref (q 44), .ref (q 45), .ref (q 46), .ref (q 47), .ref (q 48), .ref (q 49), .ref (q 50), .ref (q 51), .ref (q 52), .ref (q 53), .ref (q 54), .ref (q 55), .ref (q 56), .ref (q 57), .ref (q 58), .ref (q 59), .ref (q 60), .ref (q 61), .int 0, .int 0, .ref (q 64), .int 0, .int 0, .int 0, .int 0, .int 0, .ref (q 70), .null, .ref (q 72), .ref (q 73), .int 0, .int 0, .ref (q 76), .ref (q 77), .ref (q 78), .int 0, .ref (q 80), .null, .int 0, .int 0, .int 0, .int 0, .int 0, .null, .null, .int 0, .ref (q 90), .ref (q 91), .int 0, .ref (q 93), .ref (q 94), .ref (q 95), .ref (q 96), .int 0, .int 0, .int 0, .int 0, .int 0, .int 0, .ref (q 103), .ref (q 104), .int 0, .ref (q 106), .null, .ref (q 108), .ref (q 109), .ref (q 110), .ref (q 111), .ref (q 112), .ref (q 113), .ref (q 114), .int 0, .ref (q 116), .ref (q 117), .ref (q 118), .ref (q 119), .ref (q 120), .ref (q 121), .ref (q 122), .ref (q 123), .ref (q 124), .ref (q 125), .ref (q 126), .ref (q 127), .ref (q 128), .ref (q 129), .int 0, .int 0]
