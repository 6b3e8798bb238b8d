/-! pure words of what is asked -/
def setF4 (w : Nat → Int32) (x : Int32) : Int32 := (if w 0 = x then 1 else 0) ||| (if w 1 = x then 2 else 0) ||| (if w 2 = x then 4 else 0) ||| (if w 3 = x then 8 else 0)
def lockF (h : Nat → Int32) : Int32 := (if h 0 = -1 then 0 else 1) ||| (if h 1 = -1 then 0 else 2) ||| (if h 2 = -1 then 0 else 4)
noncomputable def holdF (w : Nat → Int32) (x : Int32) : Int32 := cif (inR x 3) (w (40 + x.toNatClampNeg)) (-1000000001)
theorem sx_three (o : Int32) : o = nI 0 ∨ o = nI 1 ∨ o = nI 2 ∨ (¬ o = nI 0 ∧ ¬ o = nI 1 ∧ ¬ o = nI 2) := by
  by_cases h0 : o = nI 0
  · exact Or.inl h0
  · by_cases h1 : o = nI 1
    · exact Or.inr (Or.inl h1)
    · by_cases h2 : o = nI 2
      · exact Or.inr (Or.inr (Or.inl h2))
      · exact Or.inr (Or.inr (Or.inr ⟨h0, h1, h2⟩))
theorem sx_outk {o : Int32} {k : Nat} (hk : k < 2 ^ 31 := by decide) (h : ¬ inR o k) : o.toInt < 0 ∨ ((k : Int) - 1) < o.toInt := by
  by_cases h1 : o.toInt < 0
  · exact Or.inl h1
  · refine Or.inr (Classical.byContradiction fun q => h ⟨o.toInt.toNat, by omega, ?_⟩)
    apply Int32.toInt_inj.mp
    rw [nI_toInt (by omega)]
    omega
theorem sx_out {o : Int32} (h : ¬ o = nI 0 ∧ ¬ o = nI 1 ∧ ¬ o = nI 2) : o.toInt < 0 ∨ 2 < o.toInt := by
  have := sx_outk (o := o) (k := 3) (by decide) (fun ⟨j, hj, e⟩ => by
    rcases (show j = 0 ∨ j = 1 ∨ j = 2 by omega) with rfl | rfl | rfl
    · exact h.1 e
    · exact h.2.1 e
    · exact h.2.2 e)
  simpa using this
theorem sx_eight (o : Int32) : o = nI 0 ∨ o = nI 1 ∨ o = nI 2 ∨ o = nI 3 ∨ o = nI 4 ∨ o = nI 5 ∨ o = nI 6 ∨ o = nI 7 ∨ ¬ inR o 8 := by
  by_cases h : inR o 8
  · obtain ⟨j, hj, rfl⟩ := h
    rcases (show j = 0 ∨ j = 1 ∨ j = 2 ∨ j = 3 ∨ j = 4 ∨ j = 5 ∨ j = 6 ∨ j = 7 by omega) with rfl | rfl | rfl | rfl | rfl | rfl | rfl | rfl <;> simp
  · simp [h]
noncomputable def clockF (w : Nat → Int32) (o x th : Int32) : Int32 :=
  cif (¬ inR th 4) (-1000000001) (if o = nI 0 then cif (inR x 4) (w (4 + 4 * x.toNatClampNeg + th.toNatClampNeg)) (-1000000001) else if o = nI 1 then cif (inR x 3) (w (20 + 4 * x.toNatClampNeg + th.toNatClampNeg)) (-1000000001) else if o = nI 2 then cif (inR x 2) (w (32 + 4 * x.toNatClampNeg + th.toNatClampNeg)) (-1000000001) else -1000000002)
theorem sx_ev {n : Nat} {x : Int32} (hn : n ≤ 160) : (0 ≤ x.toInt64 ∧ x.toInt64 ≤ (nI n - nI 1).toInt64) ↔ inR x n := by
  rcases Nat.eq_zero_or_pos n with rfl | h
  · refine ⟨fun ⟨h1, h2⟩ => ?_, fun ⟨j, hj, _⟩ => absurd hj (by omega)⟩
    exfalso
    have a := Int64.le_iff_toInt_le.mp h1
    have b := Int64.le_iff_toInt_le.mp h2
    have c : (nI 0 - nI 1).toInt64.toInt = -1 := by decide
    have d : (0 : Int64).toInt = 0 := by decide
    omega
  · have e : (nI n - nI 1).toInt64 = lN (n - 1) := by rw [pk_sub (by omega), nI_l (by omega)]
    rw [e]
    exact ⟨fun q => sx_in64 (k := n) rfl ⟨rfl, by omega, by omega⟩ q, fun q => sx_64in (k := n) rfl ⟨rfl, by omega, by omega⟩ q⟩
noncomputable def evOfF (w : Nat → Int32) (n : Nat) (x o : Int32) : Int32 := cif (¬ inR x n) (-1000000001) (cif (¬ inR o 8) (-1000000002) (w (92 + 8 * x.toNatClampNeg + o.toNatClampNeg)))
/-- EVENT e is AHEAD of f, by their CLOCKS -/
def ahF (w : Nat → Int32) (e f : Nat) : Prop := w (95 + 8 * e + (w (92 + 8 * e)).toNatClampNeg) ≤ w (95 + 8 * f + (w (92 + 8 * e)).toNatClampNeg)
theorem ahF_iff {w : Nat → Int32} {e f t : Nat} (ht : t < 4) (h : w (92 + 8 * e) = nI t) : ahF w e f ↔ w (95 + 8 * e + t) ≤ w (95 + 8 * f + t) := by
  unfold ahF
  rw [h, nI_clamp (by omega)]
noncomputable def aheadF (w : Nat → Int32) (n : Nat) (x y : Int32) : Int32 := cif (¬ inR x n ∨ ¬ inR y n ∨ x = y) (-1000000001) (cif (x.toNatClampNeg < y.toNatClampNeg ∧ ahF w x.toNatClampNeg y.toNatClampNeg) (nI 1) (nI 0))
/-- an access of a CELL -/
abbrev accB (w : Nat → Int32) (e c : Nat) : Prop := w (93 + 8 * e) ≤ nI 1 ∧ w (94 + 8 * e) = nI c
noncomputable def kbF (w : Nat → Int32) (e f c : Nat) : Int32 := cif (accB w e c ∧ ¬ w (92 + 8 * e) = w (92 + 8 * f) ∧ ¬ ahF w e f) (if w (93 + 8 * e) = nI 1 then (if w (93 + 8 * f) = nI 1 then nI 0 else nI 1) else (if w (93 + 8 * f) = nI 1 then nI 2 else -1)) (-1)
def cellOff (k : Nat) : Nat := if k < 5 then k else k + 4
noncomputable def cellF (w : Nat → Int32) (x o : Int32) : Int32 := cif (¬ inR x 4) (-1000000001) (cif (¬ inR o 8) (-1000000002) (w (43 + cellOff o.toNatClampNeg + 12 * x.toNatClampNeg)))
noncomputable def sharF (w : Nat → Int32) (x th : Int32) : Int32 := cif (inR x 4 ∧ inR th 4) (w (48 + 12 * x.toNatClampNeg + th.toNatClampNeg)) (-1000000001)
noncomputable def wouldF (w : Nat → Int32) (th x : Int32) (wr : Nat) : Int32 := cif (¬ (inR th 4 ∧ inR x 4)) (-1000000001) (if w th.toNatClampNeg = nI 1 then kindF w th.toNatClampNeg x.toNatClampNeg wr else -1000000003)
