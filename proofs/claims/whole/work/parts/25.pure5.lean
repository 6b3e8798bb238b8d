/-! lots, the journal -/
def lot (k : Nat) : Nat := k * 16807 % 2147483647
theorem lot_lt (k : Nat) : lot k < 2147483647 := Nat.mod_lt _ (by decide)
theorem lotL {k : Nat} (h : k < 2147483647) : lN k * 16807 - lN k * 16807 / 2147483647 * 2147483647 = lN (lot k) := by
  have e1 : lN k * 16807 = lN (k * 16807) := lN_mul k 16807
  rw [e1]
  exact pk_lRem (by omega) (by decide) (by decide)
theorem drawL {k d : Nat} (h : k < 2147483647) (h0 : 0 < d) (hd : d < 2 ^ 31) : (lN k - lN k / (nI d).toInt64 * (nI d).toInt64).toInt32 = nI (k % d) := by
  rw [nI_l hd, pk_lRem (by omega) h0 (by omega), lN_i]
theorem sx_in1 {x : Int32} {lo hi : Int64} {K : Nat} (hl : lo = 1) (hh : hi = lN K ∧ K < 2 ^ 30) (h : lo ≤ x.toInt64 ∧ x.toInt64 ≤ hi) : ∃ j, 1 ≤ j ∧ j ≤ K ∧ x = nI j := by
  obtain ⟨h1, h2⟩ := h
  subst hl
  have h0 : (0 : Int64) ≤ x.toInt64 := Int64.le_trans (by decide) h1
  obtain ⟨j, hj, rfl⟩ := sx_in64 (k := K + 1) rfl ⟨hh.1, by omega, by omega⟩ ⟨h0, h2⟩
  refine ⟨j, ?_, by omega, rfl⟩
  rw [nI_l (by omega)] at h1
  exact (lN_le (a := 1) (by decide) (by omega)).mp h1
theorem sx_1in {x : Int32} {lo hi : Int64} {K : Nat} (hl : lo = 1) (hh : hi = lN K ∧ K < 2 ^ 30) (h : ∃ j, 1 ≤ j ∧ j ≤ K ∧ x = nI j) : lo ≤ x.toInt64 ∧ x.toInt64 ≤ hi := by
  obtain ⟨j, h1, h2, rfl⟩ := h
  subst hl
  rw [hh.1, nI_l (by omega)]
  exact ⟨(lN_le (a := 1) (by decide) (by omega)).mpr h1, (lN_le (by omega) (by omega)).mpr h2⟩
abbrev inS (x : Int32) (K : Nat) : Prop := ∃ j, 1 ≤ j ∧ j ≤ K ∧ x = nI j
theorem evF_cases {w : Nat → Int32} {n t s x : Nat} (ht : t < 4) (hs : s < 8) (hx : x < boundF s) (hn : n ≤ 160) : (∃ v : Int32, v < 0 ∧ evF w n (nI t) (nI s) (nI x) = (v, w)) ∨ (n < 160 ∧ (6 ≤ s → x ≠ t) ∧ canF w t s x ∧ ¬ (hasS s ∧ w (4 + 5 * t) = 2147483647) ∧ evF w n (nI t) (nI s) (nI x) = (nI n, comeF w n t s x)) := by
  have hx4 := Nat.lt_of_lt_of_le hx (boundF_le s)
  by_cases hw : 6 ≤ s → x ≠ t
  · have hwf : withF t s (nI x) := ⟨x, hx, rfl, hw⟩
    rw [evF_go ht hs hx4 hwf]
    unfold evG
    by_cases hc : canF w t s x
    · rw [cif_f (fun q => q hc)]
      by_cases h1 : n = 160
      · exact Or.inl ⟨-1000000004, by decide, by rw [cif_t h1]⟩
      · rw [cif_f h1]
        by_cases h2 : hasS s ∧ w (4 + 5 * t) = 2147483647
        · exact Or.inl ⟨-1000000005, by decide, by rw [cif_t h2]⟩
        · exact Or.inr ⟨by omega, hw, hc, h2, by rw [cif_f h2]⟩
    · exact Or.inl ⟨-1000000003, by decide, by rw [cif_t hc]⟩
  · refine Or.inl ⟨-1000000001, by decide, evF_U2 ht hs (fun ⟨j, _, e, h⟩ => hw (fun h6 => ?_))⟩
    have : x = j := (nI_eq (by omega) (by have := boundF_le s; omega)).mp e
    rw [this]; exact h h6
/-- one lot: world, EVENTS, X, how many came -/
noncomputable def drS (q : (Nat → Int32) × Nat × Nat × Nat) : (Nat → Int32) × Nat × Nat × Nat :=
  cif (0 ≤ (evF q.1 q.2.1 (nI (lot q.2.2.1 % 4)) (nI (lot (lot q.2.2.1) % 8)) (nI (lot (lot (lot q.2.2.1)) % boundF (lot (lot q.2.2.1) % 8)))).1)
    (comeF q.1 q.2.1 (lot q.2.2.1 % 4) (lot (lot q.2.2.1) % 8) (lot (lot (lot q.2.2.1)) % boundF (lot (lot q.2.2.1) % 8)), 1 + q.2.1, lot (lot (lot q.2.2.1)), 1 + q.2.2.2)
    (q.1, q.2.1, lot (lot (lot q.2.2.1)), q.2.2.2)
noncomputable def drI (q : (Nat → Int32) × Nat × Nat × Nat) : Nat → (Nat → Int32) × Nat × Nat × Nat
  | 0 => q
  | i + 1 => drS (drI q i)
theorem drI_s {q : (Nat → Int32) × Nat × Nat × Nat} {i : Nat} : drI q (1 + i) = drS (drI q i) := by rw [Nat.add_comm 1 i]; rfl
theorem sx_dne {d : Nat} (h0 : 0 < d) (hd : d < 2 ^ 31) : ¬ (nI d).toInt64 = 0 := fun q => by
  rw [nI_l hd] at q
  have := (lN_eq (a := d) (b := 0) hd (by decide)).mp q
  omega
theorem boundF_pos (s : Nat) : 0 < boundF s := by unfold boundF; repeat' split
                                                  all_goals omega
noncomputable def journF (en : Nat) (jo : Nat → Int32) (i o : Int32) : Int32 := cif (¬ inR o 2) (-1000000002) (cif (¬ inR i en) (-1) (if o.toNatClampNeg = 0 then jo (en - 1 - i.toNatClampNeg) / nI 2 else jo (en - 1 - i.toNatClampNeg) - jo (en - 1 - i.toNatClampNeg) / nI 2 * nI 2))
