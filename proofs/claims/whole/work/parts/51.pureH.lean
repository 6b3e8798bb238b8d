/-! what the component's public methods ask of the picture -/
theorem isin_iff {x : Int32} {k : Nat} (hk : k < 2 ^ 31) : inR x k ↔ ¬ x < 0 ∧ ¬ nI k ≤ x := by
  constructor
  · rintro ⟨j, hj, rfl⟩
    exact ⟨Int32.not_lt.mpr (nI_pos' (by omega)), fun q => by rw [nI_leI hk (by omega)] at q; omega⟩
  · rintro ⟨h1, h2⟩
    obtain ⟨j, hj, rfl⟩ := nI_of h1
    rw [nI_leI hk hj] at h2
    exact ⟨j, by omega, rfl⟩
theorem can_iff {w st ho ct cl cs : Nat → Int32} {t s x : Nat} (hRV : RV w st ho ct cl cs) (ht : t < 4) (hs8 : s < 8) (hx : x < boundF s) (hxt : 6 ≤ s → x ≠ t) : (st t = nI 1 ∧ (s = 2 → ho x = -1) ∧ (s = 3 → ho x = nI t) ∧ (s = 6 → st x = nI 0) ∧ (s = 7 → x ≠ t ∧ st x = nI 1 ∧ heldF ho (nI x) = 0)) ↔ canF w t s x := by
  have hx4 := Nat.lt_of_lt_of_le hx (boundF_le s)
  have e1 : st t = w t := hRV.1 t ht
  have e2 : (s = 2 ∨ s = 3) → ho x = w (40 + x) := fun q => hRV.2.1 x (by rcases q with rfl | rfl <;> exact hx)
  have e3 : st x = w x := hRV.1 x hx4
  have e4 : heldF ho (nI x) = heldF (fun j => w (40 + j)) (nI x) := heldF_congr hRV.2.1
  unfold canF
  rw [e1, e3, e4]
  constructor
  · rintro ⟨a, b, c, d, e⟩
    exact ⟨a, fun q => (e2 (Or.inl q)).symm.trans (b q), fun q => (e2 (Or.inr q)).symm.trans (c q), d, fun q => (e q).2⟩
  · rintro ⟨a, b, c, d, e⟩
    exact ⟨a, fun q => (e2 (Or.inl q)).trans (b q), fun q => (e2 (Or.inr q)).trans (c q), d, fun q => ⟨hxt (by omega), e q⟩⟩
