/-! the component's log: pure words -/
def accA (v : Nat → Int32) (e : Nat) : Prop := v (93 + 8 * e) = 0 ∨ v (93 + 8 * e) = nI 1
theorem accA_iff {v : Nat → Int32} {e : Nat} (h : ∃ s, s < 8 ∧ v (93 + 8 * e) = nI s) : accA v e ↔ v (93 + 8 * e) ≤ nI 1 := by
  obtain ⟨s, hs, q⟩ := h
  unfold accA
  rw [q, nI_leI (by omega) (by decide)]
  constructor
  · rintro (z | z)
    · have := (nI_eq (a := s) (b := 0) (by omega) (by decide)).mp z; omega
    · have := (nI_eq (a := s) (b := 1) (by omega) (by decide)).mp z; omega
  · intro z
    rcases (show s = 0 ∨ s = 1 by omega) with rfl | rfl
    · exact Or.inl rfl
    · exact Or.inr rfl
theorem kbF_kd {v : Nat → Int32} {e f c : Nat} (h : ¬ kbF v e f c = -1) : ∃ kd, kd < 3 ∧ kbF v e f c = nI kd := by
  unfold kbF at h ⊢
  by_cases hc : accB v e c ∧ ¬ v (92 + 8 * e) = v (92 + 8 * f) ∧ ¬ ahF v e f
  · rw [cif_t hc] at h ⊢
    by_cases h1 : v (93 + 8 * e) = nI 1 <;> by_cases h2 : v (93 + 8 * f) = nI 1
    · rw [if_pos h1, if_pos h2]; exact ⟨0, by decide, rfl⟩
    · rw [if_pos h1, if_neg h2]; exact ⟨1, by decide, rfl⟩
    · rw [if_neg h1, if_pos h2]; exact ⟨2, by decide, rfl⟩
    · rw [if_neg h1, if_neg h2] at h; exact absurd rfl h
  · rw [cif_f hc] at h; exact absurd rfl h
/-- the log's rows hold the first M EVENTS of v -/
def LV (v : Nat → Int32) (M : Nat) (th so wi lo lc : Nat → Int32) : Prop := ∀ e, e < M → th e = v (92 + 8 * e) ∧ so e = v (93 + 8 * e) ∧ wi e = v (94 + 8 * e) ∧ lo e = v (99 + 8 * e) ∧ ∀ k, k < 4 → lc (4 * e + k) = v (95 + 8 * e + k)
theorem cntE_kd {v : Nat → Int32} {c f e kd : Nat} (hk : kd < 3) (h : kbF v e f c = nI kd) (k : Nat) (hk3 : k < 3) : cntE v c k f (1 + e) = cntE v c k f e + if k = kd then 1 else 0 := by
  have hne : ¬ kbF v e f c = -1 := by rw [h]; exact sx_m1 (by omega)
  by_cases q : k = kd
  · rw [if_pos q, cntE_t ⟨hne, Or.inr (by rw [h, q])⟩]
  · rw [if_neg q, cntE_f (fun z => z.2.elim (by omega) (fun y => q ((nI_eq (by omega) (by omega)).mp (y.symm.trans h))))]; rfl
theorem cntE_no {v : Nat → Int32} {c f e : Nat} (h : kbF v e f c = -1) (k : Nat) : cntE v c k f (1 + e) = cntE v c k f e := cntE_f (fun z => z.1 h)
theorem cntE_sum {v : Nat → Int32} {c f : Nat} : ∀ e, cntE v c 0 f e + cntE v c 1 f e + cntE v c 2 f e = cntE v c 3 f e
  | 0 => rfl
  | e + 1 => by
    rw [Nat.add_comm e 1]
    have ih := cntE_sum (v := v) (c := c) (f := f) e
    by_cases h : kbF v e f c = -1
    · rw [cntE_no h, cntE_no h, cntE_no h, cntE_no h]; exact ih
    · obtain ⟨kd, hkd, q⟩ := kbF_kd h
      rw [cntE_kd hkd q 0 (by decide), cntE_kd hkd q 1 (by decide), cntE_kd hkd q 2 (by decide), cntE_t (k := 3) ⟨h, Or.inl rfl⟩]
      rcases (show kd = 0 ∨ kd = 1 ∨ kd = 2 by omega) with rfl | rfl | rfl <;> simp <;> omega
theorem rcN_sum {v : Nat → Int32} {c : Nat} : ∀ n, rcN v c 0 n + rcN v c 1 n + rcN v c 2 n = rcN v c 3 n
  | 0 => rfl
  | n + 1 => by
    have ih := rcN_sum (v := v) (c := c) n
    have h2 := cntE_sum (v := v) (c := c) (f := n) n
    show rcN v c 0 n + cif _ _ 0 + (rcN v c 1 n + cif _ _ 0) + (rcN v c 2 n + cif _ _ 0) = rcN v c 3 n + cif _ _ 0
    by_cases h : accB v n c
    · rw [cif_t h, cif_t h, cif_t h, cif_t h]; omega
    · rw [cif_f h, cif_f h, cif_f h, cif_f h]; omega
theorem cntE_mono {v : Nat → Int32} {c k f : Nat} : ∀ (d e : Nat), cntE v c k f e ≤ cntE v c k f (e + d)
  | 0, e => Nat.le_refl _
  | d + 1, e => Nat.le_trans (cntE_mono d e) (Nat.le_add_right _ _)
theorem rcN_mono {v : Nat → Int32} {c k : Nat} : ∀ (d n : Nat), rcN v c k n ≤ rcN v c k (n + d)
  | 0, n => Nat.le_refl _
  | d + 1, n => Nat.le_trans (rcN_mono d n) (Nat.le_add_right _ _)
theorem raceR_uniq {v : Nat → Int32} {n c k what : Nat} {r r' : Int32} (h : raceR v n c k what r) (h' : raceR v n c k what r') : r = r' := by
  have key : ∀ f e, f < n → e < f → accB v f c → ¬ kbF v e f c = -1 → rcN v c 3 f + cntE v c 3 f e = k → k < rcN v c 3 n := by
    intro f e h1 h2 h3 h4 h5
    have a := cntE_mono (v := v) (c := c) (k := 3) (f := f) (f - (1 + e)) (1 + e)
    rw [show 1 + e + (f - (1 + e)) = f by omega, cntE_t ⟨h4, Or.inl rfl⟩] at a
    have b := rcN_mono (v := v) (c := c) (k := 3) (n - (1 + f)) (1 + f)
    rw [show 1 + f + (n - (1 + f)) = n by omega, rcN_t (e := f) rfl (Or.inr h3)] at b
    omega
  have key2 : ∀ f e f' e', f < n → e < f → accB v f c → ¬ kbF v e f c = -1 → rcN v c 3 f + cntE v c 3 f e = k → f' < n → e' < f' → rcN v c 3 f' + cntE v c 3 f' e' = k → ¬ f < f' := by
    intro f e f' e' h1 h2 h3 h4 h5 h6 h7 h8 hlt
    have a := cntE_mono (v := v) (c := c) (k := 3) (f := f) (f - (1 + e)) (1 + e)
    rw [show 1 + e + (f - (1 + e)) = f by omega, cntE_t ⟨h4, Or.inl rfl⟩] at a
    have b := rcN_mono (v := v) (c := c) (k := 3) (f' - (1 + f)) (1 + f)
    rw [show 1 + f + (f' - (1 + f)) = f' by omega, rcN_t (e := f) rfl (Or.inr h3)] at b
    omega
  have key3 : ∀ f e e', ¬ kbF v e f c = -1 → rcN v c 3 f + cntE v c 3 f e = k → rcN v c 3 f + cntE v c 3 f e' = k → ¬ e < e' := by
    intro f e e' h4 h5 h8 hlt
    have a := cntE_mono (v := v) (c := c) (k := 3) (f := f) (e' - (1 + e)) (1 + e)
    rw [show 1 + e + (e' - (1 + e)) = e' by omega, cntE_t ⟨h4, Or.inl rfl⟩] at a
    omega
  rcases h with ⟨f, e, a1, a2, a3, a4, a5, a6⟩ | ⟨a1, a2⟩ <;> rcases h' with ⟨f', e', b1, b2, b3, b4, b5, b6⟩ | ⟨b1, b2⟩
  · have hf : f = f' := by
      have x := key2 f e f' e' a1 a2 a3 a4 a5 b1 b2 b5
      have y := key2 f' e' f e b1 b2 b3 b4 b5 a1 a2 a5
      omega
    subst hf
    have he : e = e' := by
      have x := key3 f e e' a4 a5 b5
      have y := key3 f e' e b4 b5 a5
      omega
    subst he
    rw [a6, b6]
  · have := key f e a1 a2 a3 a4 a5; omega
  · have := key f' e' b1 b2 b3 b4 b5; omega
  · rw [a2, b2]
