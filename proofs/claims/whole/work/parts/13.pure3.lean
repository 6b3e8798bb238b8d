/-! RACES by pairs, guards, images, the text -/
noncomputable def cntE (w : Nat → Int32) (c k f : Nat) : Nat → Nat
  | 0 => 0
  | e + 1 => cntE w c k f e + cif (¬ kbF w e f c = -1 ∧ (k = 3 ∨ kbF w e f c = nI k)) 1 0
theorem cntE_t {w : Nat → Int32} {c k f e : Nat} (h : ¬ kbF w e f c = -1 ∧ (k = 3 ∨ kbF w e f c = nI k)) : cntE w c k f (1 + e) = cntE w c k f e + 1 := by
  rw [Nat.add_comm 1 e]; show _ + cif _ 1 0 = _; rw [cif_t h]
theorem cntE_f {w : Nat → Int32} {c k f e : Nat} (h : ¬ (¬ kbF w e f c = -1 ∧ (k = 3 ∨ kbF w e f c = nI k))) : cntE w c k f (1 + e) = cntE w c k f e := by
  rw [Nat.add_comm 1 e]; show _ + cif _ 1 0 = _; rw [cif_f h]; rfl
noncomputable def rcN (w : Nat → Int32) (c k : Nat) : Nat → Nat
  | 0 => 0
  | f + 1 => rcN w c k f + cif (accB w f c) (cntE w c k f f) 0
theorem rcN_t {w : Nat → Int32} {c k f e : Nat} (he : e = f) (h : e = 0 ∨ accB w f c) : rcN w c k (1 + f) = rcN w c k f + cntE w c k f e := by
  rw [Nat.add_comm 1 f]; show _ + cif _ _ 0 = _
  by_cases ha : accB w f c
  · rw [cif_t ha, he]
  · rw [cif_f ha]
    rcases h with h | h
    · subst h; rfl
    · exact absurd h ha
theorem rcN_f {w : Nat → Int32} {c k f : Nat} (h : ¬ accB w f c) : rcN w c k (1 + f) = rcN w c k f := by
  rw [Nat.add_comm 1 f]; show _ + cif _ _ 0 = _; rw [cif_f h]; rfl
theorem cntE_le {w : Nat → Int32} {c k f : Nat} : ∀ e, cntE w c k f e ≤ e
  | 0 => Nat.le_refl _
  | e + 1 => by
    show cntE w c k f e + cif _ 1 0 ≤ e + 1
    have := cntE_le (w := w) (c := c) (k := k) (f := f) e
    by_cases h : ¬ kbF w e f c = -1 ∧ (k = 3 ∨ kbF w e f c = nI k)
    · rw [cif_t h]; omega
    · rw [cif_f h]; omega
theorem rcN_le {w : Nat → Int32} {c k : Nat} : ∀ f, rcN w c k f ≤ f * 160 ∨ 160 < f
  | 0 => Or.inl (Nat.le_refl _)
  | f + 1 => by
    by_cases hf : 160 < f + 1
    · exact Or.inr hf
    · refine Or.inl ?_
      show rcN w c k f + cif _ _ 0 ≤ _
      have h1 := rcN_le (w := w) (c := c) (k := k) f
      have h2 := cntE_le (w := w) (c := c) (k := k) (f := f) f
      by_cases h : accB w f c
      · rw [cif_t h]; omega
      · rw [cif_f h]; omega
theorem rcN_lt {w : Nat → Int32} {c k n : Nat} (hn : n ≤ 160) : rcN w c k n < 2 ^ 20 := by
  have := rcN_le (w := w) (c := c) (k := k) n
  omega
noncomputable def racesF (w : Nat → Int32) (n : Nat) (x o : Int32) : Int32 := cif (¬ inR x 4) (-1000000001) (cif (¬ inR o 4) (-1000000002) (nI (rcN w x.toNatClampNeg o.toNatClampNeg n)))
/-- RACE k of a CELL -/
def raceR (w : Nat → Int32) (n c k what : Nat) (r : Int32) : Prop :=
  (∃ f e, f < n ∧ e < f ∧ accB w f c ∧ ¬ kbF w e f c = -1 ∧ rcN w c 3 f + cntE w c 3 f e = k ∧ r = (if what = 0 then nI e else if what = 1 then nI f else kbF w e f c)) ∨ (rcN w c 3 n ≤ k ∧ r = -1)
noncomputable def gdF (w : Nat → Int32) (c : Nat) : Nat → Int32
  | 0 => nI 7
  | e + 1 => gdF w c e &&& cif (accB w e c) (w (99 + 8 * e)) (nI 7)
theorem gdF_s {w : Nat → Int32} {c e : Nat} : gdF w c (1 + e) = gdF w c e &&& cif (accB w e c) (w (99 + 8 * e)) (nI 7) := by rw [Nat.add_comm 1 e]; rfl
noncomputable def guardF (w : Nat → Int32) (n : Nat) (x : Int32) : Int32 := cif (¬ inR x 4) (-1000000001) (gdF w x.toNatClampNeg n)
noncomputable def rSetF (w : Nat → Int32) (n : Nat) : Int32 := (if rcN w 0 3 n = 0 then 0 else 1) ||| (if rcN w 1 3 n = 0 then 0 else 2) ||| (if rcN w 2 3 n = 0 then 0 else 4) ||| (if rcN w 3 3 n = 0 then 0 else 8)
noncomputable def toldG (w : Nat → Int32) (n : Nat) (en : Int32) (j : Nat) : Int32 :=
  if j = 0 then nI n else if j = 1 then setF4 w (nI 1) else if j = 2 then setF4 w (nI 2) else if j = 3 then lockF (fun j => w (40 + j)) else if j = 4 then rSetF w n
  else if j = 5 then nI (rcN w 0 3 n + rcN w 1 3 n + rcN w 2 3 n + rcN w 3 3 n) else if j = 6 then w 1372 else if j = 7 then en else nI 0 + w 52 + w 64 + w 76 + w 88
noncomputable def toldF (w : Nat → Int32) (n : Nat) (en o : Int32) : Int32 := cif (¬ inR o 9) (-1000000002) (toldG w n en o.toNatClampNeg)
noncomputable def feedF (w : Nat → Int32) (m : Nat) (x : Int32) : Int32 × (Nat → Int32) := cif (¬ inR x 256) (-1000000002, w) (cif (m = 240) (-1000000004, w) (nI (1 + m), upd (upd w (1373 + m) x) 1372 (nI (1 + m))))
def keepF (w : Nat → Int32) (i : Nat) : Nat → Int32 := fun j => if 1614 + 1372 * i ≤ j ∧ j < 1614 + 1372 * i + 1372 then w (j - (1614 + 1372 * i)) else w j
theorem keepF_step {w r : Nat → Int32} {i q : Nat} (hr : ∀ j, r j = if 1614 + 1372 * i ≤ j ∧ j < 1614 + 1372 * i + q then w (j - (1614 + 1372 * i)) else w j) (hq : q < 1372) : ∀ j, upd r (1614 + 1372 * i + q) (r q) j = if 1614 + 1372 * i ≤ j ∧ j < 1614 + 1372 * i + (1 + q) then w (j - (1614 + 1372 * i)) else w j := by
  intro j
  by_cases hj : j = 1614 + 1372 * i + q
  · rw [hj, pk_us, if_pos (by omega), hr q, if_neg (by omega)]
    congr 1
    omega
  · rw [pk_un hj, hr j]
    by_cases h : 1614 + 1372 * i ≤ j ∧ j < 1614 + 1372 * i + q
    · rw [if_pos h, if_pos (by omega)]
    · rw [if_neg h, if_neg (by omega)]
def backF (w : Nat → Int32) (i : Nat) : Nat → Int32 := fun j => if j < 1372 then w (1614 + 1372 * i + j) else w j
theorem backF_step {w r : Nat → Int32} {i q : Nat} (hr : ∀ j, r j = if j < q then w (1614 + 1372 * i + j) else w j) (hq : q < 1372) : ∀ j, upd r q (r (1614 + 1372 * i + q)) j = if j < 1 + q then w (1614 + 1372 * i + j) else w j := by
  intro j
  by_cases hj : j = q
  · rw [hj, pk_us, if_pos (by omega), hr _, if_neg (by omega)]
  · rw [pk_un hj, hr j]
    by_cases h : j < q
    · rw [if_pos h, if_pos (by omega)]
    · rw [if_neg h, if_neg (by omega)]
def zeroF (w : Nat → Int32) : Nat → Int32 := fun j => if j < 1372 then nI 0 else w j
theorem zeroF_step {w r : Nat → Int32} {q : Nat} (hr : ∀ j, r j = if j < q then nI 0 else w j) : ∀ j, upd r q (nI 0) j = if j < 1 + q then nI 0 else w j := by
  intro j
  by_cases hj : j = q
  · rw [hj, pk_us, if_pos (by omega)]
  · rw [pk_un hj, hr j]
    by_cases h : j < q
    · rw [if_pos h, if_pos (by omega)]
    · rw [if_neg h, if_neg (by omega)]
def cellIni (w : Nat → Int32) (c : Nat) : Nat → Int32 := upd (upd (upd (upd w (43 + 12 * c) (-1)) (45 + 12 * c) (-1)) (53 + 12 * c) (-1)) (54 + 12 * c) (-1)
def iniF (w : Nat → Int32) : Nat → Int32 :=
  cellIni (cellIni (cellIni (cellIni (upd (upd (upd (upd (upd (upd (upd (upd (zeroF w) 0 (nI 1)) 4 (nI 1)) 9 (nI 1)) 14 (nI 1)) 19 (nI 1)) 40 (-1)) 41 (-1)) 42 (-1)) 0) 1) 2) 3
