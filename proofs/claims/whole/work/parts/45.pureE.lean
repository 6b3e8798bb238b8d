/-! the picture of a WORLD at cell B, in terms of the reference's row -/
def KV (G : sx_G) (F : Nat → va_E) (w : Nat → Int32) (n B c : Nat) : Prop :=
  F (10 + B + 2 * c) = ob 2 ([.int (w (43 + 12 * c)), .int (w (44 + 12 * c)), .int (w (45 + 12 * c)), .int (w (46 + 12 * c)), .int (w (47 + 12 * c)), rf G (11 + B + 2 * c), .int (w (52 + 12 * c)), .int (w (53 + 12 * c)), .int (w (54 + 12 * c)), .int (gdF w c n)]) ∧ ∃ nr : Nat → Int32, F (11 + B + 2 * c) = rI G 4 nr ∧ ∀ k, k < 4 → nr k = w (48 + 12 * c + k)
def RBV (v rb : Nat → Int32) (n : Nat) : Prop := ∀ f, f < n → accA v f → ∀ c, c < 4 → v (94 + 8 * f) = nI c → rb f = nI (cntE v c 3 f f)
def RCV (v rc : Nat → Int32) (n : Nat) : Prop := ∀ c, c < 4 → ∀ k, k < 3 → rc (3 * c + k) = nI (rcN v c k n)
def LgV (G : sx_G) (F : Nat → va_E) (w : Nat → Int32) (n B : Nat) : Prop :=
  ∃ (th so wi lo lc rb rc : Nat → Int32) (rr : Value), F (18 + B) = ob 3 ([.int (nI n), rf G (19 + B), rf G (20 + B), rf G (21 + B), rf G (22 + B), rf G (23 + B), rf G (25 + B), rf G (26 + B)]) ∧ F (19 + B) = rI G 160 th ∧ F (20 + B) = rI G 160 so ∧ F (21 + B) = rI G 160 wi ∧ F (22 + B) = rI G 160 lo ∧ F (23 + B) = ob 1 ([rr, rf G (24 + B)]) ∧ F (24 + B) = rI G 640 lc ∧ F (25 + B) = rI G 160 rb ∧ F (26 + B) = rI G 12 rc ∧ LV w n th so wi lo lc ∧ RBV w rb n ∧ RCV w rc n
def WV (G : sx_G) (F : Nat → va_E) (w : Nat → Int32) (n B : Nat) : Prop :=
  ∃ (st ho ct cl cs : Nat → Int32) (kr : Nat → Option Nat) (r4 r6 r8 : Value), F B = ob 5 ([rf G (1 + B), rf G (2 + B), rf G (3 + B), rf G (5 + B), rf G (7 + B), rf G (9 + B), rf G (18 + B)]) ∧ F (1 + B) = rI G 4 st ∧ F (2 + B) = rI G 3 ho ∧ F (3 + B) = ob 1 ([r4, rf G (4 + B)]) ∧ F (4 + B) = rI G 16 ct ∧ F (5 + B) = ob 1 ([r6, rf G (6 + B)]) ∧ F (6 + B) = rI G 12 cl ∧ F (7 + B) = ob 1 ([r8, rf G (8 + B)]) ∧ F (8 + B) = rI G 8 cs ∧ F (9 + B) = rK G 4 kr ∧ (∀ j, j < 4 → kr j = some (sx_b G + (10 + B + 2 * j))) ∧ RV w st ho ct cl cs ∧ (∀ c, c < 4 → KV G F w n B c) ∧ LgV G F w n B ∧ r4 = .int (nI 4) ∧ r6 = .int (nI 3) ∧ r8 = .int (nI 2)
theorem KV_up {G : sx_G} {F F1 : Nat → va_E} {w v : Nat → Int32} {n n1 B c : Nat} (h : KV G F w n B c) (e1 : F1 (10 + B + 2 * c) = F (10 + B + 2 * c)) (e2 : F1 (11 + B + 2 * c) = F (11 + B + 2 * c)) (hv : ∀ k, 43 + 12 * c ≤ k → k < 55 + 12 * c → v k = w k) (hg : gdF v c n1 = gdF w c n) : KV G F1 v n1 B c := by
  obtain ⟨q1, nr, q2, q3⟩ := h
  refine ⟨e1.trans (q1.trans ?_), nr, e2.trans q2, fun k hk => (q3 k hk).trans (hv _ (by omega) (by omega)).symm⟩
  rw [hv (43 + 12 * c) (by omega) (by omega), hv (44 + 12 * c) (by omega) (by omega), hv (45 + 12 * c) (by omega) (by omega), hv (46 + 12 * c) (by omega) (by omega), hv (47 + 12 * c) (by omega) (by omega), hv (52 + 12 * c) (by omega) (by omega), hv (53 + 12 * c) (by omega) (by omega), hv (54 + 12 * c) (by omega) (by omega), hg]
theorem doF_kept {w : Nat → Int32} {t s x c k : Nat} (hok : ∀ c, c < 4 → okC w c) (ht : t < 4) (hs : s < 8) (hx : x < boundF s) (h : 2 ≤ s ∨ x ≠ c) (hc : c < 4) (h1 : 43 + 12 * c ≤ k) (h2 : k < 55 + 12 * c) : doF w t s x k = w k := by
  rcases (show s = 0 ∨ s = 1 ∨ s = 2 ∨ s = 3 ∨ s = 4 ∨ s = 5 ∨ s = 6 ∨ s = 7 by omega) with rfl | rfl | rfl | rfl | rfl | rfl | rfl | rfl
  · have hx : x < 4 := hx
    exact accF_out hx ht (hok x hx).2.1 (by omega)
  · have hx : x < 4 := hx
    exact accF_out hx ht (hok x hx).2.1 (by omega)
  · have hx : x < 3 := hx
    show upd (joinF w (4 + 4 * t) (20 + 4 * x)) (40 + x) (nI t) k = w k
    rw [pk_un (by omega), joinF_out (by omega)]
  · have hx : x < 3 := hx
    exact leavF_out (by omega) (by omega)
  · have hx : x < 2 := hx
    exact joinF_out (by omega)
  · have hx : x < 2 := hx
    exact joinF_out (by omega)
  · have hx : x < 4 := hx
    show upd (joinF w (4 + 4 * x) (4 + 4 * t)) x (nI 1) k = w k
    rw [pk_un (by omega), joinF_out (by omega)]
  · have hx : x < 4 := hx
    show upd (joinF w (4 + 4 * t) (4 + 4 * x)) x (nI 2) k = w k
    rw [pk_un (by omega), joinF_out (by omega)]
theorem come_so {w : Nat → Int32} {n t s x : Nat} (ht : t < 4) : comeF w n t s x (93 + 8 * n) = nI s := by unfold comeF; rw [stpF_out (by omega), wriF_1]
theorem come_wi {w : Nat → Int32} {n t s x : Nat} (ht : t < 4) : comeF w n t s x (94 + 8 * n) = nI x := by unfold comeF; rw [stpF_out (by omega), wriF_2]
theorem come_acc {w : Nat → Int32} {n t s x c : Nat} (ht : t < 4) (hs : s < 8) (hx : x < 4) (hc : c < 4) : accB (comeF w n t s x) n c ↔ s < 2 ∧ x = c := by
  unfold accB
  rw [come_so ht, come_wi ht, nI_leI (by omega) (by decide), nI_eq (by omega) (by omega)]
  omega
theorem come_accA {w : Nat → Int32} {n t s x : Nat} (ht : t < 4) (hs : s < 8) : accA (comeF w n t s x) n ↔ s < 2 := by
  rw [accA_iff ⟨s, hs, come_so ht⟩, come_so ht, nI_leI (by omega) (by decide)]
  omega
theorem gd_come {w : Nat → Int32} {n t s x c : Nat} (hok : ∀ c, c < 4 → okC w c) (ht : t < 4) (hs : s < 8) (hx : x < boundF s) (hc : c < 4) : gdF (comeF w n t s x) c (1 + n) = gdF w c n &&& cif (s < 2 ∧ x = c) (comeF w n t s x (99 + 8 * n)) (nI 7) := by
  have hx4 := Nat.lt_of_lt_of_le hx (boundF_le s)
  rw [gdF_s, gdF_congr (v := comeF w n t s x) (w := w) (n := n) (fun k h1 h2 => comeF_old ht hs hx hok h1 (by omega)) n (Nat.le_refl _), show accB (comeF w n t s x) n c = (s < 2 ∧ x = c) from propext (come_acc ht hs hx4 hc)]
theorem gd_no {w : Nat → Int32} {n t s x c : Nat} (hok : ∀ c, c < 4 → okC w c) (ht : t < 4) (hs : s < 8) (hx : x < boundF s) (hc : c < 4) (h : 2 ≤ s ∨ x ≠ c) : gdF (comeF w n t s x) c (1 + n) = gdF w c n := by
  rw [gd_come hok ht hs hx hc, cif_f (by omega), gdF_7]
theorem gd_yes {w h1 : Nat → Int32} {n t s x : Nat} (hok : ∀ c, c < 4 → okC w c) (ht : t < 4) (hs : s < 8) (hx : x < boundF s) (hx4 : x < 4) (h : s < 2) (hh : ∀ k, k < 3 → h1 k = doF w t s x (40 + k)) : gdF (comeF w n t s x) x (1 + n) = gdF w x n &&& heldF h1 (nI t) := by
  rw [gd_come hok ht hs hx hx4, cif_t ⟨h, rfl⟩]
  congr 1
  unfold comeF
  rw [stpF_out (by omega), wriF_7]
  exact (heldF_congr hh).symm
/-- the CELLS that the EVENT does not reach -/
theorem KV_come {G : sx_G} {F F1 : Nat → va_E} {w : Nat → Int32} {n t s x B c : Nat} (hok : ∀ c, c < 4 → okC w c) (ht : t < 4) (hs : s < 8) (hx : x < boundF s) (hc : c < 4) (h : 2 ≤ s ∨ x ≠ c) (hK : KV G F w n B c) (e1 : F1 (10 + B + 2 * c) = F (10 + B + 2 * c)) (e2 : F1 (11 + B + 2 * c) = F (11 + B + 2 * c)) : KV G F1 (comeF w n t s x) (1 + n) B c :=
  KV_up hK e1 e2 (fun k h1 h2 => by rw [comeF_no (by omega) ht (Or.inl (by omega)), doF_kept hok ht hs hx h hc h1 h2]) (gd_no hok ht hs hx hc h)
theorem RB_come {w rb r : Nat → Int32} {n t s x : Nat} (hok : ∀ c, c < 4 → okC w c) (hoe : ∀ e, e < n → okE w e) (ht : t < 4) (hs : s < 8) (hx : x < boundF s) (h : RBV w rb n) (ho : ∀ f, f < n → r f = rb f) (hn : s < 2 → r n = nI (cntE (comeF w n t s x) x 3 n n)) : RBV (comeF w n t s x) r (1 + n) := by
  have hx4 := Nat.lt_of_lt_of_le hx (boundF_le s)
  intro f hf ha c hc hw
  by_cases q : f < n
  · have e : ∀ k, 91 < k → k < 92 + 8 * n → comeF w n t s x k = w k := fun k h1 h2 => comeF_old ht hs hx hok h1 (by omega)
    unfold accA at ha
    rw [e _ (by omega) (by omega)] at ha hw
    rw [ho f q, h f q ha c hc hw, cntE_congr (fun j hj => (hoe j (by omega)).1) (fun k h1 h2 => e k h1 (by omega)) f (Nat.le_refl _)]
  · have q : f = n := by omega
    subst q
    have h2 := (come_accA ht hs).mp ha
    rw [come_wi ht, nI_eq (by omega) (by omega)] at hw
    rw [hn h2, hw]
theorem RC_come {w rc r : Nat → Int32} {n t s x : Nat} (hok : ∀ c, c < 4 → okC w c) (hoe : ∀ e, e < n → okE w e) (ht : t < 4) (hs : s < 8) (hx : x < boundF s) (h : RCV w rc n) (hr : s < 2 → ∀ k, k < 3 → r (3 * x + k) = rc (3 * x + k) + nI (cntE (comeF w n t s x) x k n n)) (ho : ∀ j, (2 ≤ s ∨ j < 3 * x ∨ 3 * x + 3 ≤ j) → r j = rc j) : RCV (comeF w n t s x) r (1 + n) := by
  have hx4 := Nat.lt_of_lt_of_le hx (boundF_le s)
  intro c hc k hk
  have e : rcN (comeF w n t s x) c k n = rcN w c k n := rcN_congr (fun j hj => (hoe j (by omega)).1) (fun k h1 h2 => comeF_old ht hs hx hok h1 (by omega)) n (Nat.le_refl _)
  by_cases q : s < 2 ∧ x = c
  · obtain ⟨q1, rfl⟩ := q
    rw [rcN_t (e := n) rfl (Or.inr ((come_acc ht hs hx4 hc).mpr ⟨q1, rfl⟩)), e, hr q1 k hk, h x hc k hk, nI_add]
  · rw [rcN_f (fun z => q ((come_acc ht hs hx4 hc).mp z)), e, ho _ (by omega), h c hc k hk]
