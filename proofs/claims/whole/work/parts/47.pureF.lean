/-! the shape of a WORLD at cell B (what it holds is not told) -/
def KS (G : sx_G) (F : Nat → va_E) (B c : Nat) : Prop :=
  ∃ (a0 a1 a2 a3 a4 a6 a7 a8 a9 : Int32) (nr : Nat → Int32), F (10 + B + 2 * c) = ob 2 ([.int a0, .int a1, .int a2, .int a3, .int a4, rf G (11 + B + 2 * c), .int a6, .int a7, .int a8, .int a9]) ∧ F (11 + B + 2 * c) = rI G 4 nr
def LgS (G : sx_G) (F : Nat → va_E) (B : Nat) : Prop :=
  ∃ (th so wi lo lc rb rc : Nat → Int32) (rr : Value) (m : Int32), F (18 + B) = ob 3 ([.int m, rf G (19 + B), rf G (20 + B), rf G (21 + B), rf G (22 + B), rf G (23 + B), rf G (25 + B), rf G (26 + B)]) ∧ F (19 + B) = rI G 160 th ∧ F (20 + B) = rI G 160 so ∧ F (21 + B) = rI G 160 wi ∧ F (22 + B) = rI G 160 lo ∧ F (23 + B) = ob 1 ([rr, rf G (24 + B)]) ∧ F (24 + B) = rI G 640 lc ∧ F (25 + B) = rI G 160 rb ∧ F (26 + B) = rI G 12 rc
def WS (G : sx_G) (F : Nat → va_E) (B : Nat) : Prop :=
  ∃ (st ho ct cl cs : Nat → Int32) (kr : Nat → Option Nat), F B = ob 5 ([rf G (1 + B), rf G (2 + B), rf G (3 + B), rf G (5 + B), rf G (7 + B), rf G (9 + B), rf G (18 + B)]) ∧ F (1 + B) = rI G 4 st ∧ F (2 + B) = rI G 3 ho ∧ F (3 + B) = ob 1 ([.int (nI 4), rf G (4 + B)]) ∧ F (4 + B) = rI G 16 ct ∧ F (5 + B) = ob 1 ([.int (nI 3), rf G (6 + B)]) ∧ F (6 + B) = rI G 12 cl ∧ F (7 + B) = ob 1 ([.int (nI 2), rf G (8 + B)]) ∧ F (8 + B) = rI G 8 cs ∧ F (9 + B) = rK G 4 kr ∧ (∀ j, j < 4 → kr j = some (sx_b G + (10 + B + 2 * j))) ∧ (∀ c, c < 4 → KS G F B c) ∧ LgS G F B
theorem WV.shape {G : sx_G} {F : Nat → va_E} {w : Nat → Int32} {n B : Nat} (h : WV G F w n B) : WS G F B := by
  obtain ⟨st, ho, ct, cl, cs, kr, r4, r6, r8, h1, h2, h3, h4, h5, h6, h7, h8, h9, h10, hkr, hRV, hKV, hLg, rfl, rfl, rfl⟩ := h
  obtain ⟨th, so, wi, lo, lc, rb, rc, rr, h19, h20, h21, h22, h23, h24, h25, h26, h27, hLV, hRB, hRC⟩ := hLg
  exact ⟨st, ho, ct, cl, cs, kr, h1, h2, h3, h4, h5, h6, h7, h8, h9, h10, hkr, fun c hc => by
    obtain ⟨q1, nr, q2, q3⟩ := hKV c hc
    exact ⟨_, _, _, _, _, _, _, _, _, nr, q1, q2⟩, ⟨th, so, wi, lo, lc, rb, rc, rr, _, h19, h20, h21, h22, h23, h24, h25, h26, h27⟩⟩
theorem WS.upd {G : sx_G} {F F1 : Nat → va_E} {B : Nat} (h : WS G F B) (e : ∀ j, B ≤ j → j < B + 27 → F1 j = F j) : WS G F1 B := by
  obtain ⟨st, ho, ct, cl, cs, kr, h1, h2, h3, h4, h5, h6, h7, h8, h9, h10, hkr, hKS, th, so, wi, lo, lc, rb, rc, rr, m, h19, h20, h21, h22, h23, h24, h25, h26, h27⟩ := h
  have E : ∀ (j : Nat) (v : va_E), B ≤ j → j < B + 27 → F j = v → F1 j = v := fun j v a b q => (e j a b).trans q
  exact ⟨st, ho, ct, cl, cs, kr, E _ _ (by omega) (by omega) h1, E _ _ (by omega) (by omega) h2, E _ _ (by omega) (by omega) h3, E _ _ (by omega) (by omega) h4, E _ _ (by omega) (by omega) h5, E _ _ (by omega) (by omega) h6, E _ _ (by omega) (by omega) h7, E _ _ (by omega) (by omega) h8, E _ _ (by omega) (by omega) h9, E _ _ (by omega) (by omega) h10, hkr, fun c hc => by
    obtain ⟨a0, a1, a2, a3, a4, a6, a7, a8, a9, nr, q1, q2⟩ := hKS c hc
    exact ⟨a0, a1, a2, a3, a4, a6, a7, a8, a9, nr, E _ _ (by omega) (by omega) q1, E _ _ (by omega) (by omega) q2⟩, th, so, wi, lo, lc, rb, rc, rr, m, E _ _ (by omega) (by omega) h19, E _ _ (by omega) (by omega) h20, E _ _ (by omega) (by omega) h21, E _ _ (by omega) (by omega) h22, E _ _ (by omega) (by omega) h23, E _ _ (by omega) (by omega) h24, E _ _ (by omega) (by omega) h25, E _ _ (by omega) (by omega) h26, E _ _ (by omega) (by omega) h27⟩
theorem WV.upd {G : sx_G} {F F1 : Nat → va_E} {w : Nat → Int32} {n B : Nat} (h : WV G F w n B) (e : ∀ j, B ≤ j → j < B + 27 → F1 j = F j) : WV G F1 w n B := by
  obtain ⟨st, ho, ct, cl, cs, kr, r4, r6, r8, h1, h2, h3, h4, h5, h6, h7, h8, h9, h10, hkr, hRV, hKV, ⟨th, so, wi, lo, lc, rb, rc, rr, h19, h20, h21, h22, h23, h24, h25, h26, h27, hLV, hRB, hRC⟩, hRw⟩ := h
  have E : ∀ (j : Nat) (v : va_E), B ≤ j → j < B + 27 → F j = v → F1 j = v := fun j v a b q => (e j a b).trans q
  exact ⟨st, ho, ct, cl, cs, kr, r4, r6, r8, E _ _ (by omega) (by omega) h1, E _ _ (by omega) (by omega) h2, E _ _ (by omega) (by omega) h3, E _ _ (by omega) (by omega) h4, E _ _ (by omega) (by omega) h5, E _ _ (by omega) (by omega) h6, E _ _ (by omega) (by omega) h7, E _ _ (by omega) (by omega) h8, E _ _ (by omega) (by omega) h9, E _ _ (by omega) (by omega) h10, hkr, hRV, fun c hc => by
    obtain ⟨q1, nr, q2, q3⟩ := hKV c hc
    exact ⟨E _ _ (by omega) (by omega) q1, nr, E _ _ (by omega) (by omega) q2, q3⟩, ⟨th, so, wi, lo, lc, rb, rc, rr, E _ _ (by omega) (by omega) h19, E _ _ (by omega) (by omega) h20, E _ _ (by omega) (by omega) h21, E _ _ (by omega) (by omega) h22, E _ _ (by omega) (by omega) h23, E _ _ (by omega) (by omega) h24, E _ _ (by omega) (by omega) h25, E _ _ (by omega) (by omega) h26, E _ _ (by omega) (by omega) h27, hLV, hRB, hRC⟩, hRw⟩
/-- only the places below 1372 are seen -/
theorem WV.congr {G : sx_G} {F : Nat → va_E} {w v : Nat → Int32} {n B : Nat} (h : WV G F w n B) (hn : n ≤ 160) (hoe : ∀ e, e < n → okE w e) (e : ∀ j, j < 1372 → v j = w j) : WV G F v n B := by
  obtain ⟨st, ho, ct, cl, cs, kr, r4, r6, r8, h1, h2, h3, h4, h5, h6, h7, h8, h9, h10, hkr, ⟨v1, v2, v3, v4, v5⟩, hKV, ⟨th, so, wi, lo, lc, rb, rc, rr, h19, h20, h21, h22, h23, h24, h25, h26, h27, hLV, hRB, hRC⟩, hRw⟩ := h
  have eo : ∀ k, 91 < k → k < 92 + 8 * n → v k = w k := fun k _ q => e k (by omega)
  refine ⟨st, ho, ct, cl, cs, kr, r4, r6, r8, h1, h2, h3, h4, h5, h6, h7, h8, h9, h10, hkr, ⟨fun k hk => (v1 k hk).trans (e _ (by omega)).symm, fun k hk => (v2 k hk).trans (e _ (by omega)).symm, fun k hk => (v3 k hk).trans (e _ (by omega)).symm, fun k hk => (v4 k hk).trans (e _ (by omega)).symm, fun k hk => (v5 k hk).trans (e _ (by omega)).symm⟩, fun c hc => KV_up (hKV c hc) rfl rfl (fun k _ q => e k (by omega)) (gdF_congr eo n (Nat.le_refl _)), ⟨th, so, wi, lo, lc, rb, rc, rr, h19, h20, h21, h22, h23, h24, h25, h26, h27, ?_, ?_, ?_⟩, hRw⟩
  · intro f hf
    obtain ⟨q1, q2, q3, q4, q5⟩ := hLV f hf
    exact ⟨q1.trans (e _ (by omega)).symm, q2.trans (e _ (by omega)).symm, q3.trans (e _ (by omega)).symm, q4.trans (e _ (by omega)).symm, fun k hk => (q5 k hk).trans (e _ (by omega)).symm⟩
  · intro f hf ha c hc hw
    unfold accA at ha
    rw [e _ (by omega)] at ha hw
    rw [hRB f hf ha c hc hw, cntE_congr (fun j hj => (hoe j (by omega)).1) (fun k z1 z2 => eo k z1 (by omega)) f (Nat.le_refl _)]
  · intro c hc k hk
    rw [hRC c hc k hk, rcN_congr (fun j hj => (hoe j (by omega)).1) eo n (Nat.le_refl _)]
