/-! the row at the start, and copied rows -/
theorem cpy_row {f g v : Nat → Int32} {o N : Nat} (h : ∀ k, k < N → f k = v (o + k)) : ∀ k, k < N → va_cpy f g 0 0 N k = v (o + k) := fun k hk => by
  rw [pk_cpy_in (Nat.zero_le _) (by omega), show 0 + (k - 0) = k by omega, h k hk]
theorem cpy_at {f g : Nat → Int32} {N : Nat} (k : Nat) (hk : k < N) : va_cpy f g 0 0 N k = f k := by
  rw [pk_cpy_in (Nat.zero_le _) (by omega), show 0 + (k - 0) = k by omega]
theorem ini_st {w g : Nat → Int32} (hz : ∀ k, k < 4 → g k = nI 0) : ∀ k, k < 4 → upd g 0 (nI 1) k = iniF w k := by
  intro k hk
  rcases (show k = 0 ∨ k = 1 ∨ k = 2 ∨ k = 3 by omega) with rfl | rfl | rfl | rfl
  · exact pk_us
  · exact hz 1 (by decide)
  · exact hz 2 (by decide)
  · exact hz 3 (by decide)
theorem ini_ho {w g : Nat → Int32} (hz : ∀ k, k < 3 → g k = -1) : ∀ k, k < 3 → g k = iniF w (40 + k) := by
  intro k hk
  rcases (show k = 0 ∨ k = 1 ∨ k = 2 by omega) with rfl | rfl | rfl
  · exact hz 0 (by decide)
  · exact hz 1 (by decide)
  · exact hz 2 (by decide)
theorem ini_ct {w g : Nat → Int32} (hz : ∀ k, k < 16 → g k = nI 0) : ∀ k, k < 16 → upd (upd (upd (upd g 0 (nI 1)) 5 (nI 1)) 10 (nI 1)) 15 (nI 1) k = iniF w (4 + k) := by
  intro k hk
  rcases (show k = 0 ∨ k = 1 ∨ k = 2 ∨ k = 3 ∨ k = 4 ∨ k = 5 ∨ k = 6 ∨ k = 7 ∨ k = 8 ∨ k = 9 ∨ k = 10 ∨ k = 11 ∨ k = 12 ∨ k = 13 ∨ k = 14 ∨ k = 15 by omega) with rfl | rfl | rfl | rfl | rfl | rfl | rfl | rfl | rfl | rfl | rfl | rfl | rfl | rfl | rfl | rfl
  · rfl
  · exact hz 1 (by decide)
  · exact hz 2 (by decide)
  · exact hz 3 (by decide)
  · exact hz 4 (by decide)
  · rfl
  · exact hz 6 (by decide)
  · exact hz 7 (by decide)
  · exact hz 8 (by decide)
  · exact hz 9 (by decide)
  · rfl
  · exact hz 11 (by decide)
  · exact hz 12 (by decide)
  · exact hz 13 (by decide)
  · exact hz 14 (by decide)
  · rfl
theorem ini_cl {w g : Nat → Int32} (hz : ∀ k, k < 12 → g k = nI 0) : ∀ k, k < 12 → g k = iniF w (20 + k) := by
  intro k hk
  rcases (show k = 0 ∨ k = 1 ∨ k = 2 ∨ k = 3 ∨ k = 4 ∨ k = 5 ∨ k = 6 ∨ k = 7 ∨ k = 8 ∨ k = 9 ∨ k = 10 ∨ k = 11 by omega) with rfl | rfl | rfl | rfl | rfl | rfl | rfl | rfl | rfl | rfl | rfl | rfl
  · exact hz 0 (by decide)
  · exact hz 1 (by decide)
  · exact hz 2 (by decide)
  · exact hz 3 (by decide)
  · exact hz 4 (by decide)
  · exact hz 5 (by decide)
  · exact hz 6 (by decide)
  · exact hz 7 (by decide)
  · exact hz 8 (by decide)
  · exact hz 9 (by decide)
  · exact hz 10 (by decide)
  · exact hz 11 (by decide)
theorem ini_cs {w g : Nat → Int32} (hz : ∀ k, k < 8 → g k = nI 0) : ∀ k, k < 8 → g k = iniF w (32 + k) := by
  intro k hk
  rcases (show k = 0 ∨ k = 1 ∨ k = 2 ∨ k = 3 ∨ k = 4 ∨ k = 5 ∨ k = 6 ∨ k = 7 by omega) with rfl | rfl | rfl | rfl | rfl | rfl | rfl | rfl
  · exact hz 0 (by decide)
  · exact hz 1 (by decide)
  · exact hz 2 (by decide)
  · exact hz 3 (by decide)
  · exact hz 4 (by decide)
  · exact hz 5 (by decide)
  · exact hz 6 (by decide)
  · exact hz 7 (by decide)
theorem ini_c {w : Nat → Int32} {c : Nat} (hc : c < 4) : iniF w (43 + 12 * c) = -1 ∧ iniF w (44 + 12 * c) = nI 0 ∧ iniF w (45 + 12 * c) = -1 ∧ iniF w (46 + 12 * c) = nI 0 ∧ iniF w (47 + 12 * c) = nI 0 ∧ iniF w (52 + 12 * c) = nI 0 ∧ iniF w (53 + 12 * c) = -1 ∧ iniF w (54 + 12 * c) = -1 ∧ ∀ k, k < 4 → iniF w (48 + 12 * c + k) = nI 0 := by
  rcases (show c = 0 ∨ c = 1 ∨ c = 2 ∨ c = 3 by omega) with rfl | rfl | rfl | rfl
  · refine ⟨rfl, rfl, rfl, rfl, rfl, rfl, rfl, rfl, fun k hk => ?_⟩
    rcases (show k = 0 ∨ k = 1 ∨ k = 2 ∨ k = 3 by omega) with rfl | rfl | rfl | rfl <;> rfl
  · refine ⟨rfl, rfl, rfl, rfl, rfl, rfl, rfl, rfl, fun k hk => ?_⟩
    rcases (show k = 0 ∨ k = 1 ∨ k = 2 ∨ k = 3 by omega) with rfl | rfl | rfl | rfl <;> rfl
  · refine ⟨rfl, rfl, rfl, rfl, rfl, rfl, rfl, rfl, fun k hk => ?_⟩
    rcases (show k = 0 ∨ k = 1 ∨ k = 2 ∨ k = 3 by omega) with rfl | rfl | rfl | rfl <;> rfl
  · refine ⟨rfl, rfl, rfl, rfl, rfl, rfl, rfl, rfl, fun k hk => ?_⟩
    rcases (show k = 0 ∨ k = 1 ∨ k = 2 ∨ k = 3 by omega) with rfl | rfl | rfl | rfl <;> rfl
theorem LV_cpy {w th so wi lo lc th2 so2 wi2 lo2 lc2 : Nat → Int32} {n : Nat} (h : LV w n th2 so2 wi2 lo2 lc2) : LV w n (va_cpy th2 th 0 0 n) (va_cpy so2 so 0 0 n) (va_cpy wi2 wi 0 0 n) (va_cpy lo2 lo 0 0 n) (va_cpy lc2 lc 0 0 (4 * n)) := by
  intro e he
  obtain ⟨q1, q2, q3, q4, q5⟩ := h e he
  exact ⟨(cpy_at e he).trans q1, (cpy_at e he).trans q2, (cpy_at e he).trans q3, (cpy_at e he).trans q4, fun k hk => (cpy_at _ (by omega)).trans (q5 k hk)⟩
theorem RB_cpy {w rb rb2 : Nat → Int32} {n : Nat} (h : RBV w rb2 n) : RBV w (va_cpy rb2 rb 0 0 n) n := fun f hf ha c hc hw => (cpy_at f hf).trans (h f hf ha c hc hw)
theorem RC_cpy {w rc rc2 : Nat → Int32} {n : Nat} (h : RCV w rc2 n) : RCV w (va_cpy rc2 rc 0 0 12) n := fun c hc k hk => (cpy_at _ (by omega)).trans (h c hc k hk)
theorem Lg_ini {w th so wi lo lc rb rc : Nat → Int32} (hz : ∀ k, k < 12 → rc k = nI 0) : LV w 0 th so wi lo lc ∧ RBV w rb 0 ∧ RCV w rc 0 := ⟨fun e he => absurd he (by omega), fun f hf => absurd hf (by omega), fun c hc k hk => hz _ (by omega)⟩
