/-! how an EVENT that comes changes the component's rows -/
theorem jn_row {g h w : Nat → Int32} {og oh a b L L' : Nat} (hg : ∀ k, k < L → g k = w (og + k)) (hh : ∀ k, k < L' → h k = w (oh + k)) (ha : a + 4 ≤ L) (hb : b + 4 ≤ L') (hd : oh + b + 4 ≤ og + a ∨ og + a + 4 ≤ oh + b) : ∀ k, k < L → joinR g a h b k = joinF w (og + a) (oh + b) (og + k) := by
  intro k hk
  by_cases q : a ≤ k ∧ k < a + 4
  · obtain ⟨j, rfl⟩ : ∃ j, k = a + j := ⟨k - a, by omega⟩
    have e1 : g (a + j) = w (og + a + j) := (hg _ hk).trans (congrArg w (by omega))
    have e2 : h (b + j) = w (oh + b + j) := (hh _ (by omega)).trans (congrArg w (by omega))
    rw [joinR_at j (by omega), show og + (a + j) = og + a + j by omega, joinF_at j (by omega) hd, mxI_eq, e1, e2]
  · rw [joinR_out (by omega), joinF_out (by omega), hg k hk]
theorem mstep_at {ct : Nat → Int32} {t k : Nat} : mstep ct t k = if k = 5 * t ∧ ct (5 * t) < 2147483647 then ct (5 * t) + nI 1 else ct k := by
  unfold mstep
  by_cases h : ct (5 * t) < 2147483647
  · rw [if_pos h]
    by_cases e : k = 5 * t
    · rw [e, pk_us, if_pos ⟨rfl, h⟩]
    · rw [pk_un e, if_neg (fun q => e q.1)]
  · rw [if_neg h, if_neg (fun q => h q.2)]
theorem ltmax {a : Int32} : a < 2147483647 ↔ ¬ a = 2147483647 := by
  have hx : a.toInt ≤ 2147483647 := Int32.toInt_le a
  have hm : (2147483647 : Int32).toInt = 2147483647 := by decide
  rw [Int32.lt_iff_toInt_lt, hm]
  constructor
  · intro h q
    rw [q, hm] at h
    omega
  · intro h
    have : ¬ a.toInt = 2147483647 := fun q => h (Int32.toInt_inj.mp (by rw [q]; decide))
    omega
theorem comeF_lo {w : Nat → Int32} {n t s x k : Nat} (hk : k < 91) (ht : t < 4) : comeF w n t s x k = cif (k = 4 + 5 * t ∧ hasS s ∧ ¬ doF w t s x (4 + 5 * t) = 2147483647) (doF w t s x k + nI 1) (doF w t s x k) := by
  unfold comeF stpF
  rw [wriF_out (k := 4 + 5 * t) (by omega) (by omega)]
  by_cases h : hasS s ∧ ¬ doF w t s x (4 + 5 * t) = 2147483647
  · rw [cif_t h]
    unfold stepF
    by_cases e : k = 4 + 5 * t
    · rw [e, pk_us, wriF_out (by omega) (by omega), cif_t ⟨rfl, h⟩]
    · rw [pk_un e, wriF_out (by omega) (by omega), cif_f (fun q => e q.1)]
  · rw [cif_f h, wriF_out (by omega) (by omega), cif_f (fun q => h q.2)]
theorem comeF_no {w : Nat → Int32} {n t s x k : Nat} (hk : k < 91) (ht : t < 4) (h : k ≠ 4 + 5 * t ∨ ¬ hasS s) : comeF w n t s x k = doF w t s x k := by
  rw [comeF_lo hk ht, cif_f (fun q => h.elim (fun z => z q.1) (fun z => z q.2.1))]
theorem step_row {w c : Nat → Int32} {n t s x : Nat} (ht : t < 4) (hs : hasS s) (h : ∀ k, k < 16 → c k = doF w t s x (4 + k)) : ∀ k, k < 16 → mstep c t k = comeF w n t s x (4 + k) := by
  intro k hk
  rw [mstep_at, comeF_lo (by omega) ht, h (5 * t) (by omega)]
  by_cases e : k = 5 * t
  · subst e
    by_cases q : doF w t s x (4 + 5 * t) = 2147483647
    · rw [if_neg (fun z => ltmax.mp z.2 q), cif_f (fun z => z.2.2 q), h _ hk]
    · rw [if_pos ⟨rfl, ltmax.mpr q⟩, cif_t ⟨rfl, hs, q⟩]
  · rw [if_neg (fun z => e z.1), cif_f (fun z => e (by omega)), h k hk]
theorem leavF_out {w : Nat → Int32} {t x k : Nat} (h1 : k ≠ 40 + x) (h2 : k < 20 + 4 * x ∨ 24 + 4 * x ≤ k) : leavF w t x k = w k := by
  show upd (upd (upd (upd (upd w (40 + x) _) (20 + 4 * x) _) (21 + 4 * x) _) (22 + 4 * x) _) (23 + 4 * x) _ k = w k
  rw [pk_un (by omega), pk_un (by omega), pk_un (by omega), pk_un (by omega), pk_un (by omega)]
theorem leavF_hold {w : Nat → Int32} {t x : Nat} (hx : x < 3) : leavF w t x (40 + x) = -1 := by
  show upd (upd (upd (upd (upd w (40 + x) _) (20 + 4 * x) _) (21 + 4 * x) _) (22 + 4 * x) _) (23 + 4 * x) _ (40 + x) = -1
  rw [pk_un (by omega), pk_un (by omega), pk_un (by omega), pk_un (by omega), pk_us]
theorem leavF_at {w : Nat → Int32} {t x : Nat} (ht : t < 4) (hx : x < 3) (j : Nat) (hj : j < 4) : leavF w t x (20 + 4 * x + j) = w (4 + 4 * t + j) := by
  rcases (show j = 0 ∨ j = 1 ∨ j = 2 ∨ j = 3 by omega) with rfl | rfl | rfl | rfl
  · show upd (upd (upd (upd (upd w (40 + x) _) (20 + 4 * x) _) (21 + 4 * x) _) (22 + 4 * x) _) (23 + 4 * x) _ (20 + 4 * x) = w (4 + 4 * t)
    rw [pk_un (by omega), pk_un (by omega), pk_un (by omega), pk_us, pk_un (by omega)]
  · show upd (upd (upd (upd (upd w (40 + x) _) (20 + 4 * x) _) (21 + 4 * x) _) (22 + 4 * x) _) (23 + 4 * x) _ (20 + 4 * x + 1) = w (4 + 4 * t + 1)
    rw [show 20 + 4 * x + 1 = 21 + 4 * x by omega, pk_un (by omega), pk_un (by omega), pk_us, pk_un (by omega), pk_un (by omega)]
    congr 1; omega
  · show upd (upd (upd (upd (upd w (40 + x) _) (20 + 4 * x) _) (21 + 4 * x) _) (22 + 4 * x) _) (23 + 4 * x) _ (20 + 4 * x + 2) = w (4 + 4 * t + 2)
    rw [show 20 + 4 * x + 2 = 22 + 4 * x by omega, pk_un (by omega), pk_us, pk_un (by omega), pk_un (by omega), pk_un (by omega)]
    congr 1; omega
  · show upd (upd (upd (upd (upd w (40 + x) _) (20 + 4 * x) _) (21 + 4 * x) _) (22 + 4 * x) _) (23 + 4 * x) _ (20 + 4 * x + 3) = w (4 + 4 * t + 3)
    rw [show 20 + 4 * x + 3 = 23 + 4 * x by omega, pk_us, pk_un (by omega), pk_un (by omega), pk_un (by omega), pk_un (by omega)]
    congr 1; omega
/-- the rows of the WORLD that are not the log's nor the CELLS' -/
abbrev RV (w st ho ct cl cs : Nat → Int32) : Prop := (∀ k, k < 4 → st k = w k) ∧ (∀ k, k < 3 → ho k = w (40 + k)) ∧ (∀ k, k < 16 → ct k = w (4 + k)) ∧ (∀ k, k < 12 → cl k = w (20 + k)) ∧ ∀ k, k < 8 → cs k = w (32 + k)
theorem upd_row {g v : Nat → Int32} {o x L : Nat} {y : Int32} (h : ∀ k, k < L → g k = v (o + k)) : ∀ k, k < L → upd g x y k = upd v (o + x) y (o + k) := by
  intro k hk
  rw [upd_sh, upd_at]
  by_cases e : k = x
  · rw [if_pos e, if_pos e]
  · rw [if_neg e, if_neg e, h k hk]
/-- what is behind takeIn is the reference's row behind doF, where the EVENT is written down from it -/
theorem tk_rows {w st ho ct cl cs : Nat → Int32} {t s x : Nat} (hok : ∀ c, c < 4 → okC w c) (h : RV w st ho ct cl cs) (ht : t < 4) (hs : s < 8) (hx : x < boundF s) (hxt : 6 ≤ s → x ≠ t) : (∀ k, k < 3 → tiH s ho t x k = doF w t s x (40 + k)) ∧ ∀ j, j < 4 → tiC s ct cl cs t x (4 * t + j) = doF w t s x (4 + 4 * t + j) := by
  obtain ⟨h1, h2, h3, h4, h5⟩ := h
  have h3' : ∀ j, j < 4 → ct (4 * t + j) = w (4 + 4 * t + j) := fun j hj => (h3 _ (by omega)).trans (congrArg w (by omega))
  rcases (show s = 0 ∨ s = 1 ∨ s = 2 ∨ s = 3 ∨ s = 4 ∨ s = 5 ∨ s = 6 ∨ s = 7 by omega) with rfl | rfl | rfl | rfl | rfl | rfl | rfl | rfl
  · have hx : x < 4 := hx
    refine ⟨fun k hk => ?_, fun j hj => ?_⟩
    · show ho k = accF w t x 0 (40 + k)
      rw [accF_out hx ht (hok x hx).2.1 (by omega), h2 k hk]
    · show ct (4 * t + j) = accF w t x 0 (4 + 4 * t + j)
      rw [accF_out hx ht (hok x hx).2.1 (by omega), h3' j hj]
  · have hx : x < 4 := hx
    refine ⟨fun k hk => ?_, fun j hj => ?_⟩
    · show ho k = accF w t x 1 (40 + k)
      rw [accF_out hx ht (hok x hx).2.1 (by omega), h2 k hk]
    · show ct (4 * t + j) = accF w t x 1 (4 + 4 * t + j)
      rw [accF_out hx ht (hok x hx).2.1 (by omega), h3' j hj]
  · have hx : x < 3 := hx
    refine ⟨?_, fun j hj => ?_⟩
    · show ∀ k, k < 3 → upd ho x (nI t) k = upd (joinF w (4 + 4 * t) (20 + 4 * x)) (40 + x) (nI t) (40 + k)
      exact upd_row (fun k hk => by rw [joinF_out (by omega), h2 k hk])
    · show joinR ct (4 * t) cl (4 * x) (4 * t + j) = upd (joinF w (4 + 4 * t) (20 + 4 * x)) (40 + x) (nI t) (4 + 4 * t + j)
      rw [pk_un (by omega), jn_row h3 h4 (by omega) (by omega) (by omega) _ (by omega), Nat.add_assoc]
  · have hx : x < 3 := hx
    refine ⟨?_, fun j hj => ?_⟩
    · show ∀ k, k < 3 → upd ho x (-1) k = leavF w t x (40 + k)
      intro k hk
      by_cases e : k = x
      · rw [e, pk_us, leavF_hold hx]
      · rw [pk_un e, leavF_out (by omega) (by omega), h2 k hk]
    · show ct (4 * t + j) = leavF w t x (4 + 4 * t + j)
      rw [leavF_out (by omega) (by omega), h3' j hj]
  · have hx : x < 2 := hx
    refine ⟨fun k hk => ?_, fun j hj => ?_⟩
    · show ho k = joinF w (32 + 4 * x) (4 + 4 * t) (40 + k)
      rw [joinF_out (by omega), h2 k hk]
    · show ct (4 * t + j) = joinF w (32 + 4 * x) (4 + 4 * t) (4 + 4 * t + j)
      rw [joinF_out (by omega), h3' j hj]
  · have hx : x < 2 := hx
    refine ⟨fun k hk => ?_, fun j hj => ?_⟩
    · show ho k = joinF w (4 + 4 * t) (32 + 4 * x) (40 + k)
      rw [joinF_out (by omega), h2 k hk]
    · show joinR ct (4 * t) cs (4 * x) (4 * t + j) = joinF w (4 + 4 * t) (32 + 4 * x) (4 + 4 * t + j)
      rw [jn_row h3 h5 (by omega) (by omega) (by omega) _ (by omega), Nat.add_assoc]
  · have hx : x < 4 := hx
    have hxt := hxt (by decide)
    refine ⟨fun k hk => ?_, fun j hj => ?_⟩
    · show ho k = upd (joinF w (4 + 4 * x) (4 + 4 * t)) x (nI 1) (40 + k)
      rw [pk_un (by omega), joinF_out (by omega), h2 k hk]
    · show ct (4 * t + j) = upd (joinF w (4 + 4 * x) (4 + 4 * t)) x (nI 1) (4 + 4 * t + j)
      rw [pk_un (by omega), joinF_out (by omega), h3' j hj]
  · have hx : x < 4 := hx
    have hxt := hxt (by decide)
    refine ⟨fun k hk => ?_, fun j hj => ?_⟩
    · show ho k = upd (joinF w (4 + 4 * t) (4 + 4 * x)) x (nI 2) (40 + k)
      rw [pk_un (by omega), joinF_out (by omega), h2 k hk]
    · show joinA ct (4 * t) (4 * x) (4 * t + j) = upd (joinF w (4 + 4 * t) (4 + 4 * x)) x (nI 2) (4 + 4 * t + j)
      rw [pk_un (by omega), joinA_R (by omega), jn_row h3 h3 (by omega) (by omega) (by omega) _ (by omega), Nat.add_assoc]
