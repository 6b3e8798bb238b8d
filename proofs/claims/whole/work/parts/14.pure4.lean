/-! a world that is sound, and that it stays so -/
abbrev okE (w : Nat → Int32) (e : Nat) : Prop := (∃ t, t < 4 ∧ w (92 + 8 * e) = nI t) ∧ (∃ s, s < 8 ∧ w (93 + 8 * e) = nI s) ∧ (∃ x, x < 4 ∧ w (94 + 8 * e) = nI x) ∧ ∃ v, v < 8 ∧ w (99 + 8 * e) = nI v
def WFw (w : Nat → Int32) (n : Nat) : Prop := w 91 = nI n ∧ n ≤ 160 ∧ (∀ e, e < n → okE w e) ∧ (∀ c, c < 4 → okC w c) ∧ (∀ k, 4 ≤ k → k < 40 → 0 ≤ w k)
theorem WFw.ev {w : Nat → Int32} {n : Nat} (h : WFw w n) : ∀ e, e < n → ∃ t, t < 4 ∧ w (92 + 8 * e) = nI t := fun e he => (h.2.2.1 e he).1
theorem heldF_lt (h : Nat → Int32) (t : Int32) : ∃ v, v < 8 ∧ heldF h t = nI v := by
  unfold heldF
  by_cases h0 : h 0 = t <;> by_cases h1 : h 1 = t <;> by_cases h2 : h 2 = t
  · exact ⟨7, by decide, by rw [if_pos h0, if_pos h1, if_pos h2]; decide⟩
  · exact ⟨3, by decide, by rw [if_pos h0, if_pos h1, if_neg h2]; decide⟩
  · exact ⟨5, by decide, by rw [if_pos h0, if_neg h1, if_pos h2]; decide⟩
  · exact ⟨1, by decide, by rw [if_pos h0, if_neg h1, if_neg h2]; decide⟩
  · exact ⟨6, by decide, by rw [if_neg h0, if_pos h1, if_pos h2]; decide⟩
  · exact ⟨2, by decide, by rw [if_neg h0, if_pos h1, if_neg h2]; decide⟩
  · exact ⟨4, by decide, by rw [if_neg h0, if_neg h1, if_pos h2]; decide⟩
  · exact ⟨0, by decide, by rw [if_neg h0, if_neg h1, if_neg h2]; decide⟩
theorem ge0_max {a b : Int32} (ha : 0 ≤ a) (hb : 0 ≤ b) : 0 ≤ (if a ≤ b then b else a) := by
  by_cases h : a ≤ b
  · rw [if_pos h]; exact hb
  · rw [if_neg h]; exact ha
theorem ge0_succ {a : Int32} (h : 0 ≤ a) (hm : ¬ a = 2147483647) : 0 ≤ a + nI 1 := by
  have h1 := Int32.le_iff_toInt_le.mp h
  have h0 : (0 : Int32).toInt = 0 := by decide
  have hx : a.toInt ≤ 2147483647 := Int32.toInt_le a
  have hne : ¬ a.toInt = 2147483647 := fun q => hm (Int32.toInt_inj.mp (by rw [q]; decide))
  obtain ⟨j, hj, rfl⟩ := nI_of (x := a) (Int32.not_lt.mpr h)
  rw [nI_toInt hj] at hne hx
  show 0 ≤ nI j + 1
  rw [nI_1]
  exact nI_pos' (by omega)
/-- the four places that a join writes -/
theorem joinF_at {w : Nat → Int32} {to fr : Nat} (k : Nat) (hk : k < 4) (hd : fr + 4 ≤ to ∨ to + 4 ≤ fr) : joinF w to fr (to + k) = if w (fr + k) ≤ w (to + k) then w (to + k) else w (fr + k) := by
  rcases (show k = 0 ∨ k = 1 ∨ k = 2 ∨ k = 3 by omega) with rfl | rfl | rfl | rfl
  · show upd (upd (upd (upd w to _) (1 + to) _) (2 + to) _) (3 + to) _ to = _
    rw [pk_un (by omega), pk_un (by omega), pk_un (by omega), pk_us]; rfl
  · show upd (upd (upd (upd w to _) (1 + to) _) (2 + to) _) (3 + to) _ (to + 1) = _
    rw [pk_un (by omega), pk_un (by omega), Nat.add_comm to 1, pk_us, pk_un (by omega), pk_un (by omega), Nat.add_comm fr 1]
  · show upd (upd (upd (upd w to _) (1 + to) _) (2 + to) _) (3 + to) _ (to + 2) = _
    rw [pk_un (by omega), Nat.add_comm to 2, pk_us, pk_un (by omega), pk_un (by omega), pk_un (by omega), pk_un (by omega), Nat.add_comm fr 2]
  · show upd (upd (upd (upd w to _) (1 + to) _) (2 + to) _) (3 + to) _ (to + 3) = _
    rw [Nat.add_comm to 3, pk_us, pk_un (by omega), pk_un (by omega), pk_un (by omega), pk_un (by omega), pk_un (by omega), pk_un (by omega), Nat.add_comm fr 3]
theorem joinF_ge0 {w : Nat → Int32} {to fr k : Nat} (hd : fr + 4 ≤ to ∨ to + 4 ≤ fr) (h1 : ∀ j, j < 4 → 0 ≤ w (to + j)) (h2 : ∀ j, j < 4 → 0 ≤ w (fr + j)) (h : 0 ≤ w k) : 0 ≤ joinF w to fr k := by
  by_cases hk : k < to ∨ to + 4 ≤ k
  · rw [joinF_out hk]; exact h
  · have hkk : k - to < 4 := by omega
    rw [show k = to + (k - to) by omega, joinF_at (k - to) hkk hd]
    exact ge0_max (h2 _ hkk) (h1 _ hkk)
theorem okC_congr {w v : Nat → Int32} {c : Nat} (h : okC w c) (e : ∀ k, 43 + 12 * c ≤ k → k < 55 + 12 * c → v k = w k) : okC v c := by
  unfold okC
  rw [e _ (by omega) (by omega), e _ (by omega) (by omega), e _ (by omega) (by omega)]
  exact h
theorem firstF_out {w : Nat → Int32} {c k : Nat} {v : Int32} (h : k < 53 + 12 * c ∨ 55 + 12 * c ≤ k) : firstF w c v k = w k := by
  unfold firstF
  by_cases hp : ¬ v = -1 ∧ w (53 + 12 * c) = -1
  · rw [cif_t hp, pk_un (by omega), pk_un (by omega)]
  · rw [cif_f hp]
theorem okC_first {w : Nat → Int32} {c : Nat} {v : Int32} (h : okC w c) : okC (firstF w c v) c := by
  unfold okC
  rw [firstF_out (by omega), firstF_out (by omega), firstF_out (by omega)]
  exact h
theorem okC_read {w : Nat → Int32} {t c : Nat} (ht : t < 4) (h : okC w c) : okC (readF w t c) c := by
  unfold readF
  by_cases h1 : w (47 + 12 * c) = nI 1
  · rw [cif_t h1]
    exact okC_upd h (by omega) (by omega) (by omega)
  · rw [cif_f h1]
    have h0 : w (47 + 12 * c) = nI 0 := by
      rcases h.2.2 with q | q
      · exact q
      · exact absurd q.1 h1
    by_cases h2 : ¬ notA w t (w (45 + 12 * c)) (w (46 + 12 * c))
    · rw [cif_t h2]
      refine ⟨?_, ?_, ?_⟩
      · rw [pk_un (by omega), pk_un (by omega)]; exact h.1
      · rw [pk_un (by omega), pk_us]; exact Or.inr ⟨t, ht, rfl⟩
      · rw [pk_un (by omega), pk_un (by omega)]; exact Or.inl h0
    · rw [cif_f h2]
      have h3 := Classical.not_not.mp h2
      rcases h.2.1 with q | ⟨u, hu, q⟩
      · exact absurd q h3.1
      · rw [q, nI_clamp (by omega)]
        refine ⟨?_, ?_, ?_⟩
        · show upd (upd (upd (upd (upd (upd w (47 + 12 * c) _) (48 + 12 * c + u) _) (48 + 12 * c + t) _) (45 + 12 * c) _) (46 + 12 * c) _) (52 + 12 * c) _ (43 + 12 * c) = -1 ∨ ∃ z, z < 4 ∧ upd (upd (upd (upd (upd (upd w (47 + 12 * c) _) (48 + 12 * c + u) _) (48 + 12 * c + t) _) (45 + 12 * c) _) (46 + 12 * c) _) (52 + 12 * c) _ (43 + 12 * c) = nI z
          rw [pk_un (by omega), pk_un (by omega), pk_un (by omega), pk_un (by omega), pk_un (by omega), pk_un (by omega)]
          exact h.1
        · refine Or.inl ?_
          show upd (upd (upd (upd (upd (upd w (47 + 12 * c) _) (48 + 12 * c + u) _) (48 + 12 * c + t) _) (45 + 12 * c) _) (46 + 12 * c) _) (52 + 12 * c) _ (45 + 12 * c) = -1
          rw [pk_un (by omega), pk_un (by omega), pk_us]
        · refine Or.inr ⟨?_, ?_⟩
          · show upd (upd (upd (upd (upd (upd w (47 + 12 * c) _) (48 + 12 * c + u) _) (48 + 12 * c + t) _) (45 + 12 * c) _) (46 + 12 * c) _) (52 + 12 * c) _ (47 + 12 * c) = nI 1
            rw [pk_un (by omega), pk_un (by omega), pk_un (by omega), pk_un (by omega), pk_un (by omega), pk_us]
          · show upd (upd (upd (upd (upd (upd w (47 + 12 * c) _) (48 + 12 * c + u) _) (48 + 12 * c + t) _) (45 + 12 * c) _) (46 + 12 * c) _) (52 + 12 * c) _ (45 + 12 * c) = -1
            rw [pk_un (by omega), pk_un (by omega), pk_us]
theorem okC_wr {w : Nat → Int32} {t c : Nat} (ht : t < 4) : okC (wrF w t c) c := by
  refine ⟨Or.inr ⟨t, ht, ?_⟩, Or.inl ?_, Or.inl ?_⟩
  · show upd (upd (upd (upd (upd (upd (upd (upd (upd w (43 + 12 * c) _) (44 + 12 * c) _) (45 + 12 * c) _) (46 + 12 * c) _) (47 + 12 * c) _) (48 + 12 * c) _) (49 + 12 * c) _) (50 + 12 * c) _) (51 + 12 * c) _ (43 + 12 * c) = nI t
    rw [pk_un (by omega), pk_un (by omega), pk_un (by omega), pk_un (by omega), pk_un (by omega), pk_un (by omega), pk_un (by omega), pk_un (by omega), pk_us]
  · show upd (upd (upd (upd (upd (upd (upd (upd (upd w (43 + 12 * c) _) (44 + 12 * c) _) (45 + 12 * c) _) (46 + 12 * c) _) (47 + 12 * c) _) (48 + 12 * c) _) (49 + 12 * c) _) (50 + 12 * c) _) (51 + 12 * c) _ (45 + 12 * c) = -1
    rw [pk_un (by omega), pk_un (by omega), pk_un (by omega), pk_un (by omega), pk_un (by omega), pk_un (by omega), pk_us]
  · show upd (upd (upd (upd (upd (upd (upd (upd (upd w (43 + 12 * c) _) (44 + 12 * c) _) (45 + 12 * c) _) (46 + 12 * c) _) (47 + 12 * c) _) (48 + 12 * c) _) (49 + 12 * c) _) (50 + 12 * c) _) (51 + 12 * c) _ (47 + 12 * c) = nI 0
    rw [pk_un (by omega), pk_un (by omega), pk_un (by omega), pk_un (by omega), pk_us]
theorem okC_acc {w : Nat → Int32} {t c wr : Nat} (ht : t < 4) (h : okC w c) : okC (accF w t c wr) c := by
  unfold accF
  by_cases hw : wr = 0
  · rw [cif_t hw]; exact okC_read ht (okC_first h)
  · rw [cif_f hw]; exact okC_wr ht
/-- what an EVENT does ahead of its being written: the places that it leaves, and that all stays sound -/
theorem doF_hi {w : Nat → Int32} {t s x k : Nat} (ht : t < 4) (hs : s < 8) (hx : x < boundF s) (hok : ∀ c, c < 4 → okC w c) (hk : 91 ≤ k) : doF w t s x k = w k := by
  rcases (show s = 0 ∨ s = 1 ∨ s = 2 ∨ s = 3 ∨ s = 4 ∨ s = 5 ∨ s = 6 ∨ s = 7 by omega) with rfl | rfl | rfl | rfl | rfl | rfl | rfl | rfl
  · have hx : x < 4 := hx
    exact accF_out hx ht (hok x hx).2.1 (by omega)
  · have hx : x < 4 := hx
    exact accF_out hx ht (hok x hx).2.1 (by omega)
  · have hx : x < 3 := hx
    show upd (joinF w _ _) _ _ k = w k
    rw [pk_un (by omega), joinF_out (by omega)]
  · have hx : x < 3 := hx
    show upd (upd (upd (upd (upd w (40 + x) _) (20 + 4 * x) _) (21 + 4 * x) _) (22 + 4 * x) _) (23 + 4 * x) _ k = w k
    rw [pk_un (by omega), pk_un (by omega), pk_un (by omega), pk_un (by omega), pk_un (by omega)]
  · have hx : x < 2 := hx
    exact joinF_out (by omega)
  · exact joinF_out (by omega)
  · have hx : x < 4 := hx
    show upd (joinF w _ _) _ _ k = w k
    rw [pk_un (by omega), joinF_out (by omega)]
  · have hx : x < 4 := hx
    show upd (joinF w _ _) _ _ k = w k
    rw [pk_un (by omega), joinF_out (by omega)]
theorem doF_okC {w : Nat → Int32} {t s x c : Nat} (ht : t < 4) (hs : s < 8) (hx : x < boundF s) (hok : ∀ c, c < 4 → okC w c) (hc : c < 4) : okC (doF w t s x) c := by
  rcases (show s = 0 ∨ s = 1 ∨ s = 2 ∨ s = 3 ∨ s = 4 ∨ s = 5 ∨ s = 6 ∨ s = 7 by omega) with rfl | rfl | rfl | rfl | rfl | rfl | rfl | rfl
  · have hx : x < 4 := hx
    show okC (accF w t x 0) c
    by_cases e : c = x
    · subst e; exact okC_acc ht (hok c hc)
    · exact okC_congr (hok c hc) (fun k h1 h2 => accF_out hx ht (hok x hx).2.1 (by omega))
  · have hx : x < 4 := hx
    show okC (accF w t x 1) c
    by_cases e : c = x
    · subst e; exact okC_acc ht (hok c hc)
    · exact okC_congr (hok c hc) (fun k h1 h2 => accF_out hx ht (hok x hx).2.1 (by omega))
  · have hx : x < 3 := hx
    exact okC_congr (hok c hc) (fun k h1 h2 => by
      show upd (joinF w _ _) _ _ k = w k
      rw [pk_un (by omega), joinF_out (by omega)])
  · have hx : x < 3 := hx
    exact okC_congr (hok c hc) (fun k h1 h2 => by
      show upd (upd (upd (upd (upd w (40 + x) _) (20 + 4 * x) _) (21 + 4 * x) _) (22 + 4 * x) _) (23 + 4 * x) _ k = w k
      rw [pk_un (by omega), pk_un (by omega), pk_un (by omega), pk_un (by omega), pk_un (by omega)])
  · have hx : x < 2 := hx
    exact okC_congr (hok c hc) (fun k h1 h2 => joinF_out (by omega))
  · exact okC_congr (hok c hc) (fun k h1 h2 => joinF_out (by omega))
  · have hx : x < 4 := hx
    exact okC_congr (hok c hc) (fun k h1 h2 => by
      show upd (joinF w _ _) _ _ k = w k
      rw [pk_un (by omega), joinF_out (by omega)])
  · have hx : x < 4 := hx
    exact okC_congr (hok c hc) (fun k h1 h2 => by
      show upd (joinF w _ _) _ _ k = w k
      rw [pk_un (by omega), joinF_out (by omega)])
theorem doF_ge0 {w : Nat → Int32} {t s x k : Nat} (ht : t < 4) (hs : s < 8) (hx : x < boundF s) (hxt : 6 ≤ s → x ≠ t) (hok : ∀ c, c < 4 → okC w c) (h0 : ∀ k, 4 ≤ k → k < 40 → 0 ≤ w k) (h1 : 4 ≤ k) (h2 : k < 40) : 0 ≤ doF w t s x k := by
  rcases (show s = 0 ∨ s = 1 ∨ s = 2 ∨ s = 3 ∨ s = 4 ∨ s = 5 ∨ s = 6 ∨ s = 7 by omega) with rfl | rfl | rfl | rfl | rfl | rfl | rfl | rfl
  · have hx : x < 4 := hx
    show 0 ≤ accF w t x 0 k
    rw [accF_out hx ht (hok x hx).2.1 (by omega)]; exact h0 k h1 h2
  · have hx : x < 4 := hx
    show 0 ≤ accF w t x 1 k
    rw [accF_out hx ht (hok x hx).2.1 (by omega)]; exact h0 k h1 h2
  · have hx : x < 3 := hx
    show 0 ≤ upd (joinF w _ _) _ _ k
    rw [pk_un (by omega)]
    exact joinF_ge0 (by omega) (fun j hj => h0 _ (by omega) (by omega)) (fun j hj => h0 _ (by omega) (by omega)) (h0 k h1 h2)
  · have hx : x < 3 := hx
    show 0 ≤ upd (upd (upd (upd (upd w (40 + x) _) (20 + 4 * x) _) (21 + 4 * x) _) (22 + 4 * x) _) (23 + 4 * x) _ k
    by_cases e3 : k = 23 + 4 * x
    · rw [e3, pk_us, pk_un (by omega), pk_un (by omega), pk_un (by omega), pk_un (by omega)]; exact h0 _ (by omega) (by omega)
    · rw [pk_un e3]
      by_cases e2 : k = 22 + 4 * x
      · rw [e2, pk_us, pk_un (by omega), pk_un (by omega), pk_un (by omega)]; exact h0 _ (by omega) (by omega)
      · rw [pk_un e2]
        by_cases e1 : k = 21 + 4 * x
        · rw [e1, pk_us, pk_un (by omega), pk_un (by omega)]; exact h0 _ (by omega) (by omega)
        · rw [pk_un e1]
          by_cases e0 : k = 20 + 4 * x
          · rw [e0, pk_us, pk_un (by omega)]; exact h0 _ (by omega) (by omega)
          · rw [pk_un e0, pk_un (by omega)]; exact h0 k h1 h2
  · have hx : x < 2 := hx
    exact joinF_ge0 (by omega) (fun j hj => h0 _ (by omega) (by omega)) (fun j hj => h0 _ (by omega) (by omega)) (h0 k h1 h2)
  · have hx : x < 2 := hx
    exact joinF_ge0 (by omega) (fun j hj => h0 _ (by omega) (by omega)) (fun j hj => h0 _ (by omega) (by omega)) (h0 k h1 h2)
  · have hx : x < 4 := hx
    have hxt := hxt (by decide)
    show 0 ≤ upd (joinF w _ _) _ _ k
    rw [pk_un (by omega)]
    exact joinF_ge0 (by omega) (fun j hj => h0 _ (by omega) (by omega)) (fun j hj => h0 _ (by omega) (by omega)) (h0 k h1 h2)
  · have hx : x < 4 := hx
    have hxt := hxt (by decide)
    show 0 ≤ upd (joinF w _ _) _ _ k
    rw [pk_un (by omega)]
    exact joinF_ge0 (by omega) (fun j hj => h0 _ (by omega) (by omega)) (fun j hj => h0 _ (by omega) (by omega)) (h0 k h1 h2)
theorem wriF_out {w : Nat → Int32} {n t s x k : Nat} (h1 : k ≠ 91) (h2 : k < 92 + 8 * n ∨ 100 + 8 * n ≤ k) : wriF w n t s x k = w k := by
  show upd (upd (upd (upd (upd (upd (upd (upd (upd w (92 + 8 * n) _) (93 + 8 * n) _) (94 + 8 * n) _) (95 + 8 * n) _) (96 + 8 * n) _) (97 + 8 * n) _) (98 + 8 * n) _) (99 + 8 * n) _) 91 _ k = w k
  rw [pk_un h1, pk_un (by omega), pk_un (by omega), pk_un (by omega), pk_un (by omega), pk_un (by omega), pk_un (by omega), pk_un (by omega), pk_un (by omega)]
theorem wriF_0 {w : Nat → Int32} {n t s x : Nat} : wriF w n t s x (92 + 8 * n) = nI t := by
  show upd (upd (upd (upd (upd (upd (upd (upd (upd w (92 + 8 * n) _) (93 + 8 * n) _) (94 + 8 * n) _) (95 + 8 * n) _) (96 + 8 * n) _) (97 + 8 * n) _) (98 + 8 * n) _) (99 + 8 * n) _) 91 _ _ = _
  rw [pk_un (by omega), pk_un (by omega), pk_un (by omega), pk_un (by omega), pk_un (by omega), pk_un (by omega), pk_un (by omega), pk_un (by omega), pk_us]
theorem wriF_1 {w : Nat → Int32} {n t s x : Nat} : wriF w n t s x (93 + 8 * n) = nI s := by
  show upd (upd (upd (upd (upd (upd (upd (upd (upd w (92 + 8 * n) _) (93 + 8 * n) _) (94 + 8 * n) _) (95 + 8 * n) _) (96 + 8 * n) _) (97 + 8 * n) _) (98 + 8 * n) _) (99 + 8 * n) _) 91 _ _ = _
  rw [pk_un (by omega), pk_un (by omega), pk_un (by omega), pk_un (by omega), pk_un (by omega), pk_un (by omega), pk_un (by omega), pk_us]
theorem wriF_2 {w : Nat → Int32} {n t s x : Nat} : wriF w n t s x (94 + 8 * n) = nI x := by
  show upd (upd (upd (upd (upd (upd (upd (upd (upd w (92 + 8 * n) _) (93 + 8 * n) _) (94 + 8 * n) _) (95 + 8 * n) _) (96 + 8 * n) _) (97 + 8 * n) _) (98 + 8 * n) _) (99 + 8 * n) _) 91 _ _ = _
  rw [pk_un (by omega), pk_un (by omega), pk_un (by omega), pk_un (by omega), pk_un (by omega), pk_un (by omega), pk_us]
theorem wriF_3 {w : Nat → Int32} {n t s x : Nat} (ht : t < 4) (k : Nat) (hk : k < 4) : wriF w n t s x (95 + 8 * n + k) = w (4 + 4 * t + k) := by
  rcases (show k = 0 ∨ k = 1 ∨ k = 2 ∨ k = 3 by omega) with rfl | rfl | rfl | rfl
  · show upd (upd (upd (upd (upd (upd (upd (upd (upd w (92 + 8 * n) _) (93 + 8 * n) _) (94 + 8 * n) _) (95 + 8 * n) _) (96 + 8 * n) _) (97 + 8 * n) _) (98 + 8 * n) _) (99 + 8 * n) _) 91 _ (95 + 8 * n) = w (4 + 4 * t)
    rw [pk_un (by omega), pk_un (by omega), pk_un (by omega), pk_un (by omega), pk_un (by omega), pk_us, pk_un (by omega), pk_un (by omega), pk_un (by omega)]
  · show upd (upd (upd (upd (upd (upd (upd (upd (upd w (92 + 8 * n) _) (93 + 8 * n) _) (94 + 8 * n) _) (95 + 8 * n) _) (96 + 8 * n) _) (97 + 8 * n) _) (98 + 8 * n) _) (99 + 8 * n) _) 91 _ (95 + 8 * n + 1) = w (4 + 4 * t + 1)
    rw [show 95 + 8 * n + 1 = 96 + 8 * n by omega, pk_un (by omega), pk_un (by omega), pk_un (by omega), pk_un (by omega), pk_us, pk_un (by omega), pk_un (by omega), pk_un (by omega), pk_un (by omega)]
    congr 1; omega
  · show upd (upd (upd (upd (upd (upd (upd (upd (upd w (92 + 8 * n) _) (93 + 8 * n) _) (94 + 8 * n) _) (95 + 8 * n) _) (96 + 8 * n) _) (97 + 8 * n) _) (98 + 8 * n) _) (99 + 8 * n) _) 91 _ (95 + 8 * n + 2) = w (4 + 4 * t + 2)
    rw [show 95 + 8 * n + 2 = 97 + 8 * n by omega, pk_un (by omega), pk_un (by omega), pk_un (by omega), pk_us, pk_un (by omega), pk_un (by omega), pk_un (by omega), pk_un (by omega), pk_un (by omega)]
    congr 1; omega
  · show upd (upd (upd (upd (upd (upd (upd (upd (upd w (92 + 8 * n) _) (93 + 8 * n) _) (94 + 8 * n) _) (95 + 8 * n) _) (96 + 8 * n) _) (97 + 8 * n) _) (98 + 8 * n) _) (99 + 8 * n) _) 91 _ (95 + 8 * n + 3) = w (4 + 4 * t + 3)
    rw [show 95 + 8 * n + 3 = 98 + 8 * n by omega, pk_un (by omega), pk_un (by omega), pk_us, pk_un (by omega), pk_un (by omega), pk_un (by omega), pk_un (by omega), pk_un (by omega), pk_un (by omega)]
    congr 1; omega
theorem heldF_congr {h g : Nat → Int32} {t : Int32} (e : ∀ j, j < 3 → h j = g j) : heldF h t = heldF g t := by
  unfold heldF
  rw [e 0 (by decide), e 1 (by decide), e 2 (by decide)]
theorem wriF_7 {w : Nat → Int32} {n t s x : Nat} : wriF w n t s x (99 + 8 * n) = heldF (fun j => w (40 + j)) (nI t) := by
  show upd (upd (upd (upd (upd (upd (upd (upd (upd w (92 + 8 * n) _) (93 + 8 * n) _) (94 + 8 * n) _) (95 + 8 * n) _) (96 + 8 * n) _) (97 + 8 * n) _) (98 + 8 * n) _) (99 + 8 * n) _) 91 _ _ = _
  rw [pk_un (by omega), pk_us]
  apply heldF_congr
  intro j hj
  show upd (upd (upd (upd (upd (upd (upd w (92 + 8 * n) _) (93 + 8 * n) _) (94 + 8 * n) _) (95 + 8 * n) _) (96 + 8 * n) _) (97 + 8 * n) _) (98 + 8 * n) _ (40 + j) = w (40 + j)
  rw [pk_un (by omega), pk_un (by omega), pk_un (by omega), pk_un (by omega), pk_un (by omega), pk_un (by omega), pk_un (by omega)]
theorem stpF_out {w : Nat → Int32} {t s k : Nat} (h : k ≠ 4 + 5 * t) : stpF w t s k = w k := by
  unfold stpF
  by_cases hp : hasS s ∧ ¬ w (4 + 5 * t) = 2147483647
  · rw [cif_t hp]; exact pk_un h
  · rw [cif_f hp]
theorem comeF_old {w : Nat → Int32} {n t s x k : Nat} (ht : t < 4) (hs : s < 8) (hx : x < boundF s) (hok : ∀ c, c < 4 → okC w c) (h1 : 91 < k) (h2 : k < 92 + 8 * n ∨ 100 + 8 * n ≤ k) : comeF w n t s x k = w k := by
  unfold comeF
  rw [stpF_out (by omega), wriF_out (by omega) h2, doF_hi ht hs hx hok (by omega)]
theorem WF_come {w : Nat → Int32} {n t s x : Nat} (h : WFw w n) (hn : n < 160) (ht : t < 4) (hs : s < 8) (hx : x < boundF s) (hxt : 6 ≤ s → x ≠ t) : WFw (comeF w n t s x) (1 + n) := by
  obtain ⟨h1, h2, h3, h4, h5⟩ := h
  refine ⟨comeF_91 ht, by omega, fun e he => ?_, fun c hc => ?_, fun k k1 k2 => ?_⟩
  · by_cases en : e < n
    · have q := h3 e en
      unfold okE
      rw [comeF_old ht hs hx h4 (by omega) (by omega), comeF_old ht hs hx h4 (by omega) (by omega), comeF_old ht hs hx h4 (by omega) (by omega), comeF_old ht hs hx h4 (by omega) (by omega)]
      exact q
    · have en : e = n := by omega
      subst en
      unfold comeF
      refine ⟨⟨t, ht, ?_⟩, ⟨s, hs, ?_⟩, ⟨x, Nat.lt_of_lt_of_le hx (boundF_le s), ?_⟩, ?_⟩
      · rw [stpF_out (by omega), wriF_0]
      · rw [stpF_out (by omega), wriF_1]
      · rw [stpF_out (by omega), wriF_2]
      · rw [stpF_out (by omega), wriF_7]; exact heldF_lt _ _
  · refine okC_congr (doF_okC ht hs hx h4 hc) (fun k k1 k2 => ?_)
    unfold comeF
    rw [stpF_out (by omega), wriF_out (by omega) (by omega)]
  · unfold comeF stpF
    have q : 0 ≤ wriF (doF w t s x) n t s x k := by rw [wriF_out (by omega) (by omega)]; exact doF_ge0 ht hs hx hxt h4 h5 k1 k2
    by_cases hp : hasS s ∧ ¬ wriF (doF w t s x) n t s x (4 + 5 * t) = 2147483647
    · rw [cif_t hp]
      unfold stepF
      by_cases e : k = 4 + 5 * t
      · rw [e, pk_us]
        rw [e] at q
        exact ge0_succ q hp.2
      · rw [pk_un e]; exact q
    · rw [cif_f hp]; exact q
