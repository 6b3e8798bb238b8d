theorem co_rows {w st ho ct cl cs : Nat → Int32} {n t s x : Nat} (hok : ∀ c, c < 4 → okC w c) (h : RV w st ho ct cl cs) (ht : t < 4) (hs : s < 8) (hx : x < boundF s) (hxt : 6 ≤ s → x ≠ t) : RV (comeF w n t s x) (haS s (tiS s st x) x) (tiH s ho t x) (haC s (tiC s ct cl cs t x) t x) (haL s cl (tiC s ct cl cs t x) t x) (haE s cs (tiC s ct cl cs t x) t x) := by
  have hk := (tk_rows hok h ht hs hx hxt).1
  obtain ⟨h1, h2, h3, h4, h5⟩ := h
  have hho : ∀ k, k < 3 → tiH s ho t x k = comeF w n t s x (40 + k) := fun k q => (hk k q).trans (comeF_no (by omega) ht (Or.inl (by omega))).symm
  rcases (show s = 0 ∨ s = 1 ∨ s = 2 ∨ s = 3 ∨ s = 4 ∨ s = 5 ∨ s = 6 ∨ s = 7 by omega) with rfl | rfl | rfl | rfl | rfl | rfl | rfl | rfl
  · have hx : x < 4 := hx
    have hN : ∀ k, k < 91 → comeF w n t 0 x k = accF w t x 0 k := fun k hk => comeF_no hk ht (Or.inr (by unfold hasS; omega))
    refine ⟨fun k hk => ?_, hho, ?_, fun k hk => ?_, fun k hk => ?_⟩
    · show st k = comeF w n t 0 x k
      rw [hN k (by omega), accF_out hx ht (hok x hx).2.1 (by omega), h1 k hk]
    · intro k hk; show ct k = comeF w n t 0 x (4 + k)
      rw [hN _ (by omega), accF_out hx ht (hok x hx).2.1 (by omega), h3 k hk]
    · show cl k = comeF w n t 0 x (20 + k)
      rw [hN _ (by omega), accF_out hx ht (hok x hx).2.1 (by omega), h4 k hk]
    · show cs k = comeF w n t 0 x (32 + k)
      rw [hN _ (by omega), accF_out hx ht (hok x hx).2.1 (by omega), h5 k hk]
  · have hx : x < 4 := hx
    have hN : ∀ k, k < 91 → comeF w n t 1 x k = accF w t x 1 k := fun k hk => comeF_no hk ht (Or.inr (by unfold hasS; omega))
    refine ⟨fun k hk => ?_, hho, ?_, fun k hk => ?_, fun k hk => ?_⟩
    · show st k = comeF w n t 1 x k
      rw [hN k (by omega), accF_out hx ht (hok x hx).2.1 (by omega), h1 k hk]
    · intro k hk; show ct k = comeF w n t 1 x (4 + k)
      rw [hN _ (by omega), accF_out hx ht (hok x hx).2.1 (by omega), h3 k hk]
    · show cl k = comeF w n t 1 x (20 + k)
      rw [hN _ (by omega), accF_out hx ht (hok x hx).2.1 (by omega), h4 k hk]
    · show cs k = comeF w n t 1 x (32 + k)
      rw [hN _ (by omega), accF_out hx ht (hok x hx).2.1 (by omega), h5 k hk]
  · have hx : x < 3 := hx
    have hN : ∀ k, k < 91 → comeF w n t 2 x k = upd (joinF w (4 + 4 * t) (20 + 4 * x)) (40 + x) (nI t) k := fun k hk => comeF_no hk ht (Or.inr (by unfold hasS; omega))
    refine ⟨fun k hk => ?_, hho, ?_, fun k hk => ?_, fun k hk => ?_⟩
    · show st k = comeF w n t 2 x k
      rw [hN k (by omega), pk_un (by omega), joinF_out (by omega), h1 k hk]
    · intro k hk; show joinR ct (4 * t) cl (4 * x) k = comeF w n t 2 x (4 + k)
      rw [hN _ (by omega), pk_un (by omega), jn_row h3 h4 (by omega) (by omega) (by omega) k hk]
    · show cl k = comeF w n t 2 x (20 + k)
      rw [hN _ (by omega), pk_un (by omega), joinF_out (by omega), h4 k hk]
    · show cs k = comeF w n t 2 x (32 + k)
      rw [hN _ (by omega), pk_un (by omega), joinF_out (by omega), h5 k hk]
  · have hx : x < 3 := hx
    have hN : ∀ k, k < 91 → k ≠ 4 + 5 * t → comeF w n t 3 x k = leavF w t x k := fun k hk q => comeF_no hk ht (Or.inl q)
    refine ⟨fun k hk => ?_, hho, ?_, fun k hk => ?_, fun k hk => ?_⟩
    · show st k = comeF w n t 3 x k
      rw [hN k (by omega) (by omega), leavF_out (by omega) (by omega), h1 k hk]
    · show ∀ k, k < 16 → mstep ct t k = comeF w n t 3 x (4 + k)
      exact step_row ht (by unfold hasS; omega) (fun k hk => by show ct k = leavF w t x (4 + k); rw [leavF_out (by omega) (by omega), h3 k hk])
    · show va_cpy ct cl (4 * t) (4 * x) 4 k = comeF w n t 3 x (20 + k)
      rw [hN _ (by omega) (by omega)]
      by_cases q : 4 * x ≤ k ∧ k < 4 * x + 4
      · rw [pk_cpy_in q.1 q.2, show 20 + k = 20 + 4 * x + (k - 4 * x) by omega, leavF_at ht hx _ (by omega), h3 _ (by omega), Nat.add_assoc]
      · rw [pk_cpy_out (by omega), leavF_out (by omega) (by omega), h4 k hk]
    · show cs k = comeF w n t 3 x (32 + k)
      rw [hN _ (by omega) (by omega), leavF_out (by omega) (by omega), h5 k hk]
  · have hx : x < 2 := hx
    have hN : ∀ k, k < 91 → k ≠ 4 + 5 * t → comeF w n t 4 x k = joinF w (32 + 4 * x) (4 + 4 * t) k := fun k hk q => comeF_no hk ht (Or.inl q)
    refine ⟨fun k hk => ?_, hho, ?_, fun k hk => ?_, fun k hk => ?_⟩
    · show st k = comeF w n t 4 x k
      rw [hN k (by omega) (by omega), joinF_out (by omega), h1 k hk]
    · show ∀ k, k < 16 → mstep ct t k = comeF w n t 4 x (4 + k)
      exact step_row ht (by unfold hasS; omega) (fun k hk => by show ct k = joinF w (32 + 4 * x) (4 + 4 * t) (4 + k); rw [joinF_out (by omega), h3 k hk])
    · show cl k = comeF w n t 4 x (20 + k)
      rw [hN _ (by omega) (by omega), joinF_out (by omega), h4 k hk]
    · show joinR cs (4 * x) ct (4 * t) k = comeF w n t 4 x (32 + k)
      rw [hN _ (by omega) (by omega), jn_row h5 h3 (by omega) (by omega) (by omega) k hk]
  · have hx : x < 2 := hx
    have hN : ∀ k, k < 91 → comeF w n t 5 x k = joinF w (4 + 4 * t) (32 + 4 * x) k := fun k hk => comeF_no hk ht (Or.inr (by unfold hasS; omega))
    refine ⟨fun k hk => ?_, hho, ?_, fun k hk => ?_, fun k hk => ?_⟩
    · show st k = comeF w n t 5 x k
      rw [hN k (by omega), joinF_out (by omega), h1 k hk]
    · intro k hk; show joinR ct (4 * t) cs (4 * x) k = comeF w n t 5 x (4 + k)
      rw [hN _ (by omega), jn_row h3 h5 (by omega) (by omega) (by omega) k hk]
    · show cl k = comeF w n t 5 x (20 + k)
      rw [hN _ (by omega), joinF_out (by omega), h4 k hk]
    · show cs k = comeF w n t 5 x (32 + k)
      rw [hN _ (by omega), joinF_out (by omega), h5 k hk]
  · have hx : x < 4 := hx
    have hxt := hxt (by decide)
    have hN : ∀ k, k < 91 → k ≠ 4 + 5 * t → comeF w n t 6 x k = upd (joinF w (4 + 4 * x) (4 + 4 * t)) x (nI 1) k := fun k hk q => comeF_no hk ht (Or.inl q)
    refine ⟨fun k hk => ?_, hho, ?_, fun k hk => ?_, fun k hk => ?_⟩
    · show upd st x (nI 1) k = comeF w n t 6 x k
      rw [hN k (by omega) (by omega)]
      by_cases e : k = x
      · rw [e, pk_us, pk_us]
      · rw [pk_un e, pk_un e, joinF_out (by omega), h1 k hk]
    · show ∀ k, k < 16 → mstep (joinA ct (4 * x) (4 * t)) t k = comeF w n t 6 x (4 + k)
      exact step_row ht (by unfold hasS; omega) (fun k hk => by show joinA ct (4 * x) (4 * t) k = upd (joinF w (4 + 4 * x) (4 + 4 * t)) x (nI 1) (4 + k); rw [pk_un (by omega), joinA_R (by omega), jn_row h3 h3 (by omega) (by omega) (by omega) k hk])
    · show cl k = comeF w n t 6 x (20 + k)
      rw [hN _ (by omega) (by omega), pk_un (by omega), joinF_out (by omega), h4 k hk]
    · show cs k = comeF w n t 6 x (32 + k)
      rw [hN _ (by omega) (by omega), pk_un (by omega), joinF_out (by omega), h5 k hk]
  · have hx : x < 4 := hx
    have hxt := hxt (by decide)
    have hN : ∀ k, k < 91 → comeF w n t 7 x k = upd (joinF w (4 + 4 * t) (4 + 4 * x)) x (nI 2) k := fun k hk => comeF_no hk ht (Or.inr (by unfold hasS; omega))
    refine ⟨fun k hk => ?_, hho, ?_, fun k hk => ?_, fun k hk => ?_⟩
    · show upd st x (nI 2) k = comeF w n t 7 x k
      rw [hN k (by omega)]
      by_cases e : k = x
      · rw [e, pk_us, pk_us]
      · rw [pk_un e, pk_un e, joinF_out (by omega), h1 k hk]
    · intro k hk; show joinA ct (4 * t) (4 * x) k = comeF w n t 7 x (4 + k)
      rw [hN _ (by omega), pk_un (by omega), joinA_R (by omega), jn_row h3 h3 (by omega) (by omega) (by omega) k hk]
    · show cl k = comeF w n t 7 x (20 + k)
      rw [hN _ (by omega), pk_un (by omega), joinF_out (by omega), h4 k hk]
    · show cs k = comeF w n t 7 x (32 + k)
      rw [hN _ (by omega), pk_un (by omega), joinF_out (by omega), h5 k hk]
/-- the log behind an EVENT that comes -/
theorem LV_come {w th so wi lo lc c1 h1 : Nat → Int32} {n t s x : Nat} (hok : ∀ c, c < 4 → okC w c) (hLV : LV w n th so wi lo lc) (ht : t < 4) (hs : s < 8) (hx : x < boundF s) (hc : ∀ j, j < 4 → c1 (4 * t + j) = doF w t s x (4 + 4 * t + j)) (hh : ∀ k, k < 3 → h1 k = doF w t s x (40 + k)) : LV (comeF w n t s x) (1 + n) (upd th n (nI t)) (upd so n (nI s)) (upd wi n (nI x)) (upd lo n (heldF h1 (nI t))) (va_cpy c1 lc (4 * t) (4 * n) 4) := by
  intro e he
  by_cases en : e < n
  · obtain ⟨q1, q2, q3, q4, q5⟩ := hLV e en
    refine ⟨?_, ?_, ?_, ?_, fun k hk => ?_⟩
    · rw [pk_un (by omega), comeF_old ht hs hx hok (by omega) (by omega), q1]
    · rw [pk_un (by omega), comeF_old ht hs hx hok (by omega) (by omega), q2]
    · rw [pk_un (by omega), comeF_old ht hs hx hok (by omega) (by omega), q3]
    · rw [pk_un (by omega), comeF_old ht hs hx hok (by omega) (by omega), q4]
    · rw [pk_cpy_out (by omega), comeF_old ht hs hx hok (by omega) (by omega), q5 k hk]
  · have en : e = n := by omega
    subst en
    unfold comeF
    refine ⟨?_, ?_, ?_, ?_, fun k hk => ?_⟩
    · rw [stpF_out (by omega), wriF_0, pk_us]
    · rw [stpF_out (by omega), wriF_1, pk_us]
    · rw [stpF_out (by omega), wriF_2, pk_us]
    · rw [stpF_out (by omega), wriF_7, pk_us]; exact heldF_congr hh
    · rw [stpF_out (by omega), wriF_3 ht k hk, pk_cpy_in (by omega) (by omega), ← hc k hk]; congr 1; omega
theorem kbF_congr {v w : Nat → Int32} {e f c : Nat} (he : ∃ t, t < 4 ∧ w (92 + 8 * e) = nI t) (h : ∀ k, 91 < k → k < 100 + 8 * f → v k = w k) (hef : e ≤ f) : kbF v e f c = kbF w e f c := by
  obtain ⟨t, ht, q⟩ := he
  have hv : v (92 + 8 * e) = nI t := by rw [h _ (by omega) (by omega)]; exact q
  have ha : ahF v e f = ahF w e f := by
    apply propext
    rw [ahF_iff ht hv, ahF_iff ht q, h _ (by omega) (by omega), h _ (by omega) (by omega)]
  unfold kbF accB
  rw [ha, h (92 + 8 * e) (by omega) (by omega), h (92 + 8 * f) (by omega) (by omega), h (93 + 8 * e) (by omega) (by omega), h (93 + 8 * f) (by omega) (by omega), h (94 + 8 * e) (by omega) (by omega)]
theorem cntE_congr {v w : Nat → Int32} {c k f : Nat} (he : ∀ e, e < f → ∃ t, t < 4 ∧ w (92 + 8 * e) = nI t) (h : ∀ k, 91 < k → k < 100 + 8 * f → v k = w k) : ∀ e, e ≤ f → cntE v c k f e = cntE w c k f e
  | 0, _ => rfl
  | e + 1, q => by
    show cntE v c k f e + cif _ 1 0 = cntE w c k f e + cif _ 1 0
    rw [cntE_congr he h e (by omega), kbF_congr (he e (by omega)) h (by omega)]
theorem rcN_congr {v w : Nat → Int32} {c k n : Nat} (he : ∀ e, e < n → ∃ t, t < 4 ∧ w (92 + 8 * e) = nI t) (h : ∀ k, 91 < k → k < 92 + 8 * n → v k = w k) : ∀ f, f ≤ n → rcN v c k f = rcN w c k f
  | 0, _ => rfl
  | f + 1, q => by
    show rcN v c k f + cif _ _ 0 = rcN w c k f + cif _ _ 0
    rw [rcN_congr he h f (by omega), cntE_congr (fun e z => he e (by omega)) (fun k z1 z2 => h k z1 (by omega)) f (by omega)]
    unfold accB
    rw [h (93 + 8 * f) (by omega) (by omega), h (94 + 8 * f) (by omega) (by omega)]
theorem gdF_congr {v w : Nat → Int32} {c n : Nat} (h : ∀ k, 91 < k → k < 92 + 8 * n → v k = w k) : ∀ f, f ≤ n → gdF v c f = gdF w c f
  | 0, _ => rfl
  | f + 1, q => by
    show gdF v c f &&& cif _ _ _ = gdF w c f &&& cif _ _ _
    rw [gdF_congr h f (by omega)]
    unfold accB
    rw [h (93 + 8 * f) (by omega) (by omega), h (94 + 8 * f) (by omega) (by omega), h (99 + 8 * f) (by omega) (by omega)]
theorem gdF_7 {w : Nat → Int32} {c : Nat} : ∀ n, gdF w c n &&& nI 7 = gdF w c n
  | 0 => by show nI 7 &&& nI 7 = nI 7; decide
  | n + 1 => by
    show (gdF w c n &&& cif _ _ _) &&& nI 7 = gdF w c n &&& cif _ _ _
    rw [Int32.and_assoc, Int32.and_comm _ (nI 7), ← Int32.and_assoc, gdF_7 n]
