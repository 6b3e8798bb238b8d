/-! who holds a LOCK is a THREAD; what lies beyond the WORLD's places stays; images; RACE k is one -/
def HO (w : Nat → Int32) : Prop := ∀ k, k < 3 → w (40 + k) = -1 ∨ ∃ t, t < 4 ∧ w (40 + k) = nI t
theorem HO.congr {w v : Nat → Int32} (h : HO w) (e : ∀ k, k < 3 → v (40 + k) = w (40 + k)) : HO v := fun k hk => by rw [e k hk]; exact h k hk
theorem HO_come {w : Nat → Int32} {n t s x : Nat} (h : HO w) (hok : ∀ c, c < 4 → okC w c) (ht : t < 4) (hs : s < 8) (hx : x < boundF s) : HO (comeF w n t s x) := by
  intro k hk
  rw [comeF_no (by omega) ht (Or.inl (by omega))]
  rcases (show s = 0 ∨ s = 1 ∨ s = 2 ∨ s = 3 ∨ s = 4 ∨ s = 5 ∨ s = 6 ∨ s = 7 by omega) with rfl | rfl | rfl | rfl | rfl | rfl | rfl | rfl
  · have hx : x < 4 := hx
    rw [show doF w t 0 x (40 + k) = w (40 + k) from accF_out hx ht (hok x hx).2.1 (Or.inl (by omega))]; exact h k hk
  · have hx : x < 4 := hx
    rw [show doF w t 1 x (40 + k) = w (40 + k) from accF_out hx ht (hok x hx).2.1 (Or.inl (by omega))]; exact h k hk
  · have hx : x < 3 := hx
    show upd (joinF w (4 + 4 * t) (20 + 4 * x)) (40 + x) (nI t) (40 + k) = -1 ∨ ∃ u, u < 4 ∧ upd (joinF w (4 + 4 * t) (20 + 4 * x)) (40 + x) (nI t) (40 + k) = nI u
    by_cases e : k = x
    · rw [e, pk_us]; exact Or.inr ⟨t, ht, rfl⟩
    · rw [pk_un (by omega), joinF_out (by omega)]; exact h k hk
  · have hx : x < 3 := hx
    show leavF w t x (40 + k) = -1 ∨ ∃ u, u < 4 ∧ leavF w t x (40 + k) = nI u
    by_cases e : k = x
    · refine Or.inl ?_
      rw [e]
      show upd (upd (upd (upd (upd w (40 + x) (-1)) (20 + 4 * x) _) (21 + 4 * x) _) (22 + 4 * x) _) (23 + 4 * x) _ (40 + x) = -1
      rw [pk_un (by omega), pk_un (by omega), pk_un (by omega), pk_un (by omega), pk_us]
    · rw [leavF_out (by omega) (by omega)]; exact h k hk
  · have hx : x < 2 := hx
    rw [show doF w t 4 x (40 + k) = w (40 + k) from joinF_out (by omega)]; exact h k hk
  · have hx : x < 2 := hx
    rw [show doF w t 5 x (40 + k) = w (40 + k) from joinF_out (by omega)]; exact h k hk
  · have hx : x < 4 := hx
    rw [show doF w t 6 x (40 + k) = w (40 + k) from (pk_un (by omega)).trans (joinF_out (by omega))]; exact h k hk
  · have hx : x < 4 := hx
    rw [show doF w t 7 x (40 + k) = w (40 + k) from (pk_un (by omega)).trans (joinF_out (by omega))]; exact h k hk
theorem come_far {w : Nat → Int32} {n t s x k : Nat} (hW : WFw w n) (hn : n < 160) (ht : t < 4) (hs : s < 8) (hx : x < boundF s) (hk : 1372 ≤ k) : comeF w n t s x k = w k := comeF_old ht hs hx hW.2.2.2.1 (by omega) (Or.inr (by omega))
theorem shut_far {A : Nat → Nat} {len i : Nat} {w : Nat → Int32} {n en : Nat} {jo : Nat → Int32} {due it who d : Nat} {ol ot : Nat → Int32} (h : IT A len i (w, n, en, jo, due, it, who, d, ol, ot)) (hd : 0 < d) : (∀ k, 1372 ≤ k → (shutT (w, n, en, jo, due, it, who, d, ol, ot)).1 k = w k) ∧ (HO w → HO (shutT (w, n, en, jo, due, it, who, d, ol, ot)).1) := by
  obtain ⟨a1, a2, a3, a4, a5, a6, a7, -, -⟩ := h
  obtain ⟨b1, t, ht, b2⟩ := a7 (d - 1) (by omega)
  rcases b1 with b1 | ⟨x, hx, b1⟩
  · rw [shutT_no b1 ht b2]; exact ⟨fun _ _ => rfl, id⟩
  · rw [shutT_lk hx b1 ht b2]
    have hx3 : x < boundF 3 := hx
    have hne : ¬ ol (d - 1) = -1 := by rw [b1]; exact sx_m1 (by omega)
    have hp := rgF_pred hd hne
    exact ⟨fun k hk => come_far a1 (by omega) ht (by decide) hx3 hk, fun q => HO_come q a1.2.2.2.1 ht (by decide) hx3⟩
theorem drI_keep {w : Nat → Int32} {n sd : Nat} (hW : WFw w n) (hH : HO w) : ∀ i, WFw (drI (w, n, sd, 0) i).1 (drI (w, n, sd, 0) i).2.1 ∧ HO (drI (w, n, sd, 0) i).1 ∧ ∀ k, 1372 ≤ k → (drI (w, n, sd, 0) i).1 k = w k
  | 0 => ⟨hW, hH, fun _ _ => rfl⟩
  | i + 1 => by
    obtain ⟨a, b, c⟩ := drI_keep hW hH (sd := sd) i
    show WFw (drS (drI (w, n, sd, 0) i)).1 (drS (drI (w, n, sd, 0) i)).2.1 ∧ HO (drS (drI (w, n, sd, 0) i)).1 ∧ ∀ k, 1372 ≤ k → (drS (drI (w, n, sd, 0) i)).1 k = w k
    generalize drI (w, n, sd, 0) i = q at a b c ⊢
    obtain ⟨r, nn, kk, aa⟩ := q
    unfold drS
    dsimp only at a b c ⊢
    have ht : lot kk % 4 < 4 := Nat.mod_lt _ (by decide)
    have hs : lot (lot kk) % 8 < 8 := Nat.mod_lt _ (by decide)
    have hx : lot (lot (lot kk)) % boundF (lot (lot kk) % 8) < boundF (lot (lot kk) % 8) := Nat.mod_lt _ (boundF_pos _)
    rcases evF_cases (w := r) ht hs hx a.2.1 with ⟨v, hv, e⟩ | ⟨h1, h2, h3, h4, e⟩
    · rw [cif_f (by rw [e]; exact Int32.not_le.mpr hv)]; exact ⟨a, b, c⟩
    · rw [cif_t (by rw [e]; exact nI_pos' (by omega))]
      exact ⟨WF_come a h1 ht hs hx h2, HO_come b a.2.2.2.1 ht hs hx, fun k hk => (come_far a h1 ht hs hx hk).trans (c k hk)⟩
theorem WFw.congr {w v : Nat → Int32} {n : Nat} (h : WFw w n) (e : ∀ j, j < 1372 → v j = w j) : WFw v n := by
  obtain ⟨h1, h2, h3, h4, h5⟩ := h
  refine ⟨(e _ (by omega)).trans h1, h2, fun k hk => ?_, fun c hc => ?_, fun k a b => by rw [e _ (by omega)]; exact h5 k a b⟩
  · obtain ⟨⟨t, a1, a2⟩, ⟨s, b1, b2⟩, ⟨x, c1, c2⟩, u, d1, d2⟩ := h3 k hk
    exact ⟨⟨t, a1, (e _ (by omega)).trans a2⟩, ⟨s, b1, (e _ (by omega)).trans b2⟩, ⟨x, c1, (e _ (by omega)).trans c2⟩, u, d1, (e _ (by omega)).trans d2⟩
  · have q := h4 c hc
    unfold okC at q ⊢
    rw [e (43 + 12 * c) (by omega), e (45 + 12 * c) (by omega), e (47 + 12 * c) (by omega)]
    exact q
theorem ini_far {w : Nat → Int32} {k : Nat} (hk : 1372 ≤ k) : iniF w k = w k := by
  unfold iniF cellIni
  repeat rw [pk_un (by omega)]
  unfold zeroF
  rw [if_neg (by omega)]
theorem HO_ini {w : Nat → Int32} : HO (iniF w) := fun k hk => Or.inl (ini_ho (w := w) (g := fun _ => -1) (fun _ _ => rfl) k hk).symm
set_option maxRecDepth 20000 in
theorem ini_ge {w : Nat → Int32} {k : Nat} (hk : k < 36) : 0 ≤ iniF w (4 + k) := by
  rcases (show k = 0 ∨ k = 1 ∨ k = 2 ∨ k = 3 ∨ k = 4 ∨ k = 5 ∨ k = 6 ∨ k = 7 ∨ k = 8 ∨ k = 9 ∨ k = 10 ∨ k = 11 ∨ k = 12 ∨ k = 13 ∨ k = 14 ∨ k = 15 ∨ k = 16 ∨ k = 17 ∨ k = 18 ∨ k = 19 ∨ k = 20 ∨ k = 21 ∨ k = 22 ∨ k = 23 ∨ k = 24 ∨ k = 25 ∨ k = 26 ∨ k = 27 ∨ k = 28 ∨ k = 29 ∨ k = 30 ∨ k = 31 ∨ k = 32 ∨ k = 33 ∨ k = 34 ∨ k = 35 by omega) with rfl | rfl | rfl | rfl | rfl | rfl | rfl | rfl | rfl | rfl | rfl | rfl | rfl | rfl | rfl | rfl | rfl | rfl | rfl | rfl | rfl | rfl | rfl | rfl | rfl | rfl | rfl | rfl | rfl | rfl | rfl | rfl | rfl | rfl | rfl | rfl
  · rw [show iniF w (4 + 0) = nI 1 from rfl]; decide
  · rw [show iniF w (4 + 1) = nI 0 from rfl]; decide
  · rw [show iniF w (4 + 2) = nI 0 from rfl]; decide
  · rw [show iniF w (4 + 3) = nI 0 from rfl]; decide
  · rw [show iniF w (4 + 4) = nI 0 from rfl]; decide
  · rw [show iniF w (4 + 5) = nI 1 from rfl]; decide
  · rw [show iniF w (4 + 6) = nI 0 from rfl]; decide
  · rw [show iniF w (4 + 7) = nI 0 from rfl]; decide
  · rw [show iniF w (4 + 8) = nI 0 from rfl]; decide
  · rw [show iniF w (4 + 9) = nI 0 from rfl]; decide
  · rw [show iniF w (4 + 10) = nI 1 from rfl]; decide
  · rw [show iniF w (4 + 11) = nI 0 from rfl]; decide
  · rw [show iniF w (4 + 12) = nI 0 from rfl]; decide
  · rw [show iniF w (4 + 13) = nI 0 from rfl]; decide
  · rw [show iniF w (4 + 14) = nI 0 from rfl]; decide
  · rw [show iniF w (4 + 15) = nI 1 from rfl]; decide
  · rw [show iniF w (4 + 16) = nI 0 from rfl]; decide
  · rw [show iniF w (4 + 17) = nI 0 from rfl]; decide
  · rw [show iniF w (4 + 18) = nI 0 from rfl]; decide
  · rw [show iniF w (4 + 19) = nI 0 from rfl]; decide
  · rw [show iniF w (4 + 20) = nI 0 from rfl]; decide
  · rw [show iniF w (4 + 21) = nI 0 from rfl]; decide
  · rw [show iniF w (4 + 22) = nI 0 from rfl]; decide
  · rw [show iniF w (4 + 23) = nI 0 from rfl]; decide
  · rw [show iniF w (4 + 24) = nI 0 from rfl]; decide
  · rw [show iniF w (4 + 25) = nI 0 from rfl]; decide
  · rw [show iniF w (4 + 26) = nI 0 from rfl]; decide
  · rw [show iniF w (4 + 27) = nI 0 from rfl]; decide
  · rw [show iniF w (4 + 28) = nI 0 from rfl]; decide
  · rw [show iniF w (4 + 29) = nI 0 from rfl]; decide
  · rw [show iniF w (4 + 30) = nI 0 from rfl]; decide
  · rw [show iniF w (4 + 31) = nI 0 from rfl]; decide
  · rw [show iniF w (4 + 32) = nI 0 from rfl]; decide
  · rw [show iniF w (4 + 33) = nI 0 from rfl]; decide
  · rw [show iniF w (4 + 34) = nI 0 from rfl]; decide
  · rw [show iniF w (4 + 35) = nI 0 from rfl]; decide
theorem WF_ini {w : Nat → Int32} : WFw (iniF w) 0 := by
  refine ⟨rfl, by decide, fun e he => absurd he (by omega), fun c hc => ?_, fun k a b => ?_⟩
  · obtain ⟨i1, i2, i3, i4, i5, -⟩ := ini_c (w := w) hc
    exact ⟨Or.inl i1, Or.inl i3, Or.inl i5⟩
  · have q := ini_ge (w := w) (k := k - 4) (by omega)
    rw [show 4 + (k - 4) = k by omega] at q
    exact q
theorem jump_ge {w : Nat → Int32} {n t : Nat} {v r : Int32} (hW : WFw w n) (ht : t < 4) (h : jumpF w (nI t) v = (r, upd w (4 + 5 * t) (w (4 + 5 * t) + v))) : 0 ≤ w (4 + 5 * t) + v := by
  have h0 := hW.2.2.2.2 (4 + 5 * t) (by omega) (by omega)
  have hw : ∀ c, jumpF w (nI t) v = (c, w) → 0 ≤ w (4 + 5 * t) + v := fun c e => by
    rw [e] at h
    have q := congrFun (Prod.mk.inj h).2 (4 + 5 * t)
    rw [pk_us] at q
    rw [← q]; exact h0
  by_cases c1 : nI 1 ≤ v
  · by_cases c2 : w t = nI 1
    · by_cases c3 : (w (4 + 5 * t)).toInt64 + v.toInt64 ≤ 2147483647
      · have c4 := (jump_iff h0 c1).mpr c3
        obtain ⟨j, hj, ej⟩ := nI_of (x := w (4 + 5 * t)) (Int32.not_lt.mpr h0)
        obtain ⟨i, hi, ei⟩ := nI_of (x := v) (Int32.not_lt.mpr (Int32.le_trans (by decide : (0 : Int32) ≤ nI 1) c1))
        rw [ej, ei] at c4 ⊢
        rw [show (2147483647 : Int32) = nI 2147483647 by decide +kernel, pk_sub (by omega), nI_leI hi (by omega)] at c4
        rw [nI_add]; exact nI_pos' (by omega)
      · exact hw (-1000000005) (by unfold jumpF; rw [cif_f (fun q => q ⟨t, ht, rfl⟩), cif_f (fun q => q c1), nI_clamp (n := t) (by omega), cif_f (fun q => q c2), cif_t c3])
    · exact hw (-1000000003) (by unfold jumpF; rw [cif_f (fun q => q ⟨t, ht, rfl⟩), cif_f (fun q => q c1), nI_clamp (n := t) (by omega), cif_t c2])
  · exact hw (-1000000002) (by unfold jumpF; rw [cif_f (fun q => q ⟨t, ht, rfl⟩), cif_t c1])
theorem WF_jump {w : Nat → Int32} {n t : Nat} {y : Int32} (h : WFw w n) (ht : t < 4) (hy : 0 ≤ y) : WFw (upd w (4 + 5 * t) y) n := by
  obtain ⟨h1, h2, h3, h4, h5⟩ := h
  refine ⟨(pk_un (by omega)).trans h1, h2, fun k hk => ?_, fun c hc => okC_upd (h4 c hc) (by omega) (by omega) (by omega), fun k a b => ?_⟩
  · obtain ⟨⟨t, a1, a2⟩, ⟨s, b1, b2⟩, ⟨x, c1, c2⟩, u, d1, d2⟩ := h3 k hk
    exact ⟨⟨t, a1, (pk_un (by omega)).trans a2⟩, ⟨s, b1, (pk_un (by omega)).trans b2⟩, ⟨x, c1, (pk_un (by omega)).trans c2⟩, u, d1, (pk_un (by omega)).trans d2⟩
  · by_cases e : k = 4 + 5 * t
    · rw [e, pk_us]; exact hy
    · rw [pk_un e]; exact h5 k a b
def img (w : Nat → Int32) (i : Nat) : Nat → Int32 := fun j => w (1614 + 1372 * i + j)
theorem img_far {w v : Nat → Int32} {i : Nat} (h : ∀ k, 1372 ≤ k → v k = w k) : img v i = img w i := funext fun j => h _ (by omega)
theorem img_keep {w : Nat → Int32} {i j : Nat} (hj : j < 1372) : img (keepF w i) i j = w j := by
  unfold img keepF
  rw [if_pos (by omega)]
  congr 1
  omega
theorem img_other {w : Nat → Int32} {i i' j : Nat} (hi : i < 2) (hi' : i' < 2) (hn : i' ≠ i) (hj : j < 1372) : img (keepF w i) i' j = img w i' j := by
  unfold img keepF
  rw [if_neg (by omega)]
theorem keep_low {w : Nat → Int32} {i j : Nat} (hj : j < 1614) : keepF w i j = w j := by
  unfold keepF
  rw [if_neg (by omega)]
theorem back_low {w : Nat → Int32} {i j : Nat} (hj : j < 1372) : backF w i j = img w i j := by
  unfold backF img
  rw [if_pos hj]
theorem back_far {w : Nat → Int32} {i j : Nat} (hj : 1372 ≤ j) : backF w i j = w j := by
  unfold backF
  rw [if_neg (by omega)]
theorem cntE_up {w : Nat → Int32} {c k f : Nat} : ∀ (d e : Nat), cntE w c k f e ≤ cntE w c k f (e + d)
  | 0, _ => Nat.le_refl _
  | d + 1, e => Nat.le_trans (cntE_up d e) (Nat.le_add_right _ _)
theorem rcN_up {w : Nat → Int32} {c k : Nat} : ∀ (d f : Nat), rcN w c k f ≤ rcN w c k (f + d)
  | 0, _ => Nat.le_refl _
  | d + 1, f => Nat.le_trans (rcN_up d f) (Nat.le_add_right _ _)
theorem pos_lt {w : Nat → Int32} {c f e n : Nat} (hf : f < n) (he : e < f) (ha : accB w f c) (hk : ¬ kbF w e f c = -1) : rcN w c 3 f + cntE w c 3 f e < rcN w c 3 n := by
  have h1 := cntE_t (w := w) (c := c) (k := 3) (f := f) (e := e) ⟨hk, Or.inl rfl⟩
  have h2 := cntE_up (w := w) (c := c) (k := 3) (f := f) (f - (1 + e)) (1 + e)
  rw [show 1 + e + (f - (1 + e)) = f by omega] at h2
  have h3 := rcN_t (w := w) (c := c) (k := 3) (f := f) (e := f) rfl (Or.inr ha)
  have h4 := rcN_up (w := w) (c := c) (k := 3) (n - (1 + f)) (1 + f)
  rw [show 1 + f + (n - (1 + f)) = n by omega] at h4
  omega
theorem raceR_one {w : Nat → Int32} {n c k o : Nat} {r r' : Int32} (h : raceR w n c k o r) (h' : raceR w n c k o r') : r = r' := by
  rcases h with ⟨f, e, hf, he, ha, hk, hp, hr⟩ | ⟨hp, hr⟩ <;> rcases h' with ⟨f', e', hf', he', ha', hk', hp', hr'⟩ | ⟨hp', hr'⟩
  · have hff : f = f' := by
      rcases Nat.lt_trichotomy f f' with q | q | q
      · have := pos_lt q he ha hk; omega
      · exact q
      · have := pos_lt q he' ha' hk'; omega
    subst hff
    have hee : e = e' := by
      rcases Nat.lt_trichotomy e e' with q | q | q
      · have h1 := cntE_t (w := w) (c := c) (k := 3) (f := f) (e := e) ⟨hk, Or.inl rfl⟩
        have h2 := cntE_up (w := w) (c := c) (k := 3) (f := f) (e' - (1 + e)) (1 + e)
        rw [show 1 + e + (e' - (1 + e)) = e' by omega] at h2
        omega
      · exact q
      · have h1 := cntE_t (w := w) (c := c) (k := 3) (f := f) (e := e') ⟨hk', Or.inl rfl⟩
        have h2 := cntE_up (w := w) (c := c) (k := 3) (f := f) (e - (1 + e')) (1 + e')
        rw [show 1 + e' + (e - (1 + e')) = e by omega] at h2
        omega
    subst hee
    rw [hr, hr']
  · have := pos_lt hf he ha hk; omega
  · have := pos_lt hf' he' ha' hk'; omega
  · rw [hr, hr']
/-- the law's own test -/
theorem law_test {i K : Nat} (hi : i ≤ 4096) (hL : K ≤ 2048) : nI K - nI 4 < nI i ↔ K < i + 4 := by
  by_cases h : 4 ≤ K
  · rw [pk_sub h, nI_ltI (by omega) (by omega)]; omega
  · have h1 : nI K - nI 4 < 0 := by
      rcases (show K = 0 ∨ K = 1 ∨ K = 2 ∨ K = 3 by omega) with rfl | rfl | rfl | rfl <;> decide
    have h2 : (0 : Int32) ≤ nI i := nI_pos' (by omega)
    exact ⟨fun _ => by omega, fun _ => Int32.lt_of_lt_of_le h1 h2⟩
