/-! a text that is RUN: letter by letter -/
/-- world, EVENTS, journal (how many, row), what is due (0 an item, 1 a number, 2 ';', 3 '('), the item, who is at it, how many brackets are open, their LOCKS, who was at it -/
abbrev TT : Type := (Nat → Int32) × Nat × Nat × (Nat → Int32) × Nat × Nat × Nat × Nat × (Nat → Int32) × (Nat → Int32)
def rgF (ol : Nat → Int32) : Nat → Nat
  | 0 => 0
  | d + 1 => rgF ol d + (if ol d = -1 then 0 else 1)
theorem rgF_le (ol : Nat → Int32) : ∀ d, rgF ol d ≤ d
  | 0 => Nat.le_refl _
  | d + 1 => by
    have := rgF_le ol d
    show rgF ol d + (if ol d = -1 then 0 else 1) ≤ d + 1
    by_cases h : ol d = -1
    · rw [if_pos h]; omega
    · rw [if_neg h]; omega
theorem rgF_congr {ol lo : Nat → Int32} : ∀ d, (∀ j, j < d → lo j = ol j) → rgF lo d = rgF ol d
  | 0, _ => rfl
  | d + 1, h => by
    show rgF lo d + (if lo d = -1 then 0 else 1) = rgF ol d + (if ol d = -1 then 0 else 1)
    rw [rgF_congr d (fun j hj => h j (by omega)), h d (by omega)]
theorem rgF_no {ol : Nat → Int32} {d : Nat} (h : ol d = -1) : rgF ol (1 + d) = rgF ol d := by
  rw [Nat.add_comm]; show rgF ol d + (if ol d = -1 then 0 else 1) = _; rw [if_pos h]; rfl
theorem rgF_yes {ol : Nat → Int32} {d : Nat} (h : ¬ ol d = -1) : rgF ol (1 + d) = 1 + rgF ol d := by
  rw [Nat.add_comm]; show rgF ol d + (if ol d = -1 then 0 else 1) = _; rw [if_neg h]; omega
theorem rgF_upd {ol : Nat → Int32} {d : Nat} {v : Int32} : rgF (upd ol d v) d = rgF ol d := rgF_congr d (fun j hj => pk_un (by omega))
def shF (jo : Nat → Int32) : Nat → Int32 := fun j => if j < 23 then jo (1 + j) else jo j
def jnE (en : Nat) : Nat := if en = 24 then 24 else 1 + en
def jnR (en : Nat) (jo : Nat → Int32) (v : Int32) : Nat → Int32 := if en = 24 then upd (shF jo) 23 v else upd jo en v
theorem shF_step {jo r : Nat → Int32} {q : Nat} (hr : ∀ j, r j = if j < q then jo (1 + j) else jo j) : ∀ j, upd r q (r (1 + q)) j = if j < 1 + q then jo (1 + j) else jo j := by
  intro j
  by_cases hj : j = q
  · rw [hj, pk_us, if_pos (by omega), hr, if_neg (by omega)]
  · rw [pk_un hj, hr j]
    by_cases h : j < q
    · rw [if_pos h, if_pos (by omega)]
    · rw [if_neg h, if_neg (by omega)]
/-- the last bracket is shut -/
noncomputable def shutT (T : TT) : TT := match T with
  | (w, n, en, jo, due, it, _, d, ol, ot) =>
    cif (ol (d - 1) = -1) (w, n, en, jo, due, it, (ot (d - 1)).toNatClampNeg, d - 1, ol, ot)
      (comeF w n (ot (d - 1)).toNatClampNeg 3 (ol (d - 1)).toNatClampNeg, 1 + n, jnE en, jnR en jo (nI (2 * (ol (d - 1)).toNatClampNeg)), due, it, (ot (d - 1)).toNatClampNeg, d - 1, ol, ot)
def itF (a : Nat) : Nat := if a = 114 then 0 else if a = 119 then 1 else if a = 112 then 4 else if a = 103 then 5 else if a = 102 then 6 else if a = 106 then 7 else if a = 108 then 2 else if a = 116 then 8 else 9
def moreF (it : Nat) : Nat := if it = 2 then 2 else 1
/-- an EVENT told by a text can be now -/
def okT (w : Nat → Int32) (who it x : Nat) : Prop := (6 ≤ it → x ≠ who) ∧ canF w who it x ∧ ¬ (hasS it ∧ w (4 + 5 * who) = 2147483647)
/-- one letter: the number of the FAULT (0: none), and what is then -/
noncomputable def tS (a : Nat) (T : TT) : Nat × TT := match T with
  | (w, n, en, jo, due, it, who, d, ol, ot) =>
    cif (a = 32) (0, T) (cif (due = 1)
      (cif (a < 48 ∨ 57 < a) (1, T) (cif (boundF it ≤ a - 48) (2, T) (cif (it = 8)
        (cif (w (a - 48) = nI 1) (0, (w, n, en, jo, 3, it, a - 48, 1 + d, upd ol d (-1), upd ot d (nI who))) (4, T))
        (cif (160 < n + moreF it + rgF ol d) (3, T) (cif (¬ okT w who it (a - 48)) (4, T) (cif (it = 2)
          (0, (comeF w n who it (a - 48), 1 + n, jnE en, jnR en jo (nI (1 + 2 * (a - 48))), 3, it, who, 1 + d, upd ol d (nI (a - 48)), upd ot d (nI who)))
          (0, (comeF w n who it (a - 48), 1 + n, en, jo, 2, it, who, d, ol, ot))))))))
      (cif (due = 0) (cif (a = 41 ∧ 0 < d) (0, shutT T) (cif (itF a = 9) (1, T) (0, (w, n, en, jo, 1, itF a, who, d, ol, ot))))
        (cif (due = 2) (cif (a = 59) (0, (w, n, en, jo, 0, it, who, d, ol, ot)) (1, T)) (cif (a = 40) (0, (w, n, en, jo, 0, it, who, d, ol, ot)) (1, T)))))
noncomputable def goT (A : Nat → Nat) (len : Nat) : Nat → TT → Nat × Nat × TT
  | 0, T => (cif (¬ T.2.2.2.2.1 = 0 ∨ ¬ T.2.2.2.2.2.2.2.1 = 0) 1 0, len, T)
  | k + 1, T => cif ((tS (A (len - (k + 1))) T).1 = 0) (goT A len k (tS (A (len - (k + 1))) T).2) ((tS (A (len - (k + 1))) T).1, len - (k + 1), (tS (A (len - (k + 1))) T).2)
theorem goT_go {A : Nat → Nat} {len i : Nat} {T T' : TT} (hi : i < len) (h : tS (A i) T = (0, T')) : goT A len (len - i) T = goT A len (len - (1 + i)) T' := by
  have e : len - i = (len - (1 + i)) + 1 := by omega
  have e2 : len - (len - (1 + i) + 1) = i := by omega
  rw [e]
  show cif _ _ _ = _
  rw [e2, h, cif_t rfl]
theorem goT_fault {A : Nat → Nat} {len i f : Nat} {T T' : TT} (hi : i < len) (h : tS (A i) T = (f, T')) (hf : ¬ f = 0) : goT A len (len - i) T = (f, i, T') := by
  have e : len - i = (len - (1 + i)) + 1 := by omega
  have e2 : len - (len - (1 + i) + 1) = i := by omega
  rw [e]
  show cif _ _ _ = _
  rw [e2, h, cif_f hf]
theorem goT_end {A : Nat → Nat} {len : Nat} {T : TT} (h : ¬ T.2.2.2.2.1 = 0 ∨ ¬ T.2.2.2.2.2.2.2.1 = 0) : goT A len (len - len) T = (1, len, T) := by
  rw [Nat.sub_self]; show (cif _ 1 0, len, T) = _; rw [cif_t h]
theorem goT_fin {A : Nat → Nat} {len : Nat} {T : TT} (h : T.2.2.2.2.1 = 0 ∧ T.2.2.2.2.2.2.2.1 = 0) : goT A len (len - len) T = (0, len, T) := by
  rw [Nat.sub_self]; show (cif _ 1 0, len, T) = _; rw [cif_f (by rintro (q | q); exact q h.1; exact q h.2)]
theorem tS_blank {T : TT} : tS 32 T = (0, T) := by
  obtain ⟨w, n, en, jo, due, it, who, d, ol, ot⟩ := T
  unfold tS; dsimp only; rw [cif_t rfl]
/-- blanks between i and i' -/
def Sk (A : Nat → Nat) (len i i' : Nat) : Prop := i ≤ i' ∧ i' ≤ len ∧ (∀ j, i ≤ j → j < i' → A j = 32) ∧ (i' < len → ¬ A i' = 32)
theorem goT_skip {A : Nat → Nat} {len : Nat} {T : TT} : ∀ (m i i' : Nat), i + m = i' → i' ≤ len → (∀ j, i ≤ j → j < i' → A j = 32) → goT A len (len - i) T = goT A len (len - i') T
  | 0, i, i', h, _, _ => by rw [show i = i' by omega]
  | m + 1, i, i', h, h2, h3 => by
    rw [goT_go (i := i) (by omega) (by rw [h3 i (by omega) (by omega)]; exact tS_blank)]
    exact goT_skip m (1 + i) i' (by omega) h2 (fun j h4 h5 => h3 j (by omega) h5)
theorem Sk.go {A : Nat → Nat} {len i i' : Nat} (h : Sk A len i i') {T : TT} : goT A len (len - i) T = goT A len (len - i') T := goT_skip (i' - i) i i' (by have := h.1; omega) h.2.1 h.2.2.1
section TSR
variable {w : Nat → Int32} {n en : Nat} {jo : Nat → Int32} {due it who d : Nat} {ol ot : Nat → Int32} {a : Nat}
theorem tS_nodig (h0 : ¬ a = 32) (h : a < 48 ∨ 57 < a) : tS a (w, n, en, jo, 1, it, who, d, ol, ot) = (1, (w, n, en, jo, 1, it, who, d, ol, ot)) := by
  unfold tS; dsimp only; rw [cif_f h0, cif_t rfl, cif_t h]
theorem tS_big (h1 : 48 ≤ a) (h2 : a ≤ 57) (h : boundF it ≤ a - 48) : tS a (w, n, en, jo, 1, it, who, d, ol, ot) = (2, (w, n, en, jo, 1, it, who, d, ol, ot)) := by
  unfold tS; dsimp only; rw [cif_f (show ¬ a = 32 by omega), cif_t rfl, cif_f (show ¬ (a < 48 ∨ 57 < a) by omega), cif_t h]
theorem tS_turnN (h1 : 48 ≤ a) (h2 : a ≤ 57) (h : a - 48 < 4) (hw : ¬ w (a - 48) = nI 1) : tS a (w, n, en, jo, 1, 8, who, d, ol, ot) = (4, (w, n, en, jo, 1, 8, who, d, ol, ot)) := by
  unfold tS; dsimp only; rw [cif_f (show ¬ a = 32 by omega), cif_t rfl, cif_f (show ¬ (a < 48 ∨ 57 < a) by omega), cif_f (show ¬ boundF 8 ≤ a - 48 from (by omega : ¬ 4 ≤ a - 48)), cif_t rfl, cif_f hw]
theorem tS_turn (h1 : 48 ≤ a) (h2 : a ≤ 57) (h : a - 48 < 4) (hw : w (a - 48) = nI 1) : tS a (w, n, en, jo, 1, 8, who, d, ol, ot) = (0, (w, n, en, jo, 3, 8, a - 48, 1 + d, upd ol d (-1), upd ot d (nI who))) := by
  unfold tS; dsimp only; rw [cif_f (show ¬ a = 32 by omega), cif_t rfl, cif_f (show ¬ (a < 48 ∨ 57 < a) by omega), cif_f (show ¬ boundF 8 ≤ a - 48 from (by omega : ¬ 4 ≤ a - 48)), cif_t rfl, cif_t hw]
theorem tS_full (h1 : 48 ≤ a) (h2 : a ≤ 57) (h : a - 48 < boundF it) (h8 : ¬ it = 8) (hf : 160 < n + moreF it + rgF ol d) : tS a (w, n, en, jo, 1, it, who, d, ol, ot) = (3, (w, n, en, jo, 1, it, who, d, ol, ot)) := by
  unfold tS; dsimp only; rw [cif_f (show ¬ a = 32 by omega), cif_t rfl, cif_f (show ¬ (a < 48 ∨ 57 < a) by omega), cif_f (show ¬ boundF it ≤ a - 48 by omega), cif_f h8, cif_t hf]
theorem tS_not (h1 : 48 ≤ a) (h2 : a ≤ 57) (h : a - 48 < boundF it) (h8 : ¬ it = 8) (hf : n + moreF it + rgF ol d ≤ 160) (hk : ¬ okT w who it (a - 48)) : tS a (w, n, en, jo, 1, it, who, d, ol, ot) = (4, (w, n, en, jo, 1, it, who, d, ol, ot)) := by
  unfold tS; dsimp only; rw [cif_f (show ¬ a = 32 by omega), cif_t rfl, cif_f (show ¬ (a < 48 ∨ 57 < a) by omega), cif_f (show ¬ boundF it ≤ a - 48 by omega), cif_f h8, cif_f (show ¬ 160 < n + moreF it + rgF ol d by omega), cif_t hk]
theorem tS_ev (h1 : 48 ≤ a) (h2 : a ≤ 57) (h : a - 48 < boundF it) (h8 : ¬ it = 8) (h9 : ¬ it = 2) (hf : n + moreF it + rgF ol d ≤ 160) (hk : okT w who it (a - 48)) : tS a (w, n, en, jo, 1, it, who, d, ol, ot) = (0, (comeF w n who it (a - 48), 1 + n, en, jo, 2, it, who, d, ol, ot)) := by
  unfold tS; dsimp only; rw [cif_f (show ¬ a = 32 by omega), cif_t rfl, cif_f (show ¬ (a < 48 ∨ 57 < a) by omega), cif_f (show ¬ boundF it ≤ a - 48 by omega), cif_f h8, cif_f (show ¬ 160 < n + moreF it + rgF ol d by omega), cif_f (fun q => q hk), cif_f h9]
theorem tS_reg (h1 : 48 ≤ a) (h2 : a ≤ 57) (h : a - 48 < 3) (hf : n + 2 + rgF ol d ≤ 160) (hk : okT w who 2 (a - 48)) : tS a (w, n, en, jo, 1, 2, who, d, ol, ot) = (0, (comeF w n who 2 (a - 48), 1 + n, jnE en, jnR en jo (nI (1 + 2 * (a - 48))), 3, 2, who, 1 + d, upd ol d (nI (a - 48)), upd ot d (nI who))) := by
  unfold tS; dsimp only; rw [cif_f (show ¬ a = 32 by omega), cif_t rfl, cif_f (show ¬ (a < 48 ∨ 57 < a) by omega), cif_f (show ¬ boundF 2 ≤ a - 48 from (by omega : ¬ 3 ≤ a - 48)), cif_f (show ¬ (2 : Nat) = 8 by decide), cif_f (show ¬ 160 < n + moreF 2 + rgF ol d from (by omega : ¬ 160 < n + 2 + rgF ol d)), cif_f (fun q => q hk), cif_t rfl]
theorem tS_shut (h : 0 < d) : tS 41 (w, n, en, jo, 0, it, who, d, ol, ot) = (0, shutT (w, n, en, jo, 0, it, who, d, ol, ot)) := by
  unfold tS; dsimp only; rw [cif_f (show ¬ (41 : Nat) = 32 by decide), cif_f (show ¬ (0 : Nat) = 1 by decide), cif_t rfl, cif_t ⟨rfl, h⟩]
theorem tS_item (h0 : ¬ a = 32) (h1 : ¬ (a = 41 ∧ 0 < d)) (h : ¬ itF a = 9) : tS a (w, n, en, jo, 0, it, who, d, ol, ot) = (0, (w, n, en, jo, 1, itF a, who, d, ol, ot)) := by
  unfold tS; dsimp only; rw [cif_f h0, cif_f (show ¬ (0 : Nat) = 1 by decide), cif_t rfl, cif_f h1, cif_f h]
theorem tS_none (h0 : ¬ a = 32) (h1 : ¬ (a = 41 ∧ 0 < d)) (h : itF a = 9) : tS a (w, n, en, jo, 0, it, who, d, ol, ot) = (1, (w, n, en, jo, 0, it, who, d, ol, ot)) := by
  unfold tS; dsimp only; rw [cif_f h0, cif_f (show ¬ (0 : Nat) = 1 by decide), cif_t rfl, cif_f h1, cif_t h]
theorem tS_semi : tS 59 (w, n, en, jo, 2, it, who, d, ol, ot) = (0, (w, n, en, jo, 0, it, who, d, ol, ot)) := by
  unfold tS; dsimp only; rw [cif_f (show ¬ (59 : Nat) = 32 by decide), cif_f (show ¬ (2 : Nat) = 1 by decide), cif_f (show ¬ (2 : Nat) = 0 by decide), cif_t rfl, cif_t rfl]
theorem tS_semiN (h0 : ¬ a = 32) (h : ¬ a = 59) : tS a (w, n, en, jo, 2, it, who, d, ol, ot) = (1, (w, n, en, jo, 2, it, who, d, ol, ot)) := by
  unfold tS; dsimp only; rw [cif_f h0, cif_f (show ¬ (2 : Nat) = 1 by decide), cif_f (show ¬ (2 : Nat) = 0 by decide), cif_t rfl, cif_f h]
theorem tS_brk : tS 40 (w, n, en, jo, 3, it, who, d, ol, ot) = (0, (w, n, en, jo, 0, it, who, d, ol, ot)) := by
  unfold tS; dsimp only; rw [cif_f (show ¬ (40 : Nat) = 32 by decide), cif_f (show ¬ (3 : Nat) = 1 by decide), cif_f (show ¬ (3 : Nat) = 0 by decide), cif_f (show ¬ (3 : Nat) = 2 by decide), cif_t rfl]
theorem tS_brkN (h0 : ¬ a = 32) (h : ¬ a = 40) : tS a (w, n, en, jo, 3, it, who, d, ol, ot) = (1, (w, n, en, jo, 3, it, who, d, ol, ot)) := by
  unfold tS; dsimp only; rw [cif_f h0, cif_f (show ¬ (3 : Nat) = 1 by decide), cif_f (show ¬ (3 : Nat) = 0 by decide), cif_f (show ¬ (3 : Nat) = 2 by decide), cif_f h]
theorem shutT_no (h : ol (d - 1) = -1) {t : Nat} (ht : t < 4) (e : ot (d - 1) = nI t) : shutT (w, n, en, jo, due, it, who, d, ol, ot) = (w, n, en, jo, due, it, t, d - 1, ol, ot) := by
  unfold shutT; dsimp only; rw [cif_t h, e, nI_clamp (by omega)]
theorem shutT_lk {x t : Nat} (hx : x < 3) (h : ol (d - 1) = nI x) (ht : t < 4) (e : ot (d - 1) = nI t) : shutT (w, n, en, jo, due, it, who, d, ol, ot) = (comeF w n t 3 x, 1 + n, jnE en, jnR en jo (nI (2 * x)), due, it, t, d - 1, ol, ot) := by
  unfold shutT; dsimp only; rw [cif_f (by rw [h]; exact sx_m1 (by omega)), e, nI_clamp (n := t) (by omega), h, nI_clamp (by omega)]
end TSR
/-- what holds between two letters -/
def IT (A : Nat → Nat) (len i : Nat) (T : TT) : Prop := match T with
  | (w, n, en, jo, _, _, who, d, ol, ot) => WFw w n ∧ n + rgF ol d ≤ 160 ∧ d ≤ i ∧ who < 4 ∧ en ≤ 24 ∧ (∀ j, j < en → ∃ v, v < 6 ∧ jo j = nI v) ∧ (∀ j, j < d → (ol j = -1 ∨ ∃ x, x < 3 ∧ ol j = nI x) ∧ ∃ t, t < 4 ∧ ot j = nI t)
    ∧ ((∀ j, 1 + j < d → ¬ ol j = -1 → ot (1 + j) = ot j) ∧ (0 < d → ¬ ol (d - 1) = -1 → ot (d - 1) = nI who)) ∧ (w 1372 = nI len ∧ len ≤ 240 ∧ ∀ j, j < len → A j < 256 ∧ w (1373 + j) = nI (A j))
theorem IT.le {A : Nat → Nat} {len i i' : Nat} {T : TT} (h : IT A len i T) (hi : i ≤ i') : IT A len i' T := by
  obtain ⟨w, n, en, jo, due, it, who, d, ol, ot⟩ := T
  obtain ⟨a1, a2, a3, a4⟩ := h
  exact ⟨a1, a2, by omega, a4⟩
theorem IT.due {A : Nat → Nat} {len i : Nat} {w : Nat → Int32} {n en : Nat} {jo : Nat → Int32} {due it who d due' it' : Nat} {ol ot : Nat → Int32} (h : IT A len i (w, n, en, jo, due, it, who, d, ol, ot)) : IT A len i (w, n, en, jo, due', it', who, d, ol, ot) := h
theorem jn_ok {en : Nat} {jo : Nat → Int32} {u : Nat} (hu : u < 6) (h1 : en ≤ 24) (h : ∀ j, j < en → ∃ v, v < 6 ∧ jo j = nI v) : jnE en ≤ 24 ∧ ∀ j, j < jnE en → ∃ v, v < 6 ∧ jnR en jo (nI u) j = nI v := by
  unfold jnE jnR
  by_cases e : en = 24
  · rw [if_pos e, if_pos e]
    refine ⟨Nat.le_refl _, fun j hj => ?_⟩
    by_cases q : j = 23
    · rw [q, pk_us]; exact ⟨u, hu, rfl⟩
    · rw [pk_un q]; unfold shF; rw [if_pos (by omega)]; exact h _ (by omega)
  · rw [if_neg e, if_neg e]
    refine ⟨by omega, fun j hj => ?_⟩
    by_cases q : j = en
    · rw [q, pk_us]; exact ⟨u, hu, rfl⟩
    · rw [pk_un q]; exact h _ (by omega)
/-- an EVENT keeps what holds of the letters -/
theorem lt_come {A : Nat → Nat} {len : Nat} {w : Nat → Int32} {n t s x : Nat} (hW : WFw w n) (hn : n < 160) (ht : t < 4) (hs : s < 8) (hx : x < boundF s) (h : w 1372 = nI len ∧ len ≤ 240 ∧ ∀ j, j < len → A j < 256 ∧ w (1373 + j) = nI (A j)) : comeF w n t s x 1372 = nI len ∧ len ≤ 240 ∧ ∀ j, j < len → A j < 256 ∧ comeF w n t s x (1373 + j) = nI (A j) := by
  refine ⟨?_, h.2.1, fun j hj => ⟨(h.2.2 j hj).1, ?_⟩⟩
  · rw [comeF_old ht hs hx hW.2.2.2.1 (by omega) (by omega)]; exact h.1
  · rw [comeF_old ht hs hx hW.2.2.2.1 (by omega) (by omega)]; exact (h.2.2 j hj).2
theorem IT.shut {A : Nat → Nat} {len i : Nat} {w : Nat → Int32} {n en : Nat} {jo : Nat → Int32} {due it who d : Nat} {ol ot : Nat → Int32} (h : IT A len i (w, n, en, jo, due, it, who, d, ol, ot)) (hd : 0 < d) : IT A len i (shutT (w, n, en, jo, due, it, who, d, ol, ot)) := by
  obtain ⟨a1, a2, a3, a4, a5, a6, a7, ⟨a8, a9⟩, a10⟩ := h
  obtain ⟨b1, t, ht, b2⟩ := a7 (d - 1) (by omega)
  have hrd := rgF_le ol d
  have e1 : rgF ol d = rgF ol (d - 1) + (if ol (d - 1) = -1 then 0 else 1) := by
    conv => lhs; rw [show d = (d - 1) + 1 by omega]
    rfl
  have chain : 0 < d - 1 → ¬ ol (d - 1 - 1) = -1 → ot (d - 1 - 1) = nI t := fun q1 q2 => by
    have := a8 (d - 1 - 1) (by omega) q2
    rw [show 1 + (d - 1 - 1) = d - 1 by omega] at this
    rw [← this, b2]
  rcases b1 with b1 | ⟨x, hx, b1⟩
  · rw [shutT_no b1 ht b2]
    rw [if_pos b1] at e1
    exact ⟨a1, by omega, by omega, ht, a5, a6, fun j hj => a7 j (by omega), ⟨fun j q1 q2 => a8 j (by omega) q2, chain⟩, a10⟩
  · rw [shutT_lk hx b1 ht b2]
    rw [if_neg (by rw [b1]; exact sx_m1 (by omega))] at e1
    have hx3 : x < boundF 3 := hx
    obtain ⟨j1, j2⟩ := jn_ok (u := 2 * x) (by omega) a5 a6
    exact ⟨WF_come a1 (by omega) ht (by decide) hx3 (fun q => absurd q (by decide)), by omega, by omega, ht, j1, j2, fun j hj => a7 j (by omega), ⟨fun j q1 q2 => a8 j (by omega) q2, chain⟩, lt_come a1 (by omega) ht (by decide) hx3 a10⟩
noncomputable def shA : Nat → TT → TT
  | 0, T => T
  | k + 1, T => shA k (shutT T)
