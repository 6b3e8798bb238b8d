/-! one letter at a time: what the parts of a text come to -/
section NUM
variable {A : Nat → Nat} {len i i1 : Nat} {w : Nat → Int32} {n en : Nat} {jo : Nat → Int32} {it who d : Nat} {ol ot : Nat → Int32}
theorem num_f1 (sk : Sk A len i i1) (h : i1 = len ∨ ¬ (48 ≤ A i1 ∧ A i1 ≤ 57)) : goT A len (len - i) (w, n, en, jo, 1, it, who, d, ol, ot) = (1, i1, (w, n, en, jo, 1, it, who, d, ol, ot)) := by
  rw [sk.go]
  by_cases e : i1 = len
  · rw [e]; exact goT_end (Or.inl (show ¬ (1 : Nat) = 0 by decide))
  · have hl : i1 < len := by have := sk.2.1; omega
    exact goT_fault hl (tS_nodig (sk.2.2.2 hl) (by omega)) (by decide)
theorem num_f2 (sk : Sk A len i i1) (hl : i1 < len) (h1 : 48 ≤ A i1) (h2 : A i1 ≤ 57) (h : boundF it ≤ A i1 - 48) : goT A len (len - i) (w, n, en, jo, 1, it, who, d, ol, ot) = (2, i1, (w, n, en, jo, 1, it, who, d, ol, ot)) := by
  rw [sk.go]; exact goT_fault hl (tS_big h1 h2 h) (by decide)
theorem num_f3 (sk : Sk A len i i1) (hl : i1 < len) (h1 : 48 ≤ A i1) (h2 : A i1 ≤ 57) (h : A i1 - 48 < boundF it) (h8 : ¬ it = 8) (hf : 160 < n + moreF it + rgF ol d) : goT A len (len - i) (w, n, en, jo, 1, it, who, d, ol, ot) = (3, i1, (w, n, en, jo, 1, it, who, d, ol, ot)) := by
  rw [sk.go]; exact goT_fault hl (tS_full h1 h2 h h8 hf) (by decide)
theorem num_f4 (sk : Sk A len i i1) (hl : i1 < len) (h1 : 48 ≤ A i1) (h2 : A i1 ≤ 57) (h : A i1 - 48 < boundF it) (h8 : ¬ it = 8) (hf : n + moreF it + rgF ol d ≤ 160) (hk : ¬ okT w who it (A i1 - 48)) : goT A len (len - i) (w, n, en, jo, 1, it, who, d, ol, ot) = (4, i1, (w, n, en, jo, 1, it, who, d, ol, ot)) := by
  rw [sk.go]; exact goT_fault hl (tS_not h1 h2 h h8 hf hk) (by decide)
theorem num_ev (sk : Sk A len i i1) (hl : i1 < len) (h1 : 48 ≤ A i1) (h2 : A i1 ≤ 57) (h : A i1 - 48 < boundF it) (h8 : ¬ it = 8) (h9 : ¬ it = 2) (hf : n + moreF it + rgF ol d ≤ 160) (hk : okT w who it (A i1 - 48)) : goT A len (len - i) (w, n, en, jo, 1, it, who, d, ol, ot) = goT A len (len - (1 + i1)) (comeF w n who it (A i1 - 48), 1 + n, en, jo, 2, it, who, d, ol, ot) := by
  rw [sk.go]; exact goT_go hl (tS_ev h1 h2 h h8 h9 hf hk)
theorem num_reg (sk : Sk A len i i1) (hl : i1 < len) (h1 : 48 ≤ A i1) (h2 : A i1 ≤ 57) (h : A i1 - 48 < 3) (hf : n + 2 + rgF ol d ≤ 160) (hk : okT w who 2 (A i1 - 48)) : goT A len (len - i) (w, n, en, jo, 1, 2, who, d, ol, ot) = goT A len (len - (1 + i1)) (comeF w n who 2 (A i1 - 48), 1 + n, jnE en, jnR en jo (nI (1 + 2 * (A i1 - 48))), 3, 2, who, 1 + d, upd ol d (nI (A i1 - 48)), upd ot d (nI who)) := by
  rw [sk.go]; exact goT_go hl (tS_reg h1 h2 h hf hk)
theorem num_t4 (sk : Sk A len i i1) (hl : i1 < len) (h1 : 48 ≤ A i1) (h2 : A i1 ≤ 57) (h : A i1 - 48 < 4) (hw : ¬ w (A i1 - 48) = nI 1) : goT A len (len - i) (w, n, en, jo, 1, 8, who, d, ol, ot) = (4, i1, (w, n, en, jo, 1, 8, who, d, ol, ot)) := by
  rw [sk.go]; exact goT_fault hl (tS_turnN h1 h2 h hw) (by decide)
theorem num_turn (sk : Sk A len i i1) (hl : i1 < len) (h1 : 48 ≤ A i1) (h2 : A i1 ≤ 57) (h : A i1 - 48 < 4) (hw : w (A i1 - 48) = nI 1) : goT A len (len - i) (w, n, en, jo, 1, 8, who, d, ol, ot) = goT A len (len - (1 + i1)) (w, n, en, jo, 3, 8, A i1 - 48, 1 + d, upd ol d (-1), upd ot d (nI who)) := by
  rw [sk.go]; exact goT_go hl (tS_turn h1 h2 h hw)
theorem brk_f (sk : Sk A len i i1) (h : i1 = len ∨ ¬ A i1 = 40) : goT A len (len - i) (w, n, en, jo, 3, it, who, d, ol, ot) = (1, i1, (w, n, en, jo, 3, it, who, d, ol, ot)) := by
  rw [sk.go]
  by_cases e : i1 = len
  · rw [e]; exact goT_end (Or.inl (show ¬ (3 : Nat) = 0 by decide))
  · have hl : i1 < len := by have := sk.2.1; omega
    exact goT_fault hl (tS_brkN (sk.2.2.2 hl) (by omega)) (by decide)
theorem brk_ok (sk : Sk A len i i1) (hl : i1 < len) (h : A i1 = 40) : goT A len (len - i) (w, n, en, jo, 3, it, who, d, ol, ot) = goT A len (len - (1 + i1)) (w, n, en, jo, 0, it, who, d, ol, ot) := by
  rw [sk.go]; exact goT_go hl (by rw [h]; exact tS_brk)
theorem semi_f (sk : Sk A len i i1) (h : i1 = len ∨ ¬ A i1 = 59) : goT A len (len - i) (w, n, en, jo, 2, it, who, d, ol, ot) = (1, i1, (w, n, en, jo, 2, it, who, d, ol, ot)) := by
  rw [sk.go]
  by_cases e : i1 = len
  · rw [e]; exact goT_end (Or.inl (show ¬ (2 : Nat) = 0 by decide))
  · have hl : i1 < len := by have := sk.2.1; omega
    exact goT_fault hl (tS_semiN (sk.2.2.2 hl) (by omega)) (by decide)
theorem semi_ok (sk : Sk A len i i1) (hl : i1 < len) (h : A i1 = 59) : goT A len (len - i) (w, n, en, jo, 2, it, who, d, ol, ot) = goT A len (len - (1 + i1)) (w, n, en, jo, 0, it, who, d, ol, ot) := by
  rw [sk.go]; exact goT_go hl (by rw [h]; exact tS_semi)
theorem IT.evn {due it' due' s x : Nat} (h : IT A len i (w, n, en, jo, due, it, who, d, ol, ot)) (hs : s < 8) (hx : x < boundF s) (hk : okT w who s x) (hf : n + moreF s + rgF ol d ≤ 160) : IT A len i (comeF w n who s x, 1 + n, en, jo, due', it', who, d, ol, ot) := by
  obtain ⟨a1, a2, a3, a4, a5, a6, a7, a8, a10⟩ := h
  have hm : 1 ≤ moreF s := by unfold moreF; split <;> omega
  exact ⟨WF_come a1 (by omega) a4 hs hx hk.1, by omega, a3, a4, a5, a6, a7, a8, lt_come a1 (by omega) a4 hs hx a10⟩
theorem IT.turn {due it' due' x : Nat} (h : IT A len i (w, n, en, jo, due, it, who, d, ol, ot)) (hx : x < 4) (hi : i < i1) : IT A len i1 (w, n, en, jo, due', it', x, 1 + d, upd ol d (-1), upd ot d (nI who)) := by
  obtain ⟨a1, a2, a3, a4, a5, a6, a7, ⟨a8, a9⟩, a10⟩ := h
  refine ⟨a1, by rw [rgF_no pk_us, rgF_upd]; exact a2, by omega, hx, a5, a6, fun j hj => ?_, ⟨fun j q1 q2 => ?_, fun q1 q2 => ?_⟩, a10⟩
  · by_cases e : j = d
    · rw [e, pk_us, pk_us]; exact ⟨Or.inl rfl, who, a4, rfl⟩
    · rw [pk_un e, pk_un e]; exact a7 j (by omega)
  · rw [pk_un (show j ≠ d by omega)] at q2 ⊢
    by_cases e : 1 + j = d
    · rw [e, pk_us]
      have := a9 (by omega) (by rw [show d - 1 = j by omega]; exact q2)
      rw [show d - 1 = j by omega] at this
      exact this.symm
    · rw [pk_un e]; exact a8 j (by omega) q2
  · rw [show 1 + d - 1 = d by omega, pk_us] at q2; exact absurd rfl q2
theorem IT.reg {due it' due' x : Nat} (h : IT A len i (w, n, en, jo, due, it, who, d, ol, ot)) (hx : x < 3) (hk : okT w who 2 x) (hf : n + 2 + rgF ol d ≤ 160) (hi : i < i1) : IT A len i1 (comeF w n who 2 x, 1 + n, jnE en, jnR en jo (nI (1 + 2 * x)), due', it', who, 1 + d, upd ol d (nI x), upd ot d (nI who)) := by
  obtain ⟨a1, a2, a3, a4, a5, a6, a7, ⟨a8, a9⟩, a10⟩ := h
  have hx3 : x < boundF 2 := hx
  obtain ⟨j1, j2⟩ := jn_ok (u := 1 + 2 * x) (by omega) a5 a6
  refine ⟨WF_come a1 (by omega) a4 (by decide) hx3 hk.1, by rw [rgF_yes (by rw [pk_us]; exact sx_m1 (by omega)), rgF_upd]; omega, by omega, a4, j1, j2, fun j hj => ?_, ⟨fun j q1 q2 => ?_, fun q1 q2 => ?_⟩, lt_come a1 (by omega) a4 (by decide) hx3 a10⟩
  · by_cases e : j = d
    · rw [e, pk_us, pk_us]; exact ⟨Or.inr ⟨x, hx, rfl⟩, who, a4, rfl⟩
    · rw [pk_un e, pk_un e]; exact a7 j (by omega)
  · rw [pk_un (show j ≠ d by omega)] at q2 ⊢
    by_cases e : 1 + j = d
    · rw [e, pk_us]
      have := a9 (by omega) (by rw [show d - 1 = j by omega]; exact q2)
      rw [show d - 1 = j by omega] at this
      exact this.symm
    · rw [pk_un e]; exact a8 j (by omega) q2
  · rw [show 1 + d - 1 = d by omega, pk_us]
end NUM
theorem rgF_pred {ol : Nat → Int32} {d : Nat} (hd : 0 < d) (h : ¬ ol (d - 1) = -1) : rgF ol d = 1 + rgF ol (d - 1) := by
  conv => lhs; rw [show d = 1 + (d - 1) by omega]
  exact rgF_yes h
theorem rgF_same {ol : Nat → Int32} {d : Nat} (hd : 0 < d) (h : ol (d - 1) = -1) : rgF ol d = rgF ol (d - 1) := by
  conv => lhs; rw [show d = 1 + (d - 1) by omega]
  exact rgF_no h
theorem shutT_due {w : Nat → Int32} {n en : Nat} {jo : Nat → Int32} {due it who d : Nat} {ol ot : Nat → Int32} : (shutT (w, n, en, jo, due, it, who, d, ol, ot)).2.2.2.2.1 = due := by
  unfold shutT; dsimp only
  by_cases h : ol (d - 1) = -1
  · rw [cif_t h]
  · rw [cif_f h]
def srt (a s : Nat) : Prop := itF a = s ∧ s < 8 ∧ ¬ s = 2 ∧ ¬ s = 3
