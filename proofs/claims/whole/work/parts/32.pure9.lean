/-! a run of a text, whole -/
theorem done_pre {G : sx_G} {A : Nat → Nat} {len i i0 : Nat} {T T0 : TT} {a1 xl : Value} {fa fat r : Int32} {F1 : Nat → va_E} (hi : i < i0) (h : goT A len (len - i) T = goT A len (len - i0) T0) (hd : done G A len i0 T0 a1 xl fa fat r F1) : done G A len i T a1 xl fa fat r F1 := by
  rcases hd with ⟨h1, T', i', fig, q1, q2, q3, q4, q5, q6⟩ | ⟨h1, T', i', f, fig, q1, q2, q3, q4, q5, q6⟩
  · exact Or.inl ⟨h1, T', i', fig, by omega, q2, q3, q4, q5, h.trans q6⟩
  · exact Or.inr ⟨h1, T', i', f, fig, q1, q2, q3, q4, q5, h.trans q6⟩
theorem Sk.same {A : Nat → Nat} {len i i' : Nat} (h : Sk A len i i') (hi : ¬ A i = 32) (hl : i < len) : i' = i := by
  by_cases e : i < i'
  · exact absurd (h.2.2.1 i (Nat.le_refl _) e) hi
  · have := h.1; omega
theorem shutT_d {w : Nat → Int32} {n en : Nat} {jo : Nat → Int32} {due it who d : Nat} {ol ot : Nat → Int32} : (shutT (w, n, en, jo, due, it, who, d, ol, ot)).2.2.2.2.2.2.2.1 = d - 1 := by
  unfold shutT; dsimp only
  by_cases h : ol (d - 1) = -1
  · rw [cif_t h]
  · rw [cif_f h]
