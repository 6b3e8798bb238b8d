/-! the reference while it runs a text -/
abbrev LT (A : Nat → Nat) (len : Nat) (w : Nat → Int32) : Prop := w 1372 = nI len ∧ len ≤ 240 ∧ ∀ j, j < len → A j < 256 ∧ w (1373 + j) = nI (A j)
def RS (G : sx_G) (F : Nat → va_E) (a1 xl : Value) (i : Nat) (fig fa fat : Int32) (T : TT) : Prop := match T with
  | (w, _, en, jo, _, _, who, d, ol, ot) => F 91 = ob 7 [rf G 92, a1, .int (nI en), rf G 94, xl, .int (nI i), .int fig, .int fa, .int fat, .int (nI who), .int (nI d), .int (nI (rgF ol d)), rf G 95, rf G 96] ∧ F 92 = rI G 4358 w ∧ F 94 = rI G 24 jo ∧ F 95 = rI G 240 ol ∧ F 96 = rI G 240 ot
theorem sx_dig {a : Nat} {lo hi : Int64} (ha : a < 2 ^ 31) (hl : lo = 48) (hh : hi = 57) : (lo ≤ (nI a).toInt64 ∧ (nI a).toInt64 ≤ hi) ↔ 48 ≤ a ∧ a ≤ 57 := by
  subst hl; subst hh
  rw [nI_l ha]
  have e1 : (48 : Int64) = lN 48 := rfl
  have e2 : (57 : Int64) = lN 57 := rfl
  rw [e1, e2, lN_le (by decide) ha, lN_le ha (by decide)]
/-- how a part of a text is done: on it goes, or there is a FAULT -/
def done (G : sx_G) (A : Nat → Nat) (len i : Nat) (T : TT) (a1 xl : Value) (fa fat : Int32) (r : Int32) (F1 : Nat → va_E) : Prop :=
  (nI 1 = r ∧ ∃ (T' : TT) (i' : Nat) (fig : Int32), i < i' ∧ i' ≤ len ∧ T'.2.2.2.2.1 = 0 ∧ IT A len i' T' ∧ RS G F1 a1 xl i' fig fa fat T' ∧ goT A len (len - i) T = goT A len (len - i') T') ∨
  (nI 0 = r ∧ ∃ (T' : TT) (i' f : Nat) (fig : Int32), 1 ≤ f ∧ f ≤ 4 ∧ i' ≤ len ∧ IT A len i' T' ∧ RS G F1 a1 xl i' fig (nI f) (nI i') T' ∧ goT A len (len - i) T = (f, i', T'))
