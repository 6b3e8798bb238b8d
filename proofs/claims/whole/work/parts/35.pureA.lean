/-! the component's clocks and cells: pure words -/
abbrev mxI (x y : Int32) : Int32 := if x < y then y else x
/-- four numbers of h from b on joined into those of g from a on -/
def joinR (g : Nat → Int32) (a : Nat) (h : Nat → Int32) (b : Nat) : Nat → Int32 :=
  let g1 := upd g a (mxI (g a) (h b))
  let g2 := upd g1 (1 + a) (mxI (g1 (1 + a)) (h (1 + b)))
  let g3 := upd g2 (2 + a) (mxI (g2 (2 + a)) (h (2 + b)))
  upd g3 (3 + a) (mxI (g3 (3 + a)) (h (3 + b)))
/-- the same, where both rows are in one -/
def joinA (g : Nat → Int32) (a b : Nat) : Nat → Int32 :=
  let g1 := upd g a (mxI (g a) (g b))
  let g2 := upd g1 (1 + a) (mxI (g1 (1 + a)) (g1 (1 + b)))
  let g3 := upd g2 (2 + a) (mxI (g2 (2 + a)) (g2 (2 + b)))
  upd g3 (3 + a) (mxI (g3 (3 + a)) (g3 (3 + b)))
theorem mxI_eq (x y : Int32) : mxI x y = if y ≤ x then x else y := by
  unfold mxI
  by_cases h : x < y
  · rw [if_pos h, if_neg (Int32.not_le.mpr h)]
  · rw [if_neg h, if_pos (Int32.not_lt.mp h)]
theorem joinR_out {g h : Nat → Int32} {a b k : Nat} (hk : k < a ∨ a + 4 ≤ k) : joinR g a h b k = g k := by
  show upd (upd (upd (upd g a _) (1 + a) _) (2 + a) _) (3 + a) _ k = g k
  rw [pk_un (by omega), pk_un (by omega), pk_un (by omega), pk_un (by omega)]
theorem joinR_at {g h : Nat → Int32} {a b : Nat} (k : Nat) (hk : k < 4) : joinR g a h b (a + k) = mxI (g (a + k)) (h (b + k)) := by
  rcases (show k = 0 ∨ k = 1 ∨ k = 2 ∨ k = 3 by omega) with rfl | rfl | rfl | rfl
  · show upd (upd (upd (upd g a _) (1 + a) _) (2 + a) _) (3 + a) _ a = _
    rw [pk_un (by omega), pk_un (by omega), pk_un (by omega), pk_us]; rfl
  · show upd (upd (upd (upd g a _) (1 + a) _) (2 + a) _) (3 + a) _ (a + 1) = _
    rw [Nat.add_comm a 1, Nat.add_comm b 1, pk_un (by omega), pk_un (by omega), pk_us, pk_un (by omega)]
  · show upd (upd (upd (upd g a _) (1 + a) _) (2 + a) _) (3 + a) _ (a + 2) = _
    rw [Nat.add_comm a 2, Nat.add_comm b 2, pk_un (by omega), pk_us, pk_un (by omega), pk_un (by omega)]
  · show upd (upd (upd (upd g a _) (1 + a) _) (2 + a) _) (3 + a) _ (a + 3) = _
    rw [Nat.add_comm a 3, Nat.add_comm b 3, pk_us, pk_un (by omega), pk_un (by omega), pk_un (by omega)]
theorem joinA_R {g : Nat → Int32} {a b : Nat} (hd : b + 4 ≤ a ∨ a + 4 ≤ b) : joinA g a b = joinR g a g b := by
  unfold joinA joinR
  dsimp only
  rw [show upd g a (mxI (g a) (g b)) (1 + b) = g (1 + b) from pk_un (by omega)]
  rw [show ∀ x, upd (upd g a (mxI (g a) (g b))) (1 + a) x (2 + b) = g (2 + b) from fun x => by rw [pk_un (by omega), pk_un (by omega)]]
  rw [show ∀ x y, upd (upd (upd g a (mxI (g a) (g b))) (1 + a) x) (2 + a) y (3 + b) = g (3 + b) from fun x y => by rw [pk_un (by omega), pk_un (by omega), pk_un (by omega)]]
/-- reads are ahead of an access -/
def rdA (w : Nat → Int32) (t c : Nat) : Prop := ¬ (notA w t (w (45 + 12 * c)) (w (46 + 12 * c)) ∨ w (47 + 12 * c) = nI 1 ∧ anyN w t c)
theorem fill_step {g r : Nat → Int32} {q : Nat} {v : Int32} (hr : ∀ j, j < q → r j = v) : ∀ j, j < 1 + q → upd r q v j = v := by
  intro j hj
  by_cases e : j = q
  · rw [e, pk_us]
  · rw [pk_un e]; exact hr j (by omega)
theorem dJ7_fill_53178_0 : decode cJ7_fill_53178 0 = .ok (.iconst 0, 1) := by decide +kernel
theorem dJ7_fill_53178_1 : decode cJ7_fill_53178 1 = .ok (.istore_n 2, 1) := by decide +kernel
theorem dJ7_fill_53178_2 : decode cJ7_fill_53178 2 = .ok (.aload_n 0, 1) := by decide +kernel
theorem dJ7_fill_53178_3 : decode cJ7_fill_53178 3 = .ok (.arraylength, 1) := by decide +kernel
theorem dJ7_fill_53178_4 : decode cJ7_fill_53178 4 = .ok (.istore_n 3, 1) := by decide +kernel
theorem dJ7_fill_53178_5 : decode cJ7_fill_53178 5 = .ok (.iload_n 2, 1) := by decide +kernel
theorem dJ7_fill_53178_6 : decode cJ7_fill_53178 6 = .ok (.iload_n 3, 1) := by decide +kernel
theorem dJ7_fill_53178_7 : decode cJ7_fill_53178 7 = .ok (.if_icmp .ge 13, 3) := by decide +kernel
theorem dJ7_fill_53178_10 : decode cJ7_fill_53178 10 = .ok (.aload_n 0, 1) := by decide +kernel
theorem dJ7_fill_53178_11 : decode cJ7_fill_53178 11 = .ok (.iload_n 2, 1) := by decide +kernel
theorem dJ7_fill_53178_12 : decode cJ7_fill_53178 12 = .ok (.iload_n 1, 1) := by decide +kernel
theorem dJ7_fill_53178_13 : decode cJ7_fill_53178 13 = .ok (.iastore, 1) := by decide +kernel
theorem dJ7_fill_53178_14 : decode cJ7_fill_53178 14 = .ok (.iinc 2 1, 3) := by decide +kernel
theorem dJ7_fill_53178_17 : decode cJ7_fill_53178 17 = .ok (.goto (-12), 3) := by decide +kernel
theorem dJ7_fill_53178_20 : decode cJ7_fill_53178 20 = .ok (.return_, 1) := by decide +kernel
