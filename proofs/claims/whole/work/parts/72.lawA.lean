/-! what holds of both objects between two calls of the law -/
def R91 (G : sx_G) (F : Nat → va_E) (en : Nat) : Prop := ∃ (xl : Int64) (z5 z6 z7 z8 z9 z10 z11 : Int32), F 91 = ob 7 [rf G 92, rf G 93, .int (nI en), rf G 94, .long xl, .int z5, .int z6, .int z7, .int z8, .int z9, .int z10, .int z11, rf G 95, rf G 96]
def LJ (G : sx_G) (F : Nat → va_E) (w jo ik : Nat → Int32) (A : Nat → Nat) (n en len : Nat) (m : Nat → Nat) : Prop :=
  F 0 = ob 6 [rf G 1, rf G 28, rf G 83, rf G 84] ∧ WV G F w n 1 ∧ (∃ im, F 28 = rO G 2 im ∧ im 0 = some (sx_b G + 29) ∧ im 1 = some (sx_b G + 56)) ∧ WS G F 29 ∧ WS G F 56
  ∧ (∀ i, i < 2 → ¬ ik i = 0 → WFw (img w i) (m i) ∧ HO (img w i) ∧ WV G F (img w i) (m i) (29 + 27 * i)) ∧ F 83 = rZ G 2 ik
  ∧ (∃ dv iv wv rv pv : Value, F 84 = ob 4 [.int (nI len), .int (w 1613), rf G 85, rf G 88, dv, iv, wv, rv, pv, rf G 89, rf G 90])
  ∧ (∃ jl jp, F 85 = ob 0 [.int (nI en), rf G 86, rf G 87] ∧ F 86 = rI G 24 jl ∧ F 87 = rI G 24 jp ∧ BkV en jo jl jp)
  ∧ (∃ lt, F 88 = rI G 240 lt ∧ ∀ j, j < len → lt j = nI (A j)) ∧ (∃ lw tb, F 89 = rI G 240 lw ∧ F 90 = rI G 240 tb)
  ∧ R91 G F en ∧ F 92 = rI G 4358 w ∧ F 93 = rZ G 2 ik ∧ F 94 = rI G 24 jo ∧ (∃ ol ot, F 95 = rI G 240 ol ∧ F 96 = rI G 240 ot)
  ∧ WFw w n ∧ HO w ∧ LT A len w ∧ en ≤ 24 ∧ (∀ j, j < en → ∃ v, v < 6 ∧ jo j = nI v)
def LI (G : sx_G) (F : Nat → va_E) : Prop := ∃ (w jo ik : Nat → Int32) (A : Nat → Nat) (n en len : Nat) (m : Nat → Nat), LJ G F w jo ik A n en len m
theorem same92 {F F2 : Nat → va_E} (o : ∀ j, j ≠ 92 → F2 j = F j) (e : F2 92 = F 92) : F2 = F := funext fun j => by
  by_cases h : j = 92
  · rw [h]; exact e
  · exact o j h
section LAWJ
variable {G : sx_G} {F F1 F2 : Nat → va_E} {w jo ik : Nat → Int32} {A : Nat → Nat} {n en len : Nat} {m : Nat → Nat}
theorem LJ.world {v : Nat → Int32} {n' : Nat} (h : LJ G F w jo ik A n en len m) (e : ∀ j, (j = 0 ∨ (27 < j ∧ j ≠ 91 ∧ j ≠ 92)) → F2 j = F j) (h91 : R91 G F2 en) (hW2 : WV G F2 v n' 1) (h92 : F2 92 = rI G 4358 v) (hwf2 : WFw v n') (hHO2 : HO v) (far : ∀ k, 1372 ≤ k → v k = w k) : LJ G F2 v jo ik A n' en len m := by
  obtain ⟨g0, -, ⟨im, g28, him⟩, gS0, gS1, gIm, g83, ⟨dv, iv, wv, rv, pv, g84⟩, ⟨jl, jp, g85, g86, g87, gBk⟩, ⟨lt, g88, glt⟩, ⟨lw, tb, g89, g90⟩, -, -, g93, g94, ⟨ol, ot, g95, g96⟩, -, -, gA, gen, gjo⟩ := h
  refine ⟨(e 0 (by omega)).trans g0, hW2, ⟨im, (e 28 (by omega)).trans g28, him⟩, gS0.upd (fun j a b => e j (by omega)), gS1.upd (fun j a b => e j (by omega)), fun i hi hk => ?_, (e 83 (by omega)).trans g83, ⟨dv, iv, wv, rv, pv, (e 84 (by omega)).trans (g84.trans (by rw [far 1613 (by omega)]))⟩, ⟨jl, jp, (e 85 (by omega)).trans g85, (e 86 (by omega)).trans g86, (e 87 (by omega)).trans g87, gBk⟩, ⟨lt, (e 88 (by omega)).trans g88, glt⟩, ⟨lw, tb, (e 89 (by omega)).trans g89, (e 90 (by omega)).trans g90⟩, h91, h92, (e 93 (by omega)).trans g93, (e 94 (by omega)).trans g94, ⟨ol, ot, (e 95 (by omega)).trans g95, (e 96 (by omega)).trans g96⟩, hwf2, hHO2, ⟨(far 1372 (by omega)).trans gA.1, gA.2.1, fun j hj => ⟨(gA.2.2 j hj).1, (far _ (by omega)).trans (gA.2.2 j hj).2⟩⟩, gen, gjo⟩
  obtain ⟨a, b, c⟩ := gIm i hi hk
  rw [img_far (i := i) far]
  exact ⟨a, b, c.upd (fun j q1 q2 => e j (by omega))⟩
theorem LJ.keep {q : Nat} (hq : q < 2) (h : LJ G F w jo ik A n en len m) (hWq : WV G F2 w n (29 + 27 * q)) (e83 : F2 83 = rZ G 2 (upd ik q (nI 1))) (e92 : F2 92 = rI G 4358 (keepF w q)) (e93 : F2 93 = rZ G 2 (upd ik q (nI 1))) (o : ∀ j, (j < 29 + 27 * q ∨ 56 + 27 * q ≤ j) ∧ j ≠ 83 ∧ j ≠ 92 ∧ j ≠ 93 → F2 j = F j) : LJ G F2 (keepF w q) jo (upd ik q (nI 1)) A n en len (fun j => if j = q then n else m j) := by
  obtain ⟨g0, gW, ⟨im, g28, him⟩, gS0, gS1, gIm, g83, ⟨dv, iv, wv, rv, pv, g84⟩, ⟨jl, jp, g85, g86, g87, gBk⟩, ⟨lt, g88, glt⟩, ⟨lw, tb, g89, g90⟩, ⟨xl, z5, z6, z7, z8, z9, z10, z11, g91⟩, -, g93, g94, ⟨ol, ot, g95, g96⟩, gwf, gHO, gA, gen, gjo⟩ := h
  have lo : ∀ j, j < 1372 → keepF w q j = w j := fun j hj => keep_low (by omega)
  have s0 : WS G F2 29 := by
    rcases (show q = 0 ∨ q = 1 by omega) with rfl | rfl
    · exact WV.shape hWq
    · exact gS0.upd (fun j a b => o j (by omega))
  have s1 : WS G F2 56 := by
    rcases (show q = 0 ∨ q = 1 by omega) with rfl | rfl
    · exact gS1.upd (fun j a b => o j (by omega))
    · exact WV.shape hWq
  refine ⟨(o 0 (by omega)).trans g0, (gW.upd (fun j a b => o j (by omega))).congr gwf.2.1 gwf.2.2.1 lo, ⟨im, (o 28 (by omega)).trans g28, him⟩, s0, s1, fun i hi hk => ?_, e83, ⟨dv, iv, wv, rv, pv, (o 84 (by omega)).trans (g84.trans (by rw [keep_low (i := q) (j := 1613) (by omega)]))⟩, ⟨jl, jp, (o 85 (by omega)).trans g85, (o 86 (by omega)).trans g86, (o 87 (by omega)).trans g87, gBk⟩, ⟨lt, (o 88 (by omega)).trans g88, glt⟩, ⟨lw, tb, (o 89 (by omega)).trans g89, (o 90 (by omega)).trans g90⟩, ⟨xl, z5, z6, z7, z8, z9, z10, z11, (o 91 (by omega)).trans g91⟩, e92, e93, (o 94 (by omega)).trans g94, ⟨ol, ot, (o 95 (by omega)).trans g95, (o 96 (by omega)).trans g96⟩, gwf.congr lo, gHO.congr (fun k hk => lo _ (by omega)), ⟨(keep_low (by omega)).trans gA.1, gA.2.1, fun j hj => ⟨(gA.2.2 j hj).1, (keep_low (by have := gA.2.1; omega)).trans (gA.2.2 j hj).2⟩⟩, gen, gjo⟩
  by_cases e : i = q
  · subst e
    dsimp only
    rw [if_pos rfl]
    exact ⟨gwf.congr (fun j hj => img_keep hj), gHO.congr (fun k hk => img_keep (by omega)), hWq.congr gwf.2.1 gwf.2.2.1 (fun j hj => img_keep hj)⟩
  · rw [pk_un e] at hk
    obtain ⟨a, b, c⟩ := gIm i hi hk
    dsimp only
    rw [if_neg e]
    exact ⟨a.congr (fun j hj => img_other hq hi e hj), b.congr (fun k hk => img_other hq hi e (by omega)), (c.upd (fun j q1 q2 => o j (by omega))).congr a.2.1 a.2.2.1 (fun j hj => img_other hq hi e hj)⟩
theorem LJ.run {w2 jo2 ol2 ot2 : Nat → Int32} {n2 en2 due2 it2 who2 d2 i2 : Nat} {dv2 iv2 wv2 : Value} {ft : Int32} (h : LJ G F w jo ik A n en len m) (hT : TP G F1 (.int (nI 0)) (.int ft) dv2 iv2 wv2 (w2, n2, en2, jo2, due2, it2, who2, d2, ol2, ot2)) (hIT : IT A len i2 (w2, n2, en2, jo2, due2, it2, who2, d2, ol2, ot2)) (hHO2 : HO w2) (far : ∀ k, 1372 ≤ k → w2 k = w k)
    (o1 : ∀ j, j = 0 ∨ (27 < j ∧ j < 84) ∨ j = 88 ∨ 90 < j → F1 j = F j) (e92 : F2 92 = rI G 4358 (upd (upd w2 1372 (nI 0)) 1613 ft)) (e94 : F2 94 = rI G 24 jo2) (e91 : R91 G F2 en2) (e95 : ∃ ol ot, F2 95 = rI G 240 ol ∧ F2 96 = rI G 240 ot) (o2 : ∀ j, j ≠ 91 ∧ j ≠ 92 ∧ j ≠ 94 ∧ j ≠ 95 ∧ j ≠ 96 → F2 j = F1 j) : LJ G F2 (upd (upd w2 1372 (nI 0)) 1613 ft) jo2 ik (fun _ => 0) n2 en2 0 m := by
  obtain ⟨g0, -, ⟨im, g28, him⟩, gS0, gS1, gIm, g83, -, -, ⟨lt, g88, glt⟩, -, -, -, g93, -, -, -, -, -, -, -⟩ := h
  obtain ⟨t84, tW, ⟨jl, jp, t85, t86, t87, tBk⟩, lw, tb, t89, t90, -⟩ := hT
  obtain ⟨a1, a2, a3, a4, a5, a6, a7, a8, a9⟩ := hIT
  have e : ∀ j, j = 0 ∨ (27 < j ∧ j < 84) ∨ j = 88 ∨ j = 93 → F2 j = F j := fun j hj => (o2 j (by omega)).trans (o1 j (by omega))
  have lo : ∀ j, j < 1372 → upd (upd w2 1372 (nI 0)) 1613 ft j = w2 j := fun j hj => by rw [pk_un (by omega), pk_un (by omega)]
  have im2 : ∀ i, img (upd (upd w2 1372 (nI 0)) 1613 ft) i = img w i := fun i => funext fun j => by
    show upd (upd w2 1372 (nI 0)) 1613 ft (1614 + 1372 * i + j) = w (1614 + 1372 * i + j)
    rw [pk_un (by omega), pk_un (by omega), far _ (by omega)]
  refine ⟨(e 0 (by omega)).trans g0, (tW.upd (fun j a b => o2 j (by omega))).congr a1.2.1 a1.2.2.1 lo, ⟨im, (e 28 (by omega)).trans g28, him⟩, gS0.upd (fun j a b => e j (by omega)), gS1.upd (fun j a b => e j (by omega)), fun i hi hk => ?_, (e 83 (by omega)).trans g83, ⟨_, _, _, _, _, (o2 84 (by omega)).trans (t84.trans (by rw [show upd (upd w2 1372 (nI 0)) 1613 ft 1613 = ft from pk_us]))⟩, ⟨jl, jp, (o2 85 (by omega)).trans t85, (o2 86 (by omega)).trans t86, (o2 87 (by omega)).trans t87, tBk⟩, ⟨lt, (e 88 (by omega)).trans g88, fun j hj => absurd hj (by omega)⟩, ⟨lw, tb, (o2 89 (by omega)).trans t89, (o2 90 (by omega)).trans t90⟩, e91, e92, (e 93 (by omega)).trans g93, e94, e95, a1.congr lo, hHO2.congr (fun k hk => lo _ (by omega)), ⟨(pk_un (by decide)).trans pk_us, by decide, fun j hj => absurd hj (by omega)⟩, a5, a6⟩
  obtain ⟨a, b, c⟩ := gIm i hi hk
  rw [im2 i]
  exact ⟨a, b, c.upd (fun j q1 q2 => e j (by omega))⟩
theorem LJ.feed {a : Nat} {dv iv wv rv pv : Value} {lt : Nat → Int32} (h : LJ G F w jo ik A n en len m) (ha : a < 256) (hl : len < 240) (hlt : ∀ j, j < len → lt j = nI (A j)) (e84 : F2 84 = ob 4 [.int (nI (1 + len)), .int (w 1613), rf G 85, rf G 88, dv, iv, wv, rv, pv, rf G 89, rf G 90]) (e88 : F2 88 = rI G 240 (upd lt len (nI a))) (e92 : F2 92 = rI G 4358 (upd (upd w (1373 + len) (nI a)) 1372 (nI (1 + len)))) (o : ∀ j, j ≠ 84 ∧ j ≠ 88 ∧ j ≠ 92 → F2 j = F j) : LJ G F2 (upd (upd w (1373 + len) (nI a)) 1372 (nI (1 + len))) jo ik (fun j => if j = len then a else A j) n en (1 + len) m := by
  obtain ⟨g0, gW, ⟨im, g28, him⟩, gS0, gS1, gIm, g83, -, ⟨jl, jp, g85, g86, g87, gBk⟩, -, ⟨lw, tb, g89, g90⟩, ⟨xl, z5, z6, z7, z8, z9, z10, z11, g91⟩, -, g93, g94, ⟨ol, ot, g95, g96⟩, gwf, gHO, gA, gen, gjo⟩ := h
  have lo : ∀ j, j < 1372 → upd (upd w (1373 + len) (nI a)) 1372 (nI (1 + len)) j = w j := fun j hj => by rw [pk_un (by omega), pk_un (by omega)]
  have far : ∀ j, 1613 ≤ j → upd (upd w (1373 + len) (nI a)) 1372 (nI (1 + len)) j = w j := fun j hj => by rw [pk_un (by omega), pk_un (by omega)]
  have im2 : ∀ i, img (upd (upd w (1373 + len) (nI a)) 1372 (nI (1 + len))) i = img w i := fun i => funext fun j => far _ (by omega)
  refine ⟨(o 0 (by omega)).trans g0, (gW.upd (fun j a b => o j (by omega))).congr gwf.2.1 gwf.2.2.1 lo, ⟨im, (o 28 (by omega)).trans g28, him⟩, gS0.upd (fun j a b => o j (by omega)), gS1.upd (fun j a b => o j (by omega)), fun i hi hk => ?_, (o 83 (by omega)).trans g83, ⟨dv, iv, wv, rv, pv, e84.trans (by rw [far 1613 (Nat.le_refl _)])⟩, ⟨jl, jp, (o 85 (by omega)).trans g85, (o 86 (by omega)).trans g86, (o 87 (by omega)).trans g87, gBk⟩, ⟨_, e88, fun j hj => ?_⟩, ⟨lw, tb, (o 89 (by omega)).trans g89, (o 90 (by omega)).trans g90⟩, ⟨xl, z5, z6, z7, z8, z9, z10, z11, (o 91 (by omega)).trans g91⟩, e92, (o 93 (by omega)).trans g93, (o 94 (by omega)).trans g94, ⟨ol, ot, (o 95 (by omega)).trans g95, (o 96 (by omega)).trans g96⟩, gwf.congr lo, gHO.congr (fun k hk => lo _ (by omega)), ⟨pk_us, by omega, fun j hj => ?_⟩, gen, gjo⟩
  · obtain ⟨a, b, c⟩ := gIm i hi hk
    rw [im2 i]
    exact ⟨a, b, c.upd (fun j q1 q2 => o j (by omega))⟩
  · dsimp only
    by_cases q : j = len
    · rw [q, pk_us, if_pos rfl]
    · rw [pk_un q, if_neg q]; exact hlt j (by omega)
  · dsimp only
    by_cases q : j = len
    · rw [q, if_pos rfl, pk_un (by omega), pk_us]; exact ⟨ha, rfl⟩
    · rw [if_neg q, pk_un (by omega), pk_un (by omega)]; exact gA.2.2 j (by omega)
end LAWJ
theorem race_same {w : Nat → Int32} {n : Nat} {x y z r r' : Int32} (h : ¬ inR x 4 ∧ -1000000001 = r ∨ (inR x 4 ∧ (¬ inR z 3 ∨ y < 0) ∧ -1000000002 = r) ∨ ∃ c k o, c < 4 ∧ k < 2 ^ 31 ∧ o < 3 ∧ x = nI c ∧ y = nI k ∧ z = nI o ∧ raceR w n c k o r) (h' : ¬ inR x 4 ∧ -1000000001 = r' ∨ (inR x 4 ∧ (¬ inR z 3 ∨ y < 0) ∧ -1000000002 = r') ∨ ∃ c k o, c < 4 ∧ k < 2 ^ 31 ∧ o < 3 ∧ x = nI c ∧ y = nI k ∧ z = nI o ∧ raceR w n c k o r') : r = r' := by
  rcases h with ⟨a, e⟩ | ⟨a, b, e⟩ | ⟨c, k, o, hc, hk, ho, ex, ey, ez, hr⟩ <;> rcases h' with ⟨a', e'⟩ | ⟨a', b', e'⟩ | ⟨c', k', o', hc', hk', ho', ex', ey', ez', hr'⟩
  · exact e.symm.trans e'
  · exact absurd a' a
  · exact absurd ⟨c', hc', ex'⟩ a
  · exact absurd a a'
  · exact e.symm.trans e'
  · rcases b with b | b
    · exact absurd ⟨o', ho', ez'⟩ b
    · rw [ey'] at b; exact absurd b (nI_pos hk')
  · exact absurd ⟨c, hc, ex⟩ a'
  · rcases b' with b | b
    · exact absurd ⟨o, ho, ez⟩ b
    · rw [ey] at b; exact absurd b (nI_pos hk)
  · have e1 := (nI_eq (by omega) (by omega)).mp (ex.symm.trans ex')
    have e2 := (nI_eq hk hk').mp (ey.symm.trans ey')
    have e3 := (nI_eq (by omega) (by omega)).mp (ez.symm.trans ez')
    subst e1; subst e2; subst e3
    exact raceR_one hr hr'
/-- the script -/
theorem sx_sld {G : sx_G} {p : Program} {l : Launch} {e : Env} {R : Room} {s : State} {m : MethodId} {args : Array Value} {below : List Frame} {meth : Method} {c : Code} {H : Heap} {locs : List Loc} {cells slots : Nat} {Q : State → Prop} {cc : ByteArray} {nL : Nat} {Ts : List Cond} {own nm : String} {ret : Option FieldType} {pc : Nat} {ls : Array Slot} {rest : List Value} {b K : Nat} {xs : Nat → Int32} (X : sx_X G p m c cc nL s args Ts own meth ret nm) (hX : va_X b K xs s s.heap) (hbl : b < s.heap.size) (hbA : ¬ sx_A G b) (hS : va_S (sx_A G) s.heap H locs) (j : Nat) (hj : j < K) (hK : K < 2 ^ 31) (hd : decode cc pc = .ok (.iaload, 1))
    (kk : W p l e R s m args below meth c H locs (cells) (slots) Q (F0 m (pc + 1) ls (.int (xs j) :: rest))) : W p l e R s m args below meth c H locs (cells) (slots) Q (F0 m (pc) ls (.int (nI j) :: .ref b :: rest)) := by
  refine va_sld X.1.1 X.1.2.1 hX hbl hbA hS (vp_in_nI hj hK) hd ?_
  rw [nI_clamp (by omega)]
  exact kk
theorem law_int {s : State} {A : Array Value} (h : (Cond.arrayClass .int).before A s = true) : ∃ cA, ArrOfT s cA .int ∧ va_RA s cA .int := by
  obtain ⟨c, k, comp, h1, h2, h3⟩ := Cond.arrayClass_spec h
  exact ⟨c, fun n z => ⟨fun k h => (by cases h), k, h2, comp, h3⟩, h1⟩
theorem law_bool {s : State} {A : Array Value} (h : (Cond.arrayClass .boolean).before A s = true) : ∃ cA, ArrOfT s cA .boolean ∧ va_RA s cA .boolean := by
  obtain ⟨c, k, comp, h1, h2, h3⟩ := Cond.arrayClass_spec h
  exact ⟨c, fun n z => ⟨fun k h => (by cases h), k, h2, comp, h3⟩, h1⟩
theorem law_obj {C : String} {s : State} (h : va_AO C s) : ∃ cA, ArrOfT s cA (.object C) ∧ va_RA s cA (.object C) := by
  obtain ⟨comp, c, k, h1, -, h3, h4, h5⟩ := Cond.arrayOver_spec h
  exact ⟨c, fun n z => ⟨fun k h => (by cases h), k, h3, comp, h4⟩, k, comp, h3, h4, h1, h5⟩
