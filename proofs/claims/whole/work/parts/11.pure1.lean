/-! pure words: numbers, sets, the reference's row -/
theorem sx_in64 {x : Int32} {lo hi : Int64} {k : Nat} (hl : lo = 0) (hh : hi = lN (k - 1) ∧ 0 < k ∧ k < 2 ^ 31) (h : lo ≤ x.toInt64 ∧ x.toInt64 ≤ hi) : ∃ j, j < k ∧ x = nI j := by
  obtain ⟨h1, h2⟩ := h
  obtain ⟨e1, e2, e3⟩ := hh
  subst hl; subst e1
  have g1 : 0 ≤ x.toInt := by
    have := Int64.le_iff_toInt_le.mp h1
    simpa using this
  have g2 : x.toInt ≤ ((k - 1 : Nat) : Int) := by
    have := Int64.le_iff_toInt_le.mp h2
    rw [lN_toInt (by omega)] at this
    simpa using this
  refine ⟨x.toInt.toNat, by omega, ?_⟩
  apply Int32.toInt_inj.mp
  rw [nI_toInt (by omega)]
  omega
theorem sx_64in {x : Int32} {lo hi : Int64} {k : Nat} (hl : lo = 0) (hh : hi = lN (k - 1) ∧ 0 < k ∧ k < 2 ^ 31) (h : ∃ j, j < k ∧ x = nI j) : lo ≤ x.toInt64 ∧ x.toInt64 ≤ hi := by
  obtain ⟨j, hj, rfl⟩ := h
  obtain ⟨e1, e2, e3⟩ := hh
  subst hl; subst e1
  rw [nI_l (by omega)]
  refine ⟨?_, (lN_le (by omega) (by omega)).mpr (by omega)⟩
  exact (lN_le (a := 0) (by omega) (by omega)).mpr (Nat.zero_le _)
theorem sx_m1 {u : Nat} (h : u < 2 ^ 31) : ¬ nI u = -1 := fun q => by
  have := congrArg Int32.toInt q
  rw [nI_toInt h] at this
  have h2 : (-1 : Int32).toInt = -1 := by decide
  omega
/-- the SET of LOCKS that t holds, by who holds each -/
def heldF (h : Nat → Int32) (t : Int32) : Int32 := (if h 0 = t then 1 else 0) ||| (if h 1 = t then 2 else 0) ||| (if h 2 = t then 4 else 0)
def maxF (a b : Int32) : Int32 := if a < b then b else a
/-- four numbers from fr on joined into those from to on -/
def joinF (w : Nat → Int32) (to fr : Nat) : Nat → Int32 :=
  let w1 := upd w to (if w fr ≤ w to then w to else w fr)
  let w2 := upd w1 (1 + to) (if w1 (1 + fr) ≤ w1 (1 + to) then w1 (1 + to) else w1 (1 + fr))
  let w3 := upd w2 (2 + to) (if w2 (2 + fr) ≤ w2 (2 + to) then w2 (2 + to) else w2 (2 + fr))
  upd w3 (3 + to) (if w3 (3 + fr) ≤ w3 (3 + to) then w3 (3 + to) else w3 (3 + fr))
/-- a choice that needs no instance -/
noncomputable def cif {α : Type} (P : Prop) (a b : α) : α := @ite α P (Classical.propDecidable P) a b
theorem cif_t {α : Type} {P : Prop} {a b : α} (h : P) : cif P a b = a := by unfold cif; exact if_pos h
theorem cif_f {α : Type} {P : Prop} {a b : α} (h : ¬ P) : cif P a b = b := by unfold cif; exact if_neg h
theorem joinF_out {w : Nat → Int32} {to fr k : Nat} (h : k < to ∨ to + 4 ≤ k) : joinF w to fr k = w k := by
  show upd (upd (upd (upd w to _) (1 + to) _) (2 + to) _) (3 + to) _ k = w k
  rw [pk_un (by omega), pk_un (by omega), pk_un (by omega), pk_un (by omega)]
/-- how many there are of what a sort of EVENT is with -/
def boundF (s : Nat) : Nat := if s < 2 then 4 else if s < 4 then 3 else if s < 6 then 2 else 4
theorem boundF_le (s : Nat) : boundF s ≤ 4 := by unfold boundF; repeat' split
                                                 all_goals omega
def hasS (s : Nat) : Prop := s = 3 ∨ s = 4 ∨ s = 6
/-- an EVENT can be now -/
def canF (w : Nat → Int32) (t s x : Nat) : Prop := w t = nI 1 ∧ (s = 2 → w (40 + x) = -1) ∧ (s = 3 → w (40 + x) = nI t) ∧ (s = 6 → w x = 0) ∧ (s = 7 → w x = nI 1 ∧ heldF (fun j => w (40 + j)) (nI x) = 0)
/-- an EVENT is written down -/
def wriF (w : Nat → Int32) (n t s x : Nat) : Nat → Int32 :=
  let w1 := upd w (92 + 8 * n) (nI t)
  let w2 := upd w1 (93 + 8 * n) (nI s)
  let w3 := upd w2 (94 + 8 * n) (nI x)
  let w4 := upd w3 (95 + 8 * n) (w3 (4 + 4 * t))
  let w5 := upd w4 (96 + 8 * n) (w4 (5 + 4 * t))
  let w6 := upd w5 (97 + 8 * n) (w5 (6 + 4 * t))
  let w7 := upd w6 (98 + 8 * n) (w6 (7 + 4 * t))
  let w8 := upd w7 (99 + 8 * n) (heldF (fun j => w7 (40 + j)) (nI t))
  upd w8 91 (nI (1 + n))
def stepF (w : Nat → Int32) (t : Nat) : Nat → Int32 := upd w (4 + 5 * t) (w (4 + 5 * t) + nI 1)
/-- the number v of a THREAD u is not reached by the CLOCK of t -/
def notA (w : Nat → Int32) (t : Nat) (u v : Int32) : Prop := ¬ u = -1 ∧ w (4 + 4 * t + u.toNatClampNeg) < v
theorem notA_no {w : Nat → Int32} {t : Nat} {v : Int32} : ¬ notA w t (-1) v := fun h => h.1 rfl
theorem notA_nI {w : Nat → Int32} {t u : Nat} {v : Int32} (hu : u < 4) : notA w t (nI u) v ↔ w (4 + 4 * t + u) < v := by
  unfold notA
  rw [nI_clamp (by omega)]
  refine ⟨fun h => h.2, fun h => ⟨?_, h⟩⟩
  have : u = 0 ∨ u = 1 ∨ u = 2 ∨ u = 3 := by omega
  rcases this with rfl | rfl | rfl | rfl <;> decide
/-- some number of a SHARED cell is not reached -/
def anyN (w : Nat → Int32) (t c : Nat) : Prop := w (4 + 4 * t) < w (48 + 12 * c) ∨ w (5 + 4 * t) < w (49 + 12 * c) ∨ w (6 + 4 * t) < w (50 + 12 * c) ∨ w (7 + 4 * t) < w (51 + 12 * c)
/-- the KIND by which an access RACES by what a CELL keeps -/
noncomputable def kindF (w : Nat → Int32) (t c wr : Nat) : Int32 :=
  cif (notA w t (w (43 + 12 * c)) (w (44 + 12 * c))) (cif (wr = 0) (nI 1) (nI 0))
    (cif (wr = 0) (-1) (cif (notA w t (w (45 + 12 * c)) (w (46 + 12 * c)) ∨ w (47 + 12 * c) = nI 1 ∧ anyN w t c) (nI 2) (-1)))
noncomputable def firstF (w : Nat → Int32) (c : Nat) (k : Int32) : Nat → Int32 := cif (¬ k = -1 ∧ w (53 + 12 * c) = -1) (upd (upd w (53 + 12 * c) (w 91)) (54 + 12 * c) k) w
def wrF (w : Nat → Int32) (t c : Nat) : Nat → Int32 :=
  let a1 := upd w (43 + 12 * c) (nI t)
  let a2 := upd a1 (44 + 12 * c) (a1 (4 + 5 * t))
  upd (upd (upd (upd (upd (upd (upd a2 (45 + 12 * c) (-1)) (46 + 12 * c) (nI 0)) (47 + 12 * c) (nI 0)) (48 + 12 * c) (nI 0)) (49 + 12 * c) (nI 0)) (50 + 12 * c) (nI 0)) (51 + 12 * c) (nI 0)
def promF (w : Nat → Int32) (t c u : Nat) : Nat → Int32 :=
  let a1 := upd w (47 + 12 * c) (nI 1)
  let a2 := upd a1 (48 + 12 * c + u) (a1 (46 + 12 * c))
  let a3 := upd a2 (48 + 12 * c + t) (a2 (4 + 5 * t))
  let a4 := upd a3 (45 + 12 * c) (-1)
  let a5 := upd a4 (46 + 12 * c) (nI 0)
  upd a5 (52 + 12 * c) (a5 (52 + 12 * c) + nI 1)
noncomputable def readF (w : Nat → Int32) (t c : Nat) : Nat → Int32 :=
  cif (w (47 + 12 * c) = nI 1) (upd w (48 + 12 * c + t) (w (4 + 5 * t)))
    (cif (¬ notA w t (w (45 + 12 * c)) (w (46 + 12 * c))) (upd (upd w (45 + 12 * c) (nI t)) (46 + 12 * c) (upd w (45 + 12 * c) (nI t) (4 + 5 * t)))
      (promF w t c (w (45 + 12 * c)).toNatClampNeg))
noncomputable def accF (w : Nat → Int32) (t c wr : Nat) : Nat → Int32 := cif (wr = 0) (readF (firstF w c (kindF w t c wr)) t c) (wrF (firstF w c (kindF w t c wr)) t c)
theorem accF_out {w : Nat → Int32} {t c wr k : Nat} (hc : c < 4) (ht : t < 4) (hu : w (45 + 12 * c) = -1 ∨ ∃ u, u < 4 ∧ w (45 + 12 * c) = nI u) (h : k < 43 + 12 * c ∨ 55 + 12 * c ≤ k) : accF w t c wr k = w k := by
  have hf : ∀ (v : Int32) (k : Nat), (k < 53 + 12 * c ∨ 55 + 12 * c ≤ k) → firstF w c v k = w k := by
    intro v k h
    unfold firstF
    by_cases hp : ¬ v = -1 ∧ w (53 + 12 * c) = -1
    · rw [cif_t hp, pk_un (by omega), pk_un (by omega)]
    · rw [cif_f hp]
  unfold accF
  generalize kindF w t c wr = v
  generalize hg : firstF w c v = g
  have hgk : ∀ k : Nat, (k < 53 + 12 * c ∨ 55 + 12 * c ≤ k) → g k = w k := fun k h => by rw [← hg]; exact hf v k h
  by_cases hw : wr = 0
  · rw [cif_t hw]
    unfold readF
    by_cases h1 : g (47 + 12 * c) = nI 1
    · rw [cif_t h1, pk_un (by omega), hgk k (by omega)]
    · rw [cif_f h1]
      by_cases h2 : ¬ notA g t (g (45 + 12 * c)) (g (46 + 12 * c))
      · rw [cif_t h2, pk_un (by omega), pk_un (by omega), hgk k (by omega)]
      · rw [cif_f h2]
        have h3 := Classical.not_not.mp h2
        rw [hgk (45 + 12 * c) (by omega)]
        rcases hu with hu | ⟨u, hu, e⟩
        · exact absurd (by rw [hgk (45 + 12 * c) (by omega)]; exact hu) h3.1
        · rw [e, nI_clamp (by omega)]
          show upd (upd (upd (upd (upd (upd g (47 + 12 * c) _) (48 + 12 * c + u) _) (48 + 12 * c + t) _) (45 + 12 * c) _) (46 + 12 * c) _) (52 + 12 * c) _ k = w k
          rw [pk_un (by omega), pk_un (by omega), pk_un (by omega), pk_un (by omega), pk_un (by omega), pk_un (by omega), hgk k (by omega)]
  · rw [cif_f hw]
    show upd (upd (upd (upd (upd (upd (upd (upd (upd g (43 + 12 * c) _) (44 + 12 * c) _) (45 + 12 * c) _) (46 + 12 * c) _) (47 + 12 * c) _) (48 + 12 * c) _) (49 + 12 * c) _) (50 + 12 * c) _) (51 + 12 * c) _ k = w k
    rw [pk_un (by omega), pk_un (by omega), pk_un (by omega), pk_un (by omega), pk_un (by omega), pk_un (by omega), pk_un (by omega), pk_un (by omega), pk_un (by omega), hgk k (by omega)]
def leavF (w : Nat → Int32) (t x : Nat) : Nat → Int32 :=
  let w1 := upd w (40 + x) (-1)
  let w2 := upd w1 (20 + 4 * x) (w1 (4 + 4 * t))
  let w3 := upd w2 (21 + 4 * x) (w2 (5 + 4 * t))
  let w4 := upd w3 (22 + 4 * x) (w3 (6 + 4 * t))
  upd w4 (23 + 4 * x) (w4 (7 + 4 * t))
/-- what an EVENT does ahead of its being written down -/
noncomputable def doF (w : Nat → Int32) (t s x : Nat) : Nat → Int32 :=
  if s = 0 then accF w t x 0 else if s = 1 then accF w t x 1 else if s = 2 then upd (joinF w (4 + 4 * t) (20 + 4 * x)) (40 + x) (nI t)
  else if s = 3 then leavF w t x else if s = 4 then joinF w (32 + 4 * x) (4 + 4 * t) else if s = 5 then joinF w (4 + 4 * t) (32 + 4 * x)
  else if s = 6 then upd (joinF w (4 + 4 * x) (4 + 4 * t)) x (nI 1) else upd (joinF w (4 + 4 * t) (4 + 4 * x)) x (nI 2)
noncomputable def stpF (w : Nat → Int32) (t s : Nat) : Nat → Int32 := cif (hasS s ∧ ¬ w (4 + 5 * t) = 2147483647) (stepF w t) w
noncomputable def comeF (w : Nat → Int32) (n t s x : Nat) : Nat → Int32 := stpF (wriF (doF w t s x) n t s x) t s
/-- what a CELL keeps is sound -/
def okC (w : Nat → Int32) (c : Nat) : Prop := (w (43 + 12 * c) = -1 ∨ ∃ u, u < 4 ∧ w (43 + 12 * c) = nI u) ∧ (w (45 + 12 * c) = -1 ∨ ∃ u, u < 4 ∧ w (45 + 12 * c) = nI u) ∧ (w (47 + 12 * c) = nI 0 ∨ w (47 + 12 * c) = nI 1 ∧ w (45 + 12 * c) = -1)
theorem okC_upd {w : Nat → Int32} {c k : Nat} {v : Int32} (h : okC w c) (h1 : k ≠ 43 + 12 * c) (h2 : k ≠ 45 + 12 * c) (h3 : k ≠ 47 + 12 * c) : okC (upd w k v) c := by
  unfold okC
  rw [pk_un (Ne.symm h1), pk_un (Ne.symm h2), pk_un (Ne.symm h3)]
  exact h
theorem wriF_91 {w : Nat → Int32} {n t s x : Nat} : wriF w n t s x 91 = nI (1 + n) := pk_us
theorem comeF_91 {w : Nat → Int32} {n t s x : Nat} (ht : t < 4) : comeF w n t s x 91 = nI (1 + n) := by
  unfold comeF stpF
  by_cases h : hasS s ∧ ¬ wriF (doF w t s x) n t s x (4 + 5 * t) = 2147483647
  · rw [cif_t h]
    unfold stepF
    rw [pk_un (by omega), wriF_91]
  · rw [cif_f h, wriF_91]
abbrev inR (x : Int32) (k : Nat) : Prop := ∃ j, j < k ∧ x = nI j
abbrev withF (t s : Nat) (wi : Int32) : Prop := ∃ j, j < boundF s ∧ wi = nI j ∧ (6 ≤ s → j ≠ t)
/-- an EVENT that names what there is: its answer, and the row behind it -/
noncomputable def evG (w : Nat → Int32) (n t s x : Nat) : Int32 × (Nat → Int32) :=
  cif (¬ canF w t s x) (-1000000003, w) (cif (n = 160) (-1000000004, w) (cif (hasS s ∧ w (4 + 5 * t) = 2147483647) (-1000000005, w) (nI n, comeF w n t s x)))
noncomputable def evF (w : Nat → Int32) (n : Nat) (th so wi : Int32) : Int32 × (Nat → Int32) :=
  cif (¬ inR th 4) (-1000000001, w) (cif (¬ inR so 8) (-1000000002, w) (cif (¬ withF th.toNatClampNeg so.toNatClampNeg wi) (-1000000001, w) (evG w n th.toNatClampNeg so.toNatClampNeg wi.toNatClampNeg)))
theorem evF_U1 {w : Nat → Int32} {n : Nat} {th so wi : Int32} (h : ¬ inR th 4) : evF w n th so wi = (-1000000001, w) := cif_t h
theorem evF_O {w : Nat → Int32} {n t : Nat} {so wi : Int32} (ht : t < 4) (h : ¬ inR so 8) : evF w n (nI t) so wi = (-1000000002, w) := by
  unfold evF; rw [cif_f (fun q => q ⟨t, ht, rfl⟩), cif_t h]
theorem evF_U2 {w : Nat → Int32} {n t s : Nat} {wi : Int32} (ht : t < 4) (hs : s < 8) (h : ¬ withF t s wi) : evF w n (nI t) (nI s) wi = (-1000000001, w) := by
  unfold evF; rw [cif_f (fun q => q ⟨t, ht, rfl⟩), cif_f (fun q => q ⟨s, hs, rfl⟩), nI_clamp (by omega), nI_clamp (by omega), cif_t h]
theorem evF_go {w : Nat → Int32} {n t s x : Nat} (ht : t < 4) (hs : s < 8) (hx : x < 4) (h : withF t s (nI x)) : evF w n (nI t) (nI s) (nI x) = evG w n t s x := by
  unfold evF; rw [cif_f (fun q => q ⟨t, ht, rfl⟩), cif_f (fun q => q ⟨s, hs, rfl⟩), nI_clamp (by omega), nI_clamp (by omega), nI_clamp (by omega), cif_f (fun q => q h)]
noncomputable def jumpF (w : Nat → Int32) (th v : Int32) : Int32 × (Nat → Int32) :=
  cif (¬ inR th 4) (-1000000001, w) (cif (¬ nI 1 ≤ v) (-1000000002, w) (cif (¬ w th.toNatClampNeg = nI 1) (-1000000003, w) (cif (¬ (w (4 + 5 * th.toNatClampNeg)).toInt64 + v.toInt64 ≤ 2147483647) (-1000000005, w) (w (4 + 5 * th.toNatClampNeg) + v, upd w (4 + 5 * th.toNatClampNeg) (w (4 + 5 * th.toNatClampNeg) + v)))))
