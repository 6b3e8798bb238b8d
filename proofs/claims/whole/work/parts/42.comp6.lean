theorem held_all {ho : Nat → Int32} (h : ∀ k, k < 3 → ho k = -1 ∨ ∃ t, t < 4 ∧ ho k = nI t) : (((nI 0 ||| heldF ho (nI 0)) ||| heldF ho (nI 1)) ||| heldF ho (nI 2)) ||| heldF ho (nI 3) = lockF ho := by
  have key : ∀ a ∈ [(-1 : Int32), nI 0, nI 1, nI 2, nI 3], ∀ b ∈ [(-1 : Int32), nI 0, nI 1, nI 2, nI 3], ∀ c ∈ [(-1 : Int32), nI 0, nI 1, nI 2, nI 3], (((nI 0 ||| heldF (fun k => if k = 0 then a else if k = 1 then b else c) (nI 0)) ||| heldF (fun k => if k = 0 then a else if k = 1 then b else c) (nI 1)) ||| heldF (fun k => if k = 0 then a else if k = 1 then b else c) (nI 2)) ||| heldF (fun k => if k = 0 then a else if k = 1 then b else c) (nI 3) = lockF (fun k => if k = 0 then a else if k = 1 then b else c) := by decide +kernel
  have mem : ∀ k, k < 3 → ho k ∈ [(-1 : Int32), nI 0, nI 1, nI 2, nI 3] := by
    intro k hk
    rcases h k hk with q | ⟨t, ht, q⟩
    · rw [q]; exact List.mem_cons_self
    · rcases (show t = 0 ∨ t = 1 ∨ t = 2 ∨ t = 3 by omega) with rfl | rfl | rfl | rfl <;> rw [q] <;> decide
  exact key _ (mem 0 (by decide)) _ (mem 1 (by decide)) _ (mem 2 (by decide))
def mstep (ct : Nat → Int32) (t : Nat) : Nat → Int32 := if ct (5 * t) < 2147483647 then upd ct (5 * t) (ct (5 * t) + nI 1) else ct
def tiC (s : Nat) (ct cl cs : Nat → Int32) (t x : Nat) : Nat → Int32 := if s = 2 then joinR ct (4 * t) cl (4 * x) else if s = 5 then joinR ct (4 * t) cs (4 * x) else if s = 7 then joinA ct (4 * t) (4 * x) else ct
def tiH (s : Nat) (ho : Nat → Int32) (t x : Nat) : Nat → Int32 := if s = 2 then upd ho x (nI t) else if s = 3 then upd ho x (-1) else ho
def tiS (s : Nat) (st : Nat → Int32) (x : Nat) : Nat → Int32 := if s = 7 then upd st x (nI 2) else st
def haC (s : Nat) (ct : Nat → Int32) (t x : Nat) : Nat → Int32 := if s = 3 then mstep ct t else if s = 4 then mstep ct t else if s = 6 then mstep (joinA ct (4 * x) (4 * t)) t else ct
def haL (s : Nat) (cl ct : Nat → Int32) (t x : Nat) : Nat → Int32 := if s = 3 then va_cpy ct cl (4 * t) (4 * x) 4 else cl
def haE (s : Nat) (cs ct : Nat → Int32) (t x : Nat) : Nat → Int32 := if s = 4 then joinR cs (4 * x) ct (4 * t) else cs
def haS (s : Nat) (st : Nat → Int32) (x : Nat) : Nat → Int32 := if s = 6 then upd st x (nI 1) else st
theorem ys_X5_goes : yX5_goes.cls ≠ "java/lang/invoke/MethodHandle" ∧ yX5_goes.cls ≠ "java/lang/invoke/VarHandle" ∧ (parseMethodDescriptor yX5_goes.desc).map (fun d => d.parameters.length) = some 1 := by decide +kernel
theorem yv_X5_goes : yX5_goes.cls = RX5 ∧ yX5_goes.cls ≠ "java/lang/invoke/MethodHandle" ∧ yX5_goes.cls ≠ "java/lang/invoke/VarHandle" ∧ (parseMethodDescriptor yX5_goes.desc).map (fun d => d.parameters.length) = some 1 := ⟨rfl, ys_X5_goes⟩
theorem in_X5_goes_X5 : ∀ w ∈ wsX50, w ∈ wsX5_goes := fun _ h => List.mem_cons_of_mem _ (List.mem_append_right _ (h))
theorem lk_X5_goes_fieldLink_RX5_9_RaceWatch_World_states_I : (.fieldLink RX5 9 "RaceWatch$World" "states" "[I" : Cond) ∈ wsX5_goes := List.mem_cons_of_mem _ (List.mem_append_left _ (List.mem_of_getElem? (i := 0) rfl))
abbrev rmX5_goes : Room := { frames := 0, cells := 0, slots := 0, locals := 0 }
set_option maxHeartbeats 800000 in
set_option maxRecDepth 100000 in
theorem mX5_goes {G : sx_G} (l : Launch) {F : Nat → va_E} {st : Nat → Int32} {t : Nat}  (ht : t < 4) (h1 : F (1) = ob 5 ([rf G 2, rf G 3, rf G 4, rf G 6, rf G 8, rf G 10, rf G 19])) (h2 : F (2) = rI G (4) (st)) : sx_I G l yX5_goes wsX5_goes rmX5_goes [rf G 1, .int (nI (t))] (97) F (97) (fun r F1 => F = F1 ∧ ((st t = nI 1) ∧ nI 1 = r ∨ ¬ (st t = nI 1) ∧ nI 0 = r)) := by
  refine sx_enter (cc := cX5_goes) (maxL := 2) (ret := some .boolean) (own := RX5) (nm := "goes") (by decide) rfl rfl rfl (Nat.le_of_ble_eq_true rfl) ?_
  intro pp ee ss mm args below meth kc ls Q hQ X hs hP hl
  have hl : lv_has ls 2 [(0, rf G 1), (1, .int (nI (t)))] := hl
  refine lv_aload_n X.1.1 X.1.2.1 dX5_goes_0 rfl (lv_at hl 0 rfl) ?_
  refine sx_get X hP in_X5_goes_X5 h1 (by decide) rfl 0 (by decide) lk_X5_goes_fieldLink_RX5_9_RaceWatch_World_states_I rfl dX5_goes_1 ?_
  refine lv_iload_n X.1.1 X.1.2.1 dX5_goes_4 rfl (lv_at hl 1 rfl) ?_
  refine sx_ald X hP h2 (by decide) (t) (by omega) (by decide) dX5_goes_5 ?_
  refine lv_iconst (v := nI 1) X.1.1 X.1.2.1 dX5_goes_6 (by decide) ?_
  refine lv_icmp_ne X.1.1 X.1.2.1 (tgt := 14) dX5_goes_7 (by decide) (fun c7 => ?_) (fun c7 => ?_)
  · refine lv_iconst (v := nI 0) X.1.1 X.1.2.1 dX5_goes_14 (by decide) ?_
    rw [hQ]
    exact sx_zret X rfl (by decide) hs rfl hP dX5_goes_15 (⟨rfl, Or.inr ⟨c7, rfl⟩⟩)
  · refine lv_iconst (v := nI 1) X.1.1 X.1.2.1 dX5_goes_10 (by decide) ?_
    refine lv_goto (tgt := 15) X.1.1 X.1.2.1 dX5_goes_11 (by decide) ?_
    rw [hQ]
    exact sx_zret X rfl (by decide) hs rfl hP dX5_goes_15 (⟨rfl, Or.inl ⟨c7, rfl⟩⟩)
theorem ys_X5_locksOf : yX5_locksOf.cls ≠ "java/lang/invoke/MethodHandle" ∧ yX5_locksOf.cls ≠ "java/lang/invoke/VarHandle" ∧ (parseMethodDescriptor yX5_locksOf.desc).map (fun d => d.parameters.length) = some 1 := by decide +kernel
theorem yv_X5_locksOf : yX5_locksOf.cls = RX5 ∧ yX5_locksOf.cls ≠ "java/lang/invoke/MethodHandle" ∧ yX5_locksOf.cls ≠ "java/lang/invoke/VarHandle" ∧ (parseMethodDescriptor yX5_locksOf.desc).map (fun d => d.parameters.length) = some 1 := ⟨rfl, ys_X5_locksOf⟩
theorem in_X5_locksOf_X5 : ∀ w ∈ wsX50, w ∈ wsX5_locksOf := fun _ h => List.mem_cons_of_mem _ (List.mem_append_right _ (h))
theorem lk_X5_locksOf_fieldLink_RX5_15_RaceWatch_World_holders_I : (.fieldLink RX5 15 "RaceWatch$World" "holders" "[I" : Cond) ∈ wsX5_locksOf := List.mem_cons_of_mem _ (List.mem_append_left _ (List.mem_of_getElem? (i := 0) rfl))
abbrev rmX5_locksOf : Room := { frames := 0, cells := 0, slots := 0, locals := 0 }
set_option maxHeartbeats 800000 in
set_option maxRecDepth 100000 in
theorem mX5_locksOf {G : sx_G} (l : Launch) {F : Nat → va_E} {ho : Nat → Int32} {t : Nat}  (h1 : F (1) = ob 5 ([rf G 2, rf G 3, rf G 4, rf G 6, rf G 8, rf G 10, rf G 19])) (h3 : F (3) = rI G (3) (ho)) : sx_I G l yX5_locksOf wsX5_locksOf rmX5_locksOf [rf G 1, .int (nI (t))] (97) F (97) (fun r F1 => F = F1 ∧ heldF ho (nI t) = r) := by
  refine sx_enter (cc := cX5_locksOf) (maxL := 4) (ret := some .int) (own := RX5) (nm := "locksOf") (by decide) rfl rfl rfl (Nat.le_of_ble_eq_true rfl) ?_
  intro pp ee ss mm args below meth kc ls Q hQ X hs hP hl
  have hl : lv_has ls 4 [(0, rf G 1), (1, .int (nI (t)))] := hl
  refine lv_iconst (v := nI 0) X.1.1 X.1.2.1 dX5_locksOf_0 (by decide) ?_
  refine lv_istore_n (lv' := [(2, .int (nI 0)), (0, rf G 1), (1, .int (nI (t)))]) X.1.1 X.1.2.1 dX5_locksOf_1 rfl hl (by decide) rfl (fun ls hl => ?_)
  refine lv_iconst (v := nI 0) X.1.1 X.1.2.1 dX5_locksOf_2 (by decide) ?_
  refine lv_istore_n (lv' := [(3, .int (nI 0)), (2, .int (nI 0)), (0, rf G 1), (1, .int (nI (t)))]) X.1.1 X.1.2.1 dX5_locksOf_3 rfl hl (by decide) rfl (fun ls hl => ?_)
  refine lv_iload_n X.1.1 X.1.2.1 dX5_locksOf_4 rfl (lv_at hl 0 rfl) ?_
  refine lv_iconst (v := nI 3) X.1.1 X.1.2.1 dX5_locksOf_5 (by decide) ?_
  refine sx_icmp_ge X (by decide) (by decide) (tgt := 31) dX5_locksOf_6 (by decide) (fun h => absurd h (by decide)) (fun _ => ?_)
  refine lv_aload_n X.1.1 X.1.2.1 dX5_locksOf_9 rfl (lv_at hl 2 rfl) ?_
  refine sx_get X hP in_X5_locksOf_X5 h1 (by decide) rfl 1 (by decide) lk_X5_locksOf_fieldLink_RX5_15_RaceWatch_World_holders_I rfl dX5_locksOf_10 ?_
  refine lv_iload_n X.1.1 X.1.2.1 dX5_locksOf_13 rfl (lv_at hl 0 rfl) ?_
  refine sx_ald X hP h3 (by decide) (0) (by decide) (by decide) dX5_locksOf_14 ?_
  refine lv_iload_n X.1.1 X.1.2.1 dX5_locksOf_15 rfl (lv_at hl 3 rfl) ?_
  refine lv_icmp_ne X.1.1 X.1.2.1 (tgt := 25) dX5_locksOf_16 (by decide) (fun c16 => ?_) (fun c16 => ?_)
  · refine lv_iinc (v := (nI (1))) (lv' := [(3, .int (nI 1)), (2, .int (nI 0)), (0, rf G 1), (1, .int (nI (t)))]) X.1.1 X.1.2.1 dX5_locksOf_25 hl (k := 0) rfl (by decide) (by decide) rfl (fun ls hl => ?_)
    refine lv_goto (tgt := 4) X.1.1 X.1.2.1 dX5_locksOf_28 (by decide) ?_
    refine lv_iload_n X.1.1 X.1.2.1 dX5_locksOf_4 rfl (lv_at hl 0 rfl) ?_
    refine lv_iconst (v := nI 3) X.1.1 X.1.2.1 dX5_locksOf_5 (by decide) ?_
    refine sx_icmp_ge X (by decide) (by decide) (tgt := 31) dX5_locksOf_6 (by decide) (fun h => absurd h (by decide)) (fun _ => ?_)
    refine lv_aload_n X.1.1 X.1.2.1 dX5_locksOf_9 rfl (lv_at hl 2 rfl) ?_
    refine sx_get X hP in_X5_locksOf_X5 h1 (by decide) rfl 1 (by decide) lk_X5_locksOf_fieldLink_RX5_15_RaceWatch_World_holders_I rfl dX5_locksOf_10 ?_
    refine lv_iload_n X.1.1 X.1.2.1 dX5_locksOf_13 rfl (lv_at hl 0 rfl) ?_
    refine sx_ald X hP h3 (by decide) (1) (by decide) (by decide) dX5_locksOf_14 ?_
    refine lv_iload_n X.1.1 X.1.2.1 dX5_locksOf_15 rfl (lv_at hl 3 rfl) ?_
    refine lv_icmp_ne X.1.1 X.1.2.1 (tgt := 25) dX5_locksOf_16 (by decide) (fun c16_1 => ?_) (fun c16_1 => ?_)
    · refine lv_iinc (v := (nI (2))) (lv' := [(3, .int (nI 2)), (2, .int (nI 0)), (0, rf G 1), (1, .int (nI (t)))]) X.1.1 X.1.2.1 dX5_locksOf_25 hl (k := 0) rfl (by decide) (by decide) rfl (fun ls hl => ?_)
      refine lv_goto (tgt := 4) X.1.1 X.1.2.1 dX5_locksOf_28 (by decide) ?_
      refine lv_iload_n X.1.1 X.1.2.1 dX5_locksOf_4 rfl (lv_at hl 0 rfl) ?_
      refine lv_iconst (v := nI 3) X.1.1 X.1.2.1 dX5_locksOf_5 (by decide) ?_
      refine sx_icmp_ge X (by decide) (by decide) (tgt := 31) dX5_locksOf_6 (by decide) (fun h => absurd h (by decide)) (fun _ => ?_)
      refine lv_aload_n X.1.1 X.1.2.1 dX5_locksOf_9 rfl (lv_at hl 2 rfl) ?_
      refine sx_get X hP in_X5_locksOf_X5 h1 (by decide) rfl 1 (by decide) lk_X5_locksOf_fieldLink_RX5_15_RaceWatch_World_holders_I rfl dX5_locksOf_10 ?_
      refine lv_iload_n X.1.1 X.1.2.1 dX5_locksOf_13 rfl (lv_at hl 0 rfl) ?_
      refine sx_ald X hP h3 (by decide) (2) (by decide) (by decide) dX5_locksOf_14 ?_
      refine lv_iload_n X.1.1 X.1.2.1 dX5_locksOf_15 rfl (lv_at hl 3 rfl) ?_
      refine lv_icmp_ne X.1.1 X.1.2.1 (tgt := 25) dX5_locksOf_16 (by decide) (fun c16_2 => ?_) (fun c16_2 => ?_)
      · refine lv_iinc (v := (nI (3))) (lv' := [(3, .int (nI 3)), (2, .int (nI 0)), (0, rf G 1), (1, .int (nI (t)))]) X.1.1 X.1.2.1 dX5_locksOf_25 hl (k := 0) rfl (by decide) (by decide) rfl (fun ls hl => ?_)
        refine lv_goto (tgt := 4) X.1.1 X.1.2.1 dX5_locksOf_28 (by decide) ?_
        refine lv_iload_n X.1.1 X.1.2.1 dX5_locksOf_4 rfl (lv_at hl 0 rfl) ?_
        refine lv_iconst (v := nI 3) X.1.1 X.1.2.1 dX5_locksOf_5 (by decide) ?_
        refine sx_icmp_ge X (by decide) (by decide) (tgt := 31) dX5_locksOf_6 (by decide) (fun _ => ?_) (fun h => absurd h (by decide))
        refine lv_iload_n X.1.1 X.1.2.1 dX5_locksOf_31 rfl (lv_at hl 1 rfl) ?_
        rw [hQ]
        exact sx_iret X rfl hs rfl hP dX5_locksOf_32 (⟨rfl, by unfold heldF; rw [if_neg c16, if_neg c16_1, if_neg c16_2]; decide⟩)
      · refine lv_iload_n X.1.1 X.1.2.1 dX5_locksOf_19 rfl (lv_at hl 1 rfl) ?_
        refine lv_iconst (v := nI 1) X.1.1 X.1.2.1 dX5_locksOf_20 (by decide) ?_
        refine lv_iload_n X.1.1 X.1.2.1 dX5_locksOf_21 rfl (lv_at hl 0 rfl) ?_
        refine lv_ishl X.1.1 X.1.2.1 dX5_locksOf_22 ?_
        refine lv_ior X.1.1 X.1.2.1 dX5_locksOf_23 ?_
        refine lv_istore_n (lv' := [(2, .int ((nI (0)) ||| ((nI (1)) <<< ((nI (2)) &&& 31)))), (3, .int (nI 2)), (0, rf G 1), (1, .int (nI (t)))]) X.1.1 X.1.2.1 dX5_locksOf_24 rfl hl (by decide) rfl (fun ls hl => ?_)
        refine lv_iinc (v := (nI (3))) (lv' := [(3, .int (nI 3)), (2, .int ((nI (0)) ||| ((nI (1)) <<< ((nI (2)) &&& 31)))), (0, rf G 1), (1, .int (nI (t)))]) X.1.1 X.1.2.1 dX5_locksOf_25 hl (k := 1) rfl (by decide) (by decide) rfl (fun ls hl => ?_)
        refine lv_goto (tgt := 4) X.1.1 X.1.2.1 dX5_locksOf_28 (by decide) ?_
        refine lv_iload_n X.1.1 X.1.2.1 dX5_locksOf_4 rfl (lv_at hl 0 rfl) ?_
        refine lv_iconst (v := nI 3) X.1.1 X.1.2.1 dX5_locksOf_5 (by decide) ?_
        refine sx_icmp_ge X (by decide) (by decide) (tgt := 31) dX5_locksOf_6 (by decide) (fun _ => ?_) (fun h => absurd h (by decide))
        refine lv_iload_n X.1.1 X.1.2.1 dX5_locksOf_31 rfl (lv_at hl 1 rfl) ?_
        rw [hQ]
        exact sx_iret X rfl hs rfl hP dX5_locksOf_32 (⟨rfl, by unfold heldF; rw [if_neg c16, if_neg c16_1, if_pos c16_2]; decide⟩)
    · refine lv_iload_n X.1.1 X.1.2.1 dX5_locksOf_19 rfl (lv_at hl 1 rfl) ?_
      refine lv_iconst (v := nI 1) X.1.1 X.1.2.1 dX5_locksOf_20 (by decide) ?_
      refine lv_iload_n X.1.1 X.1.2.1 dX5_locksOf_21 rfl (lv_at hl 0 rfl) ?_
      refine lv_ishl X.1.1 X.1.2.1 dX5_locksOf_22 ?_
      refine lv_ior X.1.1 X.1.2.1 dX5_locksOf_23 ?_
      refine lv_istore_n (lv' := [(2, .int ((nI (0)) ||| ((nI (1)) <<< ((nI (1)) &&& 31)))), (3, .int (nI 1)), (0, rf G 1), (1, .int (nI (t)))]) X.1.1 X.1.2.1 dX5_locksOf_24 rfl hl (by decide) rfl (fun ls hl => ?_)
      refine lv_iinc (v := (nI (2))) (lv' := [(3, .int (nI 2)), (2, .int ((nI (0)) ||| ((nI (1)) <<< ((nI (1)) &&& 31)))), (0, rf G 1), (1, .int (nI (t)))]) X.1.1 X.1.2.1 dX5_locksOf_25 hl (k := 1) rfl (by decide) (by decide) rfl (fun ls hl => ?_)
      refine lv_goto (tgt := 4) X.1.1 X.1.2.1 dX5_locksOf_28 (by decide) ?_
      refine lv_iload_n X.1.1 X.1.2.1 dX5_locksOf_4 rfl (lv_at hl 0 rfl) ?_
      refine lv_iconst (v := nI 3) X.1.1 X.1.2.1 dX5_locksOf_5 (by decide) ?_
      refine sx_icmp_ge X (by decide) (by decide) (tgt := 31) dX5_locksOf_6 (by decide) (fun h => absurd h (by decide)) (fun _ => ?_)
      refine lv_aload_n X.1.1 X.1.2.1 dX5_locksOf_9 rfl (lv_at hl 2 rfl) ?_
      refine sx_get X hP in_X5_locksOf_X5 h1 (by decide) rfl 1 (by decide) lk_X5_locksOf_fieldLink_RX5_15_RaceWatch_World_holders_I rfl dX5_locksOf_10 ?_
      refine lv_iload_n X.1.1 X.1.2.1 dX5_locksOf_13 rfl (lv_at hl 0 rfl) ?_
      refine sx_ald X hP h3 (by decide) (2) (by decide) (by decide) dX5_locksOf_14 ?_
      refine lv_iload_n X.1.1 X.1.2.1 dX5_locksOf_15 rfl (lv_at hl 3 rfl) ?_
      refine lv_icmp_ne X.1.1 X.1.2.1 (tgt := 25) dX5_locksOf_16 (by decide) (fun c16_3 => ?_) (fun c16_3 => ?_)
      · refine lv_iinc (v := (nI (3))) (lv' := [(3, .int (nI 3)), (2, .int ((nI (0)) ||| ((nI (1)) <<< ((nI (1)) &&& 31)))), (0, rf G 1), (1, .int (nI (t)))]) X.1.1 X.1.2.1 dX5_locksOf_25 hl (k := 0) rfl (by decide) (by decide) rfl (fun ls hl => ?_)
        refine lv_goto (tgt := 4) X.1.1 X.1.2.1 dX5_locksOf_28 (by decide) ?_
        refine lv_iload_n X.1.1 X.1.2.1 dX5_locksOf_4 rfl (lv_at hl 0 rfl) ?_
        refine lv_iconst (v := nI 3) X.1.1 X.1.2.1 dX5_locksOf_5 (by decide) ?_
        refine sx_icmp_ge X (by decide) (by decide) (tgt := 31) dX5_locksOf_6 (by decide) (fun _ => ?_) (fun h => absurd h (by decide))
        refine lv_iload_n X.1.1 X.1.2.1 dX5_locksOf_31 rfl (lv_at hl 1 rfl) ?_
        rw [hQ]
        exact sx_iret X rfl hs rfl hP dX5_locksOf_32 (⟨rfl, by unfold heldF; rw [if_neg c16, if_pos c16_1, if_neg c16_3]; decide⟩)
      · refine lv_iload_n X.1.1 X.1.2.1 dX5_locksOf_19 rfl (lv_at hl 1 rfl) ?_
        refine lv_iconst (v := nI 1) X.1.1 X.1.2.1 dX5_locksOf_20 (by decide) ?_
        refine lv_iload_n X.1.1 X.1.2.1 dX5_locksOf_21 rfl (lv_at hl 0 rfl) ?_
        refine lv_ishl X.1.1 X.1.2.1 dX5_locksOf_22 ?_
        refine lv_ior X.1.1 X.1.2.1 dX5_locksOf_23 ?_
        refine lv_istore_n (lv' := [(2, .int (((nI (0)) ||| ((nI (1)) <<< ((nI (1)) &&& 31))) ||| ((nI (1)) <<< ((nI (2)) &&& 31)))), (3, .int (nI 2)), (0, rf G 1), (1, .int (nI (t)))]) X.1.1 X.1.2.1 dX5_locksOf_24 rfl hl (by decide) rfl (fun ls hl => ?_)
        refine lv_iinc (v := (nI (3))) (lv' := [(3, .int (nI 3)), (2, .int (((nI (0)) ||| ((nI (1)) <<< ((nI (1)) &&& 31))) ||| ((nI (1)) <<< ((nI (2)) &&& 31)))), (0, rf G 1), (1, .int (nI (t)))]) X.1.1 X.1.2.1 dX5_locksOf_25 hl (k := 1) rfl (by decide) (by decide) rfl (fun ls hl => ?_)
        refine lv_goto (tgt := 4) X.1.1 X.1.2.1 dX5_locksOf_28 (by decide) ?_
        refine lv_iload_n X.1.1 X.1.2.1 dX5_locksOf_4 rfl (lv_at hl 0 rfl) ?_
        refine lv_iconst (v := nI 3) X.1.1 X.1.2.1 dX5_locksOf_5 (by decide) ?_
        refine sx_icmp_ge X (by decide) (by decide) (tgt := 31) dX5_locksOf_6 (by decide) (fun _ => ?_) (fun h => absurd h (by decide))
        refine lv_iload_n X.1.1 X.1.2.1 dX5_locksOf_31 rfl (lv_at hl 1 rfl) ?_
        rw [hQ]
        exact sx_iret X rfl hs rfl hP dX5_locksOf_32 (⟨rfl, by unfold heldF; rw [if_neg c16, if_pos c16_1, if_pos c16_3]; decide⟩)
  · refine lv_iload_n X.1.1 X.1.2.1 dX5_locksOf_19 rfl (lv_at hl 1 rfl) ?_
    refine lv_iconst (v := nI 1) X.1.1 X.1.2.1 dX5_locksOf_20 (by decide) ?_
    refine lv_iload_n X.1.1 X.1.2.1 dX5_locksOf_21 rfl (lv_at hl 0 rfl) ?_
    refine lv_ishl X.1.1 X.1.2.1 dX5_locksOf_22 ?_
    refine lv_ior X.1.1 X.1.2.1 dX5_locksOf_23 ?_
    refine lv_istore_n (lv' := [(2, .int ((nI (0)) ||| ((nI (1)) <<< ((nI (0)) &&& 31)))), (3, .int (nI 0)), (0, rf G 1), (1, .int (nI (t)))]) X.1.1 X.1.2.1 dX5_locksOf_24 rfl hl (by decide) rfl (fun ls hl => ?_)
    refine lv_iinc (v := (nI (1))) (lv' := [(3, .int (nI 1)), (2, .int ((nI (0)) ||| ((nI (1)) <<< ((nI (0)) &&& 31)))), (0, rf G 1), (1, .int (nI (t)))]) X.1.1 X.1.2.1 dX5_locksOf_25 hl (k := 1) rfl (by decide) (by decide) rfl (fun ls hl => ?_)
    refine lv_goto (tgt := 4) X.1.1 X.1.2.1 dX5_locksOf_28 (by decide) ?_
    refine lv_iload_n X.1.1 X.1.2.1 dX5_locksOf_4 rfl (lv_at hl 0 rfl) ?_
    refine lv_iconst (v := nI 3) X.1.1 X.1.2.1 dX5_locksOf_5 (by decide) ?_
    refine sx_icmp_ge X (by decide) (by decide) (tgt := 31) dX5_locksOf_6 (by decide) (fun h => absurd h (by decide)) (fun _ => ?_)
    refine lv_aload_n X.1.1 X.1.2.1 dX5_locksOf_9 rfl (lv_at hl 2 rfl) ?_
    refine sx_get X hP in_X5_locksOf_X5 h1 (by decide) rfl 1 (by decide) lk_X5_locksOf_fieldLink_RX5_15_RaceWatch_World_holders_I rfl dX5_locksOf_10 ?_
    refine lv_iload_n X.1.1 X.1.2.1 dX5_locksOf_13 rfl (lv_at hl 0 rfl) ?_
    refine sx_ald X hP h3 (by decide) (1) (by decide) (by decide) dX5_locksOf_14 ?_
    refine lv_iload_n X.1.1 X.1.2.1 dX5_locksOf_15 rfl (lv_at hl 3 rfl) ?_
    refine lv_icmp_ne X.1.1 X.1.2.1 (tgt := 25) dX5_locksOf_16 (by decide) (fun c16_4 => ?_) (fun c16_4 => ?_)
    · refine lv_iinc (v := (nI (2))) (lv' := [(3, .int (nI 2)), (2, .int ((nI (0)) ||| ((nI (1)) <<< ((nI (0)) &&& 31)))), (0, rf G 1), (1, .int (nI (t)))]) X.1.1 X.1.2.1 dX5_locksOf_25 hl (k := 0) rfl (by decide) (by decide) rfl (fun ls hl => ?_)
      refine lv_goto (tgt := 4) X.1.1 X.1.2.1 dX5_locksOf_28 (by decide) ?_
      refine lv_iload_n X.1.1 X.1.2.1 dX5_locksOf_4 rfl (lv_at hl 0 rfl) ?_
      refine lv_iconst (v := nI 3) X.1.1 X.1.2.1 dX5_locksOf_5 (by decide) ?_
      refine sx_icmp_ge X (by decide) (by decide) (tgt := 31) dX5_locksOf_6 (by decide) (fun h => absurd h (by decide)) (fun _ => ?_)
      refine lv_aload_n X.1.1 X.1.2.1 dX5_locksOf_9 rfl (lv_at hl 2 rfl) ?_
      refine sx_get X hP in_X5_locksOf_X5 h1 (by decide) rfl 1 (by decide) lk_X5_locksOf_fieldLink_RX5_15_RaceWatch_World_holders_I rfl dX5_locksOf_10 ?_
      refine lv_iload_n X.1.1 X.1.2.1 dX5_locksOf_13 rfl (lv_at hl 0 rfl) ?_
      refine sx_ald X hP h3 (by decide) (2) (by decide) (by decide) dX5_locksOf_14 ?_
      refine lv_iload_n X.1.1 X.1.2.1 dX5_locksOf_15 rfl (lv_at hl 3 rfl) ?_
      refine lv_icmp_ne X.1.1 X.1.2.1 (tgt := 25) dX5_locksOf_16 (by decide) (fun c16_5 => ?_) (fun c16_5 => ?_)
      · refine lv_iinc (v := (nI (3))) (lv' := [(3, .int (nI 3)), (2, .int ((nI (0)) ||| ((nI (1)) <<< ((nI (0)) &&& 31)))), (0, rf G 1), (1, .int (nI (t)))]) X.1.1 X.1.2.1 dX5_locksOf_25 hl (k := 0) rfl (by decide) (by decide) rfl (fun ls hl => ?_)
        refine lv_goto (tgt := 4) X.1.1 X.1.2.1 dX5_locksOf_28 (by decide) ?_
        refine lv_iload_n X.1.1 X.1.2.1 dX5_locksOf_4 rfl (lv_at hl 0 rfl) ?_
        refine lv_iconst (v := nI 3) X.1.1 X.1.2.1 dX5_locksOf_5 (by decide) ?_
        refine sx_icmp_ge X (by decide) (by decide) (tgt := 31) dX5_locksOf_6 (by decide) (fun _ => ?_) (fun h => absurd h (by decide))
        refine lv_iload_n X.1.1 X.1.2.1 dX5_locksOf_31 rfl (lv_at hl 1 rfl) ?_
        rw [hQ]
        exact sx_iret X rfl hs rfl hP dX5_locksOf_32 (⟨rfl, by unfold heldF; rw [if_pos c16, if_neg c16_4, if_neg c16_5]; decide⟩)
      · refine lv_iload_n X.1.1 X.1.2.1 dX5_locksOf_19 rfl (lv_at hl 1 rfl) ?_
        refine lv_iconst (v := nI 1) X.1.1 X.1.2.1 dX5_locksOf_20 (by decide) ?_
        refine lv_iload_n X.1.1 X.1.2.1 dX5_locksOf_21 rfl (lv_at hl 0 rfl) ?_
        refine lv_ishl X.1.1 X.1.2.1 dX5_locksOf_22 ?_
        refine lv_ior X.1.1 X.1.2.1 dX5_locksOf_23 ?_
        refine lv_istore_n (lv' := [(2, .int (((nI (0)) ||| ((nI (1)) <<< ((nI (0)) &&& 31))) ||| ((nI (1)) <<< ((nI (2)) &&& 31)))), (3, .int (nI 2)), (0, rf G 1), (1, .int (nI (t)))]) X.1.1 X.1.2.1 dX5_locksOf_24 rfl hl (by decide) rfl (fun ls hl => ?_)
        refine lv_iinc (v := (nI (3))) (lv' := [(3, .int (nI 3)), (2, .int (((nI (0)) ||| ((nI (1)) <<< ((nI (0)) &&& 31))) ||| ((nI (1)) <<< ((nI (2)) &&& 31)))), (0, rf G 1), (1, .int (nI (t)))]) X.1.1 X.1.2.1 dX5_locksOf_25 hl (k := 1) rfl (by decide) (by decide) rfl (fun ls hl => ?_)
        refine lv_goto (tgt := 4) X.1.1 X.1.2.1 dX5_locksOf_28 (by decide) ?_
        refine lv_iload_n X.1.1 X.1.2.1 dX5_locksOf_4 rfl (lv_at hl 0 rfl) ?_
        refine lv_iconst (v := nI 3) X.1.1 X.1.2.1 dX5_locksOf_5 (by decide) ?_
        refine sx_icmp_ge X (by decide) (by decide) (tgt := 31) dX5_locksOf_6 (by decide) (fun _ => ?_) (fun h => absurd h (by decide))
        refine lv_iload_n X.1.1 X.1.2.1 dX5_locksOf_31 rfl (lv_at hl 1 rfl) ?_
        rw [hQ]
        exact sx_iret X rfl hs rfl hP dX5_locksOf_32 (⟨rfl, by unfold heldF; rw [if_pos c16, if_neg c16_4, if_pos c16_5]; decide⟩)
    · refine lv_iload_n X.1.1 X.1.2.1 dX5_locksOf_19 rfl (lv_at hl 1 rfl) ?_
      refine lv_iconst (v := nI 1) X.1.1 X.1.2.1 dX5_locksOf_20 (by decide) ?_
      refine lv_iload_n X.1.1 X.1.2.1 dX5_locksOf_21 rfl (lv_at hl 0 rfl) ?_
      refine lv_ishl X.1.1 X.1.2.1 dX5_locksOf_22 ?_
      refine lv_ior X.1.1 X.1.2.1 dX5_locksOf_23 ?_
      refine lv_istore_n (lv' := [(2, .int (((nI (0)) ||| ((nI (1)) <<< ((nI (0)) &&& 31))) ||| ((nI (1)) <<< ((nI (1)) &&& 31)))), (3, .int (nI 1)), (0, rf G 1), (1, .int (nI (t)))]) X.1.1 X.1.2.1 dX5_locksOf_24 rfl hl (by decide) rfl (fun ls hl => ?_)
      refine lv_iinc (v := (nI (2))) (lv' := [(3, .int (nI 2)), (2, .int (((nI (0)) ||| ((nI (1)) <<< ((nI (0)) &&& 31))) ||| ((nI (1)) <<< ((nI (1)) &&& 31)))), (0, rf G 1), (1, .int (nI (t)))]) X.1.1 X.1.2.1 dX5_locksOf_25 hl (k := 1) rfl (by decide) (by decide) rfl (fun ls hl => ?_)
      refine lv_goto (tgt := 4) X.1.1 X.1.2.1 dX5_locksOf_28 (by decide) ?_
      refine lv_iload_n X.1.1 X.1.2.1 dX5_locksOf_4 rfl (lv_at hl 0 rfl) ?_
      refine lv_iconst (v := nI 3) X.1.1 X.1.2.1 dX5_locksOf_5 (by decide) ?_
      refine sx_icmp_ge X (by decide) (by decide) (tgt := 31) dX5_locksOf_6 (by decide) (fun h => absurd h (by decide)) (fun _ => ?_)
      refine lv_aload_n X.1.1 X.1.2.1 dX5_locksOf_9 rfl (lv_at hl 2 rfl) ?_
      refine sx_get X hP in_X5_locksOf_X5 h1 (by decide) rfl 1 (by decide) lk_X5_locksOf_fieldLink_RX5_15_RaceWatch_World_holders_I rfl dX5_locksOf_10 ?_
      refine lv_iload_n X.1.1 X.1.2.1 dX5_locksOf_13 rfl (lv_at hl 0 rfl) ?_
      refine sx_ald X hP h3 (by decide) (2) (by decide) (by decide) dX5_locksOf_14 ?_
      refine lv_iload_n X.1.1 X.1.2.1 dX5_locksOf_15 rfl (lv_at hl 3 rfl) ?_
      refine lv_icmp_ne X.1.1 X.1.2.1 (tgt := 25) dX5_locksOf_16 (by decide) (fun c16_6 => ?_) (fun c16_6 => ?_)
      · refine lv_iinc (v := (nI (3))) (lv' := [(3, .int (nI 3)), (2, .int (((nI (0)) ||| ((nI (1)) <<< ((nI (0)) &&& 31))) ||| ((nI (1)) <<< ((nI (1)) &&& 31)))), (0, rf G 1), (1, .int (nI (t)))]) X.1.1 X.1.2.1 dX5_locksOf_25 hl (k := 0) rfl (by decide) (by decide) rfl (fun ls hl => ?_)
        refine lv_goto (tgt := 4) X.1.1 X.1.2.1 dX5_locksOf_28 (by decide) ?_
        refine lv_iload_n X.1.1 X.1.2.1 dX5_locksOf_4 rfl (lv_at hl 0 rfl) ?_
        refine lv_iconst (v := nI 3) X.1.1 X.1.2.1 dX5_locksOf_5 (by decide) ?_
        refine sx_icmp_ge X (by decide) (by decide) (tgt := 31) dX5_locksOf_6 (by decide) (fun _ => ?_) (fun h => absurd h (by decide))
        refine lv_iload_n X.1.1 X.1.2.1 dX5_locksOf_31 rfl (lv_at hl 1 rfl) ?_
        rw [hQ]
        exact sx_iret X rfl hs rfl hP dX5_locksOf_32 (⟨rfl, by unfold heldF; rw [if_pos c16, if_pos c16_4, if_neg c16_6]; decide⟩)
      · refine lv_iload_n X.1.1 X.1.2.1 dX5_locksOf_19 rfl (lv_at hl 1 rfl) ?_
        refine lv_iconst (v := nI 1) X.1.1 X.1.2.1 dX5_locksOf_20 (by decide) ?_
        refine lv_iload_n X.1.1 X.1.2.1 dX5_locksOf_21 rfl (lv_at hl 0 rfl) ?_
        refine lv_ishl X.1.1 X.1.2.1 dX5_locksOf_22 ?_
        refine lv_ior X.1.1 X.1.2.1 dX5_locksOf_23 ?_
        refine lv_istore_n (lv' := [(2, .int ((((nI (0)) ||| ((nI (1)) <<< ((nI (0)) &&& 31))) ||| ((nI (1)) <<< ((nI (1)) &&& 31))) ||| ((nI (1)) <<< ((nI (2)) &&& 31)))), (3, .int (nI 2)), (0, rf G 1), (1, .int (nI (t)))]) X.1.1 X.1.2.1 dX5_locksOf_24 rfl hl (by decide) rfl (fun ls hl => ?_)
        refine lv_iinc (v := (nI (3))) (lv' := [(3, .int (nI 3)), (2, .int ((((nI (0)) ||| ((nI (1)) <<< ((nI (0)) &&& 31))) ||| ((nI (1)) <<< ((nI (1)) &&& 31))) ||| ((nI (1)) <<< ((nI (2)) &&& 31)))), (0, rf G 1), (1, .int (nI (t)))]) X.1.1 X.1.2.1 dX5_locksOf_25 hl (k := 1) rfl (by decide) (by decide) rfl (fun ls hl => ?_)
        refine lv_goto (tgt := 4) X.1.1 X.1.2.1 dX5_locksOf_28 (by decide) ?_
        refine lv_iload_n X.1.1 X.1.2.1 dX5_locksOf_4 rfl (lv_at hl 0 rfl) ?_
        refine lv_iconst (v := nI 3) X.1.1 X.1.2.1 dX5_locksOf_5 (by decide) ?_
        refine sx_icmp_ge X (by decide) (by decide) (tgt := 31) dX5_locksOf_6 (by decide) (fun _ => ?_) (fun h => absurd h (by decide))
        refine lv_iload_n X.1.1 X.1.2.1 dX5_locksOf_31 rfl (lv_at hl 1 rfl) ?_
        rw [hQ]
        exact sx_iret X rfl hs rfl hP dX5_locksOf_32 (⟨rfl, by unfold heldF; rw [if_pos c16, if_pos c16_4, if_pos c16_6]; decide⟩)
theorem ys_X5_threadsThat : yX5_threadsThat.cls ≠ "java/lang/invoke/MethodHandle" ∧ yX5_threadsThat.cls ≠ "java/lang/invoke/VarHandle" ∧ (parseMethodDescriptor yX5_threadsThat.desc).map (fun d => d.parameters.length) = some 1 := by decide +kernel
theorem yv_X5_threadsThat : yX5_threadsThat.cls = RX5 ∧ yX5_threadsThat.cls ≠ "java/lang/invoke/MethodHandle" ∧ yX5_threadsThat.cls ≠ "java/lang/invoke/VarHandle" ∧ (parseMethodDescriptor yX5_threadsThat.desc).map (fun d => d.parameters.length) = some 1 := ⟨rfl, ys_X5_threadsThat⟩
theorem in_X5_threadsThat_X5 : ∀ w ∈ wsX50, w ∈ wsX5_threadsThat := fun _ h => List.mem_cons_of_mem _ (List.mem_append_right _ (h))
theorem lk_X5_threadsThat_fieldLink_RX5_9_RaceWatch_World_states_I : (.fieldLink RX5 9 "RaceWatch$World" "states" "[I" : Cond) ∈ wsX5_threadsThat := List.mem_cons_of_mem _ (List.mem_append_left _ (List.mem_of_getElem? (i := 0) rfl))
abbrev rmX5_threadsThat : Room := { frames := 0, cells := 0, slots := 0, locals := 0 }
set_option maxHeartbeats 800000 in
set_option maxRecDepth 100000 in
theorem mX5_threadsThat {G : sx_G} (l : Launch) {F : Nat → va_E} {st : Nat → Int32} {x : Int32}  (h1 : F (1) = ob 5 ([rf G 2, rf G 3, rf G 4, rf G 6, rf G 8, rf G 10, rf G 19])) (h2 : F (2) = rI G (4) (st)) : sx_I G l yX5_threadsThat wsX5_threadsThat rmX5_threadsThat [rf G 1, .int (x)] (97) F (97) (fun r F1 => F = F1 ∧ setF4 st x = r) := by
  refine sx_enter (cc := cX5_threadsThat) (maxL := 4) (ret := some .int) (own := RX5) (nm := "threadsThat") (by decide) rfl rfl rfl (Nat.le_of_ble_eq_true rfl) ?_
  intro pp ee ss mm args below meth kc ls Q hQ X hs hP hl
  have hl : lv_has ls 4 [(0, rf G 1), (1, .int (x))] := hl
  refine lv_iconst (v := nI 0) X.1.1 X.1.2.1 dX5_threadsThat_0 (by decide) ?_
  refine lv_istore_n (lv' := [(2, .int (nI 0)), (0, rf G 1), (1, .int (x))]) X.1.1 X.1.2.1 dX5_threadsThat_1 rfl hl (by decide) rfl (fun ls hl => ?_)
  refine lv_iconst (v := nI 0) X.1.1 X.1.2.1 dX5_threadsThat_2 (by decide) ?_
  refine lv_istore_n (lv' := [(3, .int (nI 0)), (2, .int (nI 0)), (0, rf G 1), (1, .int (x))]) X.1.1 X.1.2.1 dX5_threadsThat_3 rfl hl (by decide) rfl (fun ls hl => ?_)
  refine lv_iload_n X.1.1 X.1.2.1 dX5_threadsThat_4 rfl (lv_at hl 0 rfl) ?_
  refine lv_iconst (v := nI 4) X.1.1 X.1.2.1 dX5_threadsThat_5 (by decide) ?_
  refine sx_icmp_ge X (by decide) (by decide) (tgt := 31) dX5_threadsThat_6 (by decide) (fun h => absurd h (by decide)) (fun _ => ?_)
  refine lv_aload_n X.1.1 X.1.2.1 dX5_threadsThat_9 rfl (lv_at hl 2 rfl) ?_
  refine sx_get X hP in_X5_threadsThat_X5 h1 (by decide) rfl 0 (by decide) lk_X5_threadsThat_fieldLink_RX5_9_RaceWatch_World_states_I rfl dX5_threadsThat_10 ?_
  refine lv_iload_n X.1.1 X.1.2.1 dX5_threadsThat_13 rfl (lv_at hl 0 rfl) ?_
  refine sx_ald X hP h2 (by decide) (0) (by decide) (by decide) dX5_threadsThat_14 ?_
  refine lv_iload_n X.1.1 X.1.2.1 dX5_threadsThat_15 rfl (lv_at hl 3 rfl) ?_
  refine lv_icmp_ne X.1.1 X.1.2.1 (tgt := 25) dX5_threadsThat_16 (by decide) (fun c16 => ?_) (fun c16 => ?_)
  · refine lv_iinc (v := (nI (1))) (lv' := [(3, .int (nI 1)), (2, .int (nI 0)), (0, rf G 1), (1, .int (x))]) X.1.1 X.1.2.1 dX5_threadsThat_25 hl (k := 0) rfl (by decide) (by decide) rfl (fun ls hl => ?_)
    refine lv_goto (tgt := 4) X.1.1 X.1.2.1 dX5_threadsThat_28 (by decide) ?_
    refine lv_iload_n X.1.1 X.1.2.1 dX5_threadsThat_4 rfl (lv_at hl 0 rfl) ?_
    refine lv_iconst (v := nI 4) X.1.1 X.1.2.1 dX5_threadsThat_5 (by decide) ?_
    refine sx_icmp_ge X (by decide) (by decide) (tgt := 31) dX5_threadsThat_6 (by decide) (fun h => absurd h (by decide)) (fun _ => ?_)
    refine lv_aload_n X.1.1 X.1.2.1 dX5_threadsThat_9 rfl (lv_at hl 2 rfl) ?_
    refine sx_get X hP in_X5_threadsThat_X5 h1 (by decide) rfl 0 (by decide) lk_X5_threadsThat_fieldLink_RX5_9_RaceWatch_World_states_I rfl dX5_threadsThat_10 ?_
    refine lv_iload_n X.1.1 X.1.2.1 dX5_threadsThat_13 rfl (lv_at hl 0 rfl) ?_
    refine sx_ald X hP h2 (by decide) (1) (by decide) (by decide) dX5_threadsThat_14 ?_
    refine lv_iload_n X.1.1 X.1.2.1 dX5_threadsThat_15 rfl (lv_at hl 3 rfl) ?_
    refine lv_icmp_ne X.1.1 X.1.2.1 (tgt := 25) dX5_threadsThat_16 (by decide) (fun c16_1 => ?_) (fun c16_1 => ?_)
    · refine lv_iinc (v := (nI (2))) (lv' := [(3, .int (nI 2)), (2, .int (nI 0)), (0, rf G 1), (1, .int (x))]) X.1.1 X.1.2.1 dX5_threadsThat_25 hl (k := 0) rfl (by decide) (by decide) rfl (fun ls hl => ?_)
      refine lv_goto (tgt := 4) X.1.1 X.1.2.1 dX5_threadsThat_28 (by decide) ?_
      refine lv_iload_n X.1.1 X.1.2.1 dX5_threadsThat_4 rfl (lv_at hl 0 rfl) ?_
      refine lv_iconst (v := nI 4) X.1.1 X.1.2.1 dX5_threadsThat_5 (by decide) ?_
      refine sx_icmp_ge X (by decide) (by decide) (tgt := 31) dX5_threadsThat_6 (by decide) (fun h => absurd h (by decide)) (fun _ => ?_)
      refine lv_aload_n X.1.1 X.1.2.1 dX5_threadsThat_9 rfl (lv_at hl 2 rfl) ?_
      refine sx_get X hP in_X5_threadsThat_X5 h1 (by decide) rfl 0 (by decide) lk_X5_threadsThat_fieldLink_RX5_9_RaceWatch_World_states_I rfl dX5_threadsThat_10 ?_
      refine lv_iload_n X.1.1 X.1.2.1 dX5_threadsThat_13 rfl (lv_at hl 0 rfl) ?_
      refine sx_ald X hP h2 (by decide) (2) (by decide) (by decide) dX5_threadsThat_14 ?_
      refine lv_iload_n X.1.1 X.1.2.1 dX5_threadsThat_15 rfl (lv_at hl 3 rfl) ?_
      refine lv_icmp_ne X.1.1 X.1.2.1 (tgt := 25) dX5_threadsThat_16 (by decide) (fun c16_2 => ?_) (fun c16_2 => ?_)
      · refine lv_iinc (v := (nI (3))) (lv' := [(3, .int (nI 3)), (2, .int (nI 0)), (0, rf G 1), (1, .int (x))]) X.1.1 X.1.2.1 dX5_threadsThat_25 hl (k := 0) rfl (by decide) (by decide) rfl (fun ls hl => ?_)
        refine lv_goto (tgt := 4) X.1.1 X.1.2.1 dX5_threadsThat_28 (by decide) ?_
        refine lv_iload_n X.1.1 X.1.2.1 dX5_threadsThat_4 rfl (lv_at hl 0 rfl) ?_
        refine lv_iconst (v := nI 4) X.1.1 X.1.2.1 dX5_threadsThat_5 (by decide) ?_
        refine sx_icmp_ge X (by decide) (by decide) (tgt := 31) dX5_threadsThat_6 (by decide) (fun h => absurd h (by decide)) (fun _ => ?_)
        refine lv_aload_n X.1.1 X.1.2.1 dX5_threadsThat_9 rfl (lv_at hl 2 rfl) ?_
        refine sx_get X hP in_X5_threadsThat_X5 h1 (by decide) rfl 0 (by decide) lk_X5_threadsThat_fieldLink_RX5_9_RaceWatch_World_states_I rfl dX5_threadsThat_10 ?_
        refine lv_iload_n X.1.1 X.1.2.1 dX5_threadsThat_13 rfl (lv_at hl 0 rfl) ?_
        refine sx_ald X hP h2 (by decide) (3) (by decide) (by decide) dX5_threadsThat_14 ?_
        refine lv_iload_n X.1.1 X.1.2.1 dX5_threadsThat_15 rfl (lv_at hl 3 rfl) ?_
        refine lv_icmp_ne X.1.1 X.1.2.1 (tgt := 25) dX5_threadsThat_16 (by decide) (fun c16_3 => ?_) (fun c16_3 => ?_)
        · refine lv_iinc (v := (nI (4))) (lv' := [(3, .int (nI 4)), (2, .int (nI 0)), (0, rf G 1), (1, .int (x))]) X.1.1 X.1.2.1 dX5_threadsThat_25 hl (k := 0) rfl (by decide) (by decide) rfl (fun ls hl => ?_)
          refine lv_goto (tgt := 4) X.1.1 X.1.2.1 dX5_threadsThat_28 (by decide) ?_
          refine lv_iload_n X.1.1 X.1.2.1 dX5_threadsThat_4 rfl (lv_at hl 0 rfl) ?_
          refine lv_iconst (v := nI 4) X.1.1 X.1.2.1 dX5_threadsThat_5 (by decide) ?_
          refine sx_icmp_ge X (by decide) (by decide) (tgt := 31) dX5_threadsThat_6 (by decide) (fun _ => ?_) (fun h => absurd h (by decide))
          refine lv_iload_n X.1.1 X.1.2.1 dX5_threadsThat_31 rfl (lv_at hl 1 rfl) ?_
          rw [hQ]
          exact sx_iret X rfl hs rfl hP dX5_threadsThat_32 (⟨rfl, by unfold setF4; rw [if_neg c16, if_neg c16_1, if_neg c16_2, if_neg c16_3]; decide⟩)
        · refine lv_iload_n X.1.1 X.1.2.1 dX5_threadsThat_19 rfl (lv_at hl 1 rfl) ?_
          refine lv_iconst (v := nI 1) X.1.1 X.1.2.1 dX5_threadsThat_20 (by decide) ?_
          refine lv_iload_n X.1.1 X.1.2.1 dX5_threadsThat_21 rfl (lv_at hl 0 rfl) ?_
          refine lv_ishl X.1.1 X.1.2.1 dX5_threadsThat_22 ?_
          refine lv_ior X.1.1 X.1.2.1 dX5_threadsThat_23 ?_
          refine lv_istore_n (lv' := [(2, .int ((nI (0)) ||| ((nI (1)) <<< ((nI (3)) &&& 31)))), (3, .int (nI 3)), (0, rf G 1), (1, .int (x))]) X.1.1 X.1.2.1 dX5_threadsThat_24 rfl hl (by decide) rfl (fun ls hl => ?_)
          refine lv_iinc (v := (nI (4))) (lv' := [(3, .int (nI 4)), (2, .int ((nI (0)) ||| ((nI (1)) <<< ((nI (3)) &&& 31)))), (0, rf G 1), (1, .int (x))]) X.1.1 X.1.2.1 dX5_threadsThat_25 hl (k := 1) rfl (by decide) (by decide) rfl (fun ls hl => ?_)
          refine lv_goto (tgt := 4) X.1.1 X.1.2.1 dX5_threadsThat_28 (by decide) ?_
          refine lv_iload_n X.1.1 X.1.2.1 dX5_threadsThat_4 rfl (lv_at hl 0 rfl) ?_
          refine lv_iconst (v := nI 4) X.1.1 X.1.2.1 dX5_threadsThat_5 (by decide) ?_
          refine sx_icmp_ge X (by decide) (by decide) (tgt := 31) dX5_threadsThat_6 (by decide) (fun _ => ?_) (fun h => absurd h (by decide))
          refine lv_iload_n X.1.1 X.1.2.1 dX5_threadsThat_31 rfl (lv_at hl 1 rfl) ?_
          rw [hQ]
          exact sx_iret X rfl hs rfl hP dX5_threadsThat_32 (⟨rfl, by unfold setF4; rw [if_neg c16, if_neg c16_1, if_neg c16_2, if_pos c16_3]; decide⟩)
      · refine lv_iload_n X.1.1 X.1.2.1 dX5_threadsThat_19 rfl (lv_at hl 1 rfl) ?_
        refine lv_iconst (v := nI 1) X.1.1 X.1.2.1 dX5_threadsThat_20 (by decide) ?_
        refine lv_iload_n X.1.1 X.1.2.1 dX5_threadsThat_21 rfl (lv_at hl 0 rfl) ?_
        refine lv_ishl X.1.1 X.1.2.1 dX5_threadsThat_22 ?_
        refine lv_ior X.1.1 X.1.2.1 dX5_threadsThat_23 ?_
        refine lv_istore_n (lv' := [(2, .int ((nI (0)) ||| ((nI (1)) <<< ((nI (2)) &&& 31)))), (3, .int (nI 2)), (0, rf G 1), (1, .int (x))]) X.1.1 X.1.2.1 dX5_threadsThat_24 rfl hl (by decide) rfl (fun ls hl => ?_)
        refine lv_iinc (v := (nI (3))) (lv' := [(3, .int (nI 3)), (2, .int ((nI (0)) ||| ((nI (1)) <<< ((nI (2)) &&& 31)))), (0, rf G 1), (1, .int (x))]) X.1.1 X.1.2.1 dX5_threadsThat_25 hl (k := 1) rfl (by decide) (by decide) rfl (fun ls hl => ?_)
        refine lv_goto (tgt := 4) X.1.1 X.1.2.1 dX5_threadsThat_28 (by decide) ?_
        refine lv_iload_n X.1.1 X.1.2.1 dX5_threadsThat_4 rfl (lv_at hl 0 rfl) ?_
        refine lv_iconst (v := nI 4) X.1.1 X.1.2.1 dX5_threadsThat_5 (by decide) ?_
        refine sx_icmp_ge X (by decide) (by decide) (tgt := 31) dX5_threadsThat_6 (by decide) (fun h => absurd h (by decide)) (fun _ => ?_)
        refine lv_aload_n X.1.1 X.1.2.1 dX5_threadsThat_9 rfl (lv_at hl 2 rfl) ?_
        refine sx_get X hP in_X5_threadsThat_X5 h1 (by decide) rfl 0 (by decide) lk_X5_threadsThat_fieldLink_RX5_9_RaceWatch_World_states_I rfl dX5_threadsThat_10 ?_
        refine lv_iload_n X.1.1 X.1.2.1 dX5_threadsThat_13 rfl (lv_at hl 0 rfl) ?_
        refine sx_ald X hP h2 (by decide) (3) (by decide) (by decide) dX5_threadsThat_14 ?_
        refine lv_iload_n X.1.1 X.1.2.1 dX5_threadsThat_15 rfl (lv_at hl 3 rfl) ?_
        refine lv_icmp_ne X.1.1 X.1.2.1 (tgt := 25) dX5_threadsThat_16 (by decide) (fun c16_4 => ?_) (fun c16_4 => ?_)
        · refine lv_iinc (v := (nI (4))) (lv' := [(3, .int (nI 4)), (2, .int ((nI (0)) ||| ((nI (1)) <<< ((nI (2)) &&& 31)))), (0, rf G 1), (1, .int (x))]) X.1.1 X.1.2.1 dX5_threadsThat_25 hl (k := 0) rfl (by decide) (by decide) rfl (fun ls hl => ?_)
          refine lv_goto (tgt := 4) X.1.1 X.1.2.1 dX5_threadsThat_28 (by decide) ?_
          refine lv_iload_n X.1.1 X.1.2.1 dX5_threadsThat_4 rfl (lv_at hl 0 rfl) ?_
          refine lv_iconst (v := nI 4) X.1.1 X.1.2.1 dX5_threadsThat_5 (by decide) ?_
          refine sx_icmp_ge X (by decide) (by decide) (tgt := 31) dX5_threadsThat_6 (by decide) (fun _ => ?_) (fun h => absurd h (by decide))
          refine lv_iload_n X.1.1 X.1.2.1 dX5_threadsThat_31 rfl (lv_at hl 1 rfl) ?_
          rw [hQ]
          exact sx_iret X rfl hs rfl hP dX5_threadsThat_32 (⟨rfl, by unfold setF4; rw [if_neg c16, if_neg c16_1, if_pos c16_2, if_neg c16_4]; decide⟩)
        · refine lv_iload_n X.1.1 X.1.2.1 dX5_threadsThat_19 rfl (lv_at hl 1 rfl) ?_
          refine lv_iconst (v := nI 1) X.1.1 X.1.2.1 dX5_threadsThat_20 (by decide) ?_
          refine lv_iload_n X.1.1 X.1.2.1 dX5_threadsThat_21 rfl (lv_at hl 0 rfl) ?_
          refine lv_ishl X.1.1 X.1.2.1 dX5_threadsThat_22 ?_
          refine lv_ior X.1.1 X.1.2.1 dX5_threadsThat_23 ?_
          refine lv_istore_n (lv' := [(2, .int (((nI (0)) ||| ((nI (1)) <<< ((nI (2)) &&& 31))) ||| ((nI (1)) <<< ((nI (3)) &&& 31)))), (3, .int (nI 3)), (0, rf G 1), (1, .int (x))]) X.1.1 X.1.2.1 dX5_threadsThat_24 rfl hl (by decide) rfl (fun ls hl => ?_)
          refine lv_iinc (v := (nI (4))) (lv' := [(3, .int (nI 4)), (2, .int (((nI (0)) ||| ((nI (1)) <<< ((nI (2)) &&& 31))) ||| ((nI (1)) <<< ((nI (3)) &&& 31)))), (0, rf G 1), (1, .int (x))]) X.1.1 X.1.2.1 dX5_threadsThat_25 hl (k := 1) rfl (by decide) (by decide) rfl (fun ls hl => ?_)
          refine lv_goto (tgt := 4) X.1.1 X.1.2.1 dX5_threadsThat_28 (by decide) ?_
          refine lv_iload_n X.1.1 X.1.2.1 dX5_threadsThat_4 rfl (lv_at hl 0 rfl) ?_
          refine lv_iconst (v := nI 4) X.1.1 X.1.2.1 dX5_threadsThat_5 (by decide) ?_
          refine sx_icmp_ge X (by decide) (by decide) (tgt := 31) dX5_threadsThat_6 (by decide) (fun _ => ?_) (fun h => absurd h (by decide))
          refine lv_iload_n X.1.1 X.1.2.1 dX5_threadsThat_31 rfl (lv_at hl 1 rfl) ?_
          rw [hQ]
          exact sx_iret X rfl hs rfl hP dX5_threadsThat_32 (⟨rfl, by unfold setF4; rw [if_neg c16, if_neg c16_1, if_pos c16_2, if_pos c16_4]; decide⟩)
    · refine lv_iload_n X.1.1 X.1.2.1 dX5_threadsThat_19 rfl (lv_at hl 1 rfl) ?_
      refine lv_iconst (v := nI 1) X.1.1 X.1.2.1 dX5_threadsThat_20 (by decide) ?_
      refine lv_iload_n X.1.1 X.1.2.1 dX5_threadsThat_21 rfl (lv_at hl 0 rfl) ?_
      refine lv_ishl X.1.1 X.1.2.1 dX5_threadsThat_22 ?_
      refine lv_ior X.1.1 X.1.2.1 dX5_threadsThat_23 ?_
      refine lv_istore_n (lv' := [(2, .int ((nI (0)) ||| ((nI (1)) <<< ((nI (1)) &&& 31)))), (3, .int (nI 1)), (0, rf G 1), (1, .int (x))]) X.1.1 X.1.2.1 dX5_threadsThat_24 rfl hl (by decide) rfl (fun ls hl => ?_)
      refine lv_iinc (v := (nI (2))) (lv' := [(3, .int (nI 2)), (2, .int ((nI (0)) ||| ((nI (1)) <<< ((nI (1)) &&& 31)))), (0, rf G 1), (1, .int (x))]) X.1.1 X.1.2.1 dX5_threadsThat_25 hl (k := 1) rfl (by decide) (by decide) rfl (fun ls hl => ?_)
      refine lv_goto (tgt := 4) X.1.1 X.1.2.1 dX5_threadsThat_28 (by decide) ?_
      refine lv_iload_n X.1.1 X.1.2.1 dX5_threadsThat_4 rfl (lv_at hl 0 rfl) ?_
      refine lv_iconst (v := nI 4) X.1.1 X.1.2.1 dX5_threadsThat_5 (by decide) ?_
      refine sx_icmp_ge X (by decide) (by decide) (tgt := 31) dX5_threadsThat_6 (by decide) (fun h => absurd h (by decide)) (fun _ => ?_)
      refine lv_aload_n X.1.1 X.1.2.1 dX5_threadsThat_9 rfl (lv_at hl 2 rfl) ?_
      refine sx_get X hP in_X5_threadsThat_X5 h1 (by decide) rfl 0 (by decide) lk_X5_threadsThat_fieldLink_RX5_9_RaceWatch_World_states_I rfl dX5_threadsThat_10 ?_
      refine lv_iload_n X.1.1 X.1.2.1 dX5_threadsThat_13 rfl (lv_at hl 0 rfl) ?_
      refine sx_ald X hP h2 (by decide) (2) (by decide) (by decide) dX5_threadsThat_14 ?_
      refine lv_iload_n X.1.1 X.1.2.1 dX5_threadsThat_15 rfl (lv_at hl 3 rfl) ?_
      refine lv_icmp_ne X.1.1 X.1.2.1 (tgt := 25) dX5_threadsThat_16 (by decide) (fun c16_5 => ?_) (fun c16_5 => ?_)
      · refine lv_iinc (v := (nI (3))) (lv' := [(3, .int (nI 3)), (2, .int ((nI (0)) ||| ((nI (1)) <<< ((nI (1)) &&& 31)))), (0, rf G 1), (1, .int (x))]) X.1.1 X.1.2.1 dX5_threadsThat_25 hl (k := 0) rfl (by decide) (by decide) rfl (fun ls hl => ?_)
        refine lv_goto (tgt := 4) X.1.1 X.1.2.1 dX5_threadsThat_28 (by decide) ?_
        refine lv_iload_n X.1.1 X.1.2.1 dX5_threadsThat_4 rfl (lv_at hl 0 rfl) ?_
        refine lv_iconst (v := nI 4) X.1.1 X.1.2.1 dX5_threadsThat_5 (by decide) ?_
        refine sx_icmp_ge X (by decide) (by decide) (tgt := 31) dX5_threadsThat_6 (by decide) (fun h => absurd h (by decide)) (fun _ => ?_)
        refine lv_aload_n X.1.1 X.1.2.1 dX5_threadsThat_9 rfl (lv_at hl 2 rfl) ?_
        refine sx_get X hP in_X5_threadsThat_X5 h1 (by decide) rfl 0 (by decide) lk_X5_threadsThat_fieldLink_RX5_9_RaceWatch_World_states_I rfl dX5_threadsThat_10 ?_
        refine lv_iload_n X.1.1 X.1.2.1 dX5_threadsThat_13 rfl (lv_at hl 0 rfl) ?_
        refine sx_ald X hP h2 (by decide) (3) (by decide) (by decide) dX5_threadsThat_14 ?_
        refine lv_iload_n X.1.1 X.1.2.1 dX5_threadsThat_15 rfl (lv_at hl 3 rfl) ?_
        refine lv_icmp_ne X.1.1 X.1.2.1 (tgt := 25) dX5_threadsThat_16 (by decide) (fun c16_6 => ?_) (fun c16_6 => ?_)
        · refine lv_iinc (v := (nI (4))) (lv' := [(3, .int (nI 4)), (2, .int ((nI (0)) ||| ((nI (1)) <<< ((nI (1)) &&& 31)))), (0, rf G 1), (1, .int (x))]) X.1.1 X.1.2.1 dX5_threadsThat_25 hl (k := 0) rfl (by decide) (by decide) rfl (fun ls hl => ?_)
          refine lv_goto (tgt := 4) X.1.1 X.1.2.1 dX5_threadsThat_28 (by decide) ?_
          refine lv_iload_n X.1.1 X.1.2.1 dX5_threadsThat_4 rfl (lv_at hl 0 rfl) ?_
          refine lv_iconst (v := nI 4) X.1.1 X.1.2.1 dX5_threadsThat_5 (by decide) ?_
          refine sx_icmp_ge X (by decide) (by decide) (tgt := 31) dX5_threadsThat_6 (by decide) (fun _ => ?_) (fun h => absurd h (by decide))
          refine lv_iload_n X.1.1 X.1.2.1 dX5_threadsThat_31 rfl (lv_at hl 1 rfl) ?_
          rw [hQ]
          exact sx_iret X rfl hs rfl hP dX5_threadsThat_32 (⟨rfl, by unfold setF4; rw [if_neg c16, if_pos c16_1, if_neg c16_5, if_neg c16_6]; decide⟩)
        · refine lv_iload_n X.1.1 X.1.2.1 dX5_threadsThat_19 rfl (lv_at hl 1 rfl) ?_
          refine lv_iconst (v := nI 1) X.1.1 X.1.2.1 dX5_threadsThat_20 (by decide) ?_
          refine lv_iload_n X.1.1 X.1.2.1 dX5_threadsThat_21 rfl (lv_at hl 0 rfl) ?_
          refine lv_ishl X.1.1 X.1.2.1 dX5_threadsThat_22 ?_
          refine lv_ior X.1.1 X.1.2.1 dX5_threadsThat_23 ?_
          refine lv_istore_n (lv' := [(2, .int (((nI (0)) ||| ((nI (1)) <<< ((nI (1)) &&& 31))) ||| ((nI (1)) <<< ((nI (3)) &&& 31)))), (3, .int (nI 3)), (0, rf G 1), (1, .int (x))]) X.1.1 X.1.2.1 dX5_threadsThat_24 rfl hl (by decide) rfl (fun ls hl => ?_)
          refine lv_iinc (v := (nI (4))) (lv' := [(3, .int (nI 4)), (2, .int (((nI (0)) ||| ((nI (1)) <<< ((nI (1)) &&& 31))) ||| ((nI (1)) <<< ((nI (3)) &&& 31)))), (0, rf G 1), (1, .int (x))]) X.1.1 X.1.2.1 dX5_threadsThat_25 hl (k := 1) rfl (by decide) (by decide) rfl (fun ls hl => ?_)
          refine lv_goto (tgt := 4) X.1.1 X.1.2.1 dX5_threadsThat_28 (by decide) ?_
          refine lv_iload_n X.1.1 X.1.2.1 dX5_threadsThat_4 rfl (lv_at hl 0 rfl) ?_
          refine lv_iconst (v := nI 4) X.1.1 X.1.2.1 dX5_threadsThat_5 (by decide) ?_
          refine sx_icmp_ge X (by decide) (by decide) (tgt := 31) dX5_threadsThat_6 (by decide) (fun _ => ?_) (fun h => absurd h (by decide))
          refine lv_iload_n X.1.1 X.1.2.1 dX5_threadsThat_31 rfl (lv_at hl 1 rfl) ?_
          rw [hQ]
          exact sx_iret X rfl hs rfl hP dX5_threadsThat_32 (⟨rfl, by unfold setF4; rw [if_neg c16, if_pos c16_1, if_neg c16_5, if_pos c16_6]; decide⟩)
      · refine lv_iload_n X.1.1 X.1.2.1 dX5_threadsThat_19 rfl (lv_at hl 1 rfl) ?_
        refine lv_iconst (v := nI 1) X.1.1 X.1.2.1 dX5_threadsThat_20 (by decide) ?_
        refine lv_iload_n X.1.1 X.1.2.1 dX5_threadsThat_21 rfl (lv_at hl 0 rfl) ?_
        refine lv_ishl X.1.1 X.1.2.1 dX5_threadsThat_22 ?_
        refine lv_ior X.1.1 X.1.2.1 dX5_threadsThat_23 ?_
        refine lv_istore_n (lv' := [(2, .int (((nI (0)) ||| ((nI (1)) <<< ((nI (1)) &&& 31))) ||| ((nI (1)) <<< ((nI (2)) &&& 31)))), (3, .int (nI 2)), (0, rf G 1), (1, .int (x))]) X.1.1 X.1.2.1 dX5_threadsThat_24 rfl hl (by decide) rfl (fun ls hl => ?_)
        refine lv_iinc (v := (nI (3))) (lv' := [(3, .int (nI 3)), (2, .int (((nI (0)) ||| ((nI (1)) <<< ((nI (1)) &&& 31))) ||| ((nI (1)) <<< ((nI (2)) &&& 31)))), (0, rf G 1), (1, .int (x))]) X.1.1 X.1.2.1 dX5_threadsThat_25 hl (k := 1) rfl (by decide) (by decide) rfl (fun ls hl => ?_)
        refine lv_goto (tgt := 4) X.1.1 X.1.2.1 dX5_threadsThat_28 (by decide) ?_
        refine lv_iload_n X.1.1 X.1.2.1 dX5_threadsThat_4 rfl (lv_at hl 0 rfl) ?_
        refine lv_iconst (v := nI 4) X.1.1 X.1.2.1 dX5_threadsThat_5 (by decide) ?_
        refine sx_icmp_ge X (by decide) (by decide) (tgt := 31) dX5_threadsThat_6 (by decide) (fun h => absurd h (by decide)) (fun _ => ?_)
        refine lv_aload_n X.1.1 X.1.2.1 dX5_threadsThat_9 rfl (lv_at hl 2 rfl) ?_
        refine sx_get X hP in_X5_threadsThat_X5 h1 (by decide) rfl 0 (by decide) lk_X5_threadsThat_fieldLink_RX5_9_RaceWatch_World_states_I rfl dX5_threadsThat_10 ?_
        refine lv_iload_n X.1.1 X.1.2.1 dX5_threadsThat_13 rfl (lv_at hl 0 rfl) ?_
        refine sx_ald X hP h2 (by decide) (3) (by decide) (by decide) dX5_threadsThat_14 ?_
        refine lv_iload_n X.1.1 X.1.2.1 dX5_threadsThat_15 rfl (lv_at hl 3 rfl) ?_
        refine lv_icmp_ne X.1.1 X.1.2.1 (tgt := 25) dX5_threadsThat_16 (by decide) (fun c16_7 => ?_) (fun c16_7 => ?_)
        · refine lv_iinc (v := (nI (4))) (lv' := [(3, .int (nI 4)), (2, .int (((nI (0)) ||| ((nI (1)) <<< ((nI (1)) &&& 31))) ||| ((nI (1)) <<< ((nI (2)) &&& 31)))), (0, rf G 1), (1, .int (x))]) X.1.1 X.1.2.1 dX5_threadsThat_25 hl (k := 0) rfl (by decide) (by decide) rfl (fun ls hl => ?_)
          refine lv_goto (tgt := 4) X.1.1 X.1.2.1 dX5_threadsThat_28 (by decide) ?_
          refine lv_iload_n X.1.1 X.1.2.1 dX5_threadsThat_4 rfl (lv_at hl 0 rfl) ?_
          refine lv_iconst (v := nI 4) X.1.1 X.1.2.1 dX5_threadsThat_5 (by decide) ?_
          refine sx_icmp_ge X (by decide) (by decide) (tgt := 31) dX5_threadsThat_6 (by decide) (fun _ => ?_) (fun h => absurd h (by decide))
          refine lv_iload_n X.1.1 X.1.2.1 dX5_threadsThat_31 rfl (lv_at hl 1 rfl) ?_
          rw [hQ]
          exact sx_iret X rfl hs rfl hP dX5_threadsThat_32 (⟨rfl, by unfold setF4; rw [if_neg c16, if_pos c16_1, if_pos c16_5, if_neg c16_7]; decide⟩)
        · refine lv_iload_n X.1.1 X.1.2.1 dX5_threadsThat_19 rfl (lv_at hl 1 rfl) ?_
          refine lv_iconst (v := nI 1) X.1.1 X.1.2.1 dX5_threadsThat_20 (by decide) ?_
          refine lv_iload_n X.1.1 X.1.2.1 dX5_threadsThat_21 rfl (lv_at hl 0 rfl) ?_
          refine lv_ishl X.1.1 X.1.2.1 dX5_threadsThat_22 ?_
          refine lv_ior X.1.1 X.1.2.1 dX5_threadsThat_23 ?_
          refine lv_istore_n (lv' := [(2, .int ((((nI (0)) ||| ((nI (1)) <<< ((nI (1)) &&& 31))) ||| ((nI (1)) <<< ((nI (2)) &&& 31))) ||| ((nI (1)) <<< ((nI (3)) &&& 31)))), (3, .int (nI 3)), (0, rf G 1), (1, .int (x))]) X.1.1 X.1.2.1 dX5_threadsThat_24 rfl hl (by decide) rfl (fun ls hl => ?_)
          refine lv_iinc (v := (nI (4))) (lv' := [(3, .int (nI 4)), (2, .int ((((nI (0)) ||| ((nI (1)) <<< ((nI (1)) &&& 31))) ||| ((nI (1)) <<< ((nI (2)) &&& 31))) ||| ((nI (1)) <<< ((nI (3)) &&& 31)))), (0, rf G 1), (1, .int (x))]) X.1.1 X.1.2.1 dX5_threadsThat_25 hl (k := 1) rfl (by decide) (by decide) rfl (fun ls hl => ?_)
          refine lv_goto (tgt := 4) X.1.1 X.1.2.1 dX5_threadsThat_28 (by decide) ?_
          refine lv_iload_n X.1.1 X.1.2.1 dX5_threadsThat_4 rfl (lv_at hl 0 rfl) ?_
          refine lv_iconst (v := nI 4) X.1.1 X.1.2.1 dX5_threadsThat_5 (by decide) ?_
          refine sx_icmp_ge X (by decide) (by decide) (tgt := 31) dX5_threadsThat_6 (by decide) (fun _ => ?_) (fun h => absurd h (by decide))
          refine lv_iload_n X.1.1 X.1.2.1 dX5_threadsThat_31 rfl (lv_at hl 1 rfl) ?_
          rw [hQ]
          exact sx_iret X rfl hs rfl hP dX5_threadsThat_32 (⟨rfl, by unfold setF4; rw [if_neg c16, if_pos c16_1, if_pos c16_5, if_pos c16_7]; decide⟩)
  · refine lv_iload_n X.1.1 X.1.2.1 dX5_threadsThat_19 rfl (lv_at hl 1 rfl) ?_
    refine lv_iconst (v := nI 1) X.1.1 X.1.2.1 dX5_threadsThat_20 (by decide) ?_
    refine lv_iload_n X.1.1 X.1.2.1 dX5_threadsThat_21 rfl (lv_at hl 0 rfl) ?_
    refine lv_ishl X.1.1 X.1.2.1 dX5_threadsThat_22 ?_
    refine lv_ior X.1.1 X.1.2.1 dX5_threadsThat_23 ?_
    refine lv_istore_n (lv' := [(2, .int ((nI (0)) ||| ((nI (1)) <<< ((nI (0)) &&& 31)))), (3, .int (nI 0)), (0, rf G 1), (1, .int (x))]) X.1.1 X.1.2.1 dX5_threadsThat_24 rfl hl (by decide) rfl (fun ls hl => ?_)
    refine lv_iinc (v := (nI (1))) (lv' := [(3, .int (nI 1)), (2, .int ((nI (0)) ||| ((nI (1)) <<< ((nI (0)) &&& 31)))), (0, rf G 1), (1, .int (x))]) X.1.1 X.1.2.1 dX5_threadsThat_25 hl (k := 1) rfl (by decide) (by decide) rfl (fun ls hl => ?_)
    refine lv_goto (tgt := 4) X.1.1 X.1.2.1 dX5_threadsThat_28 (by decide) ?_
    refine lv_iload_n X.1.1 X.1.2.1 dX5_threadsThat_4 rfl (lv_at hl 0 rfl) ?_
    refine lv_iconst (v := nI 4) X.1.1 X.1.2.1 dX5_threadsThat_5 (by decide) ?_
    refine sx_icmp_ge X (by decide) (by decide) (tgt := 31) dX5_threadsThat_6 (by decide) (fun h => absurd h (by decide)) (fun _ => ?_)
    refine lv_aload_n X.1.1 X.1.2.1 dX5_threadsThat_9 rfl (lv_at hl 2 rfl) ?_
    refine sx_get X hP in_X5_threadsThat_X5 h1 (by decide) rfl 0 (by decide) lk_X5_threadsThat_fieldLink_RX5_9_RaceWatch_World_states_I rfl dX5_threadsThat_10 ?_
    refine lv_iload_n X.1.1 X.1.2.1 dX5_threadsThat_13 rfl (lv_at hl 0 rfl) ?_
    refine sx_ald X hP h2 (by decide) (1) (by decide) (by decide) dX5_threadsThat_14 ?_
    refine lv_iload_n X.1.1 X.1.2.1 dX5_threadsThat_15 rfl (lv_at hl 3 rfl) ?_
    refine lv_icmp_ne X.1.1 X.1.2.1 (tgt := 25) dX5_threadsThat_16 (by decide) (fun c16_8 => ?_) (fun c16_8 => ?_)
    · refine lv_iinc (v := (nI (2))) (lv' := [(3, .int (nI 2)), (2, .int ((nI (0)) ||| ((nI (1)) <<< ((nI (0)) &&& 31)))), (0, rf G 1), (1, .int (x))]) X.1.1 X.1.2.1 dX5_threadsThat_25 hl (k := 0) rfl (by decide) (by decide) rfl (fun ls hl => ?_)
      refine lv_goto (tgt := 4) X.1.1 X.1.2.1 dX5_threadsThat_28 (by decide) ?_
      refine lv_iload_n X.1.1 X.1.2.1 dX5_threadsThat_4 rfl (lv_at hl 0 rfl) ?_
      refine lv_iconst (v := nI 4) X.1.1 X.1.2.1 dX5_threadsThat_5 (by decide) ?_
      refine sx_icmp_ge X (by decide) (by decide) (tgt := 31) dX5_threadsThat_6 (by decide) (fun h => absurd h (by decide)) (fun _ => ?_)
      refine lv_aload_n X.1.1 X.1.2.1 dX5_threadsThat_9 rfl (lv_at hl 2 rfl) ?_
      refine sx_get X hP in_X5_threadsThat_X5 h1 (by decide) rfl 0 (by decide) lk_X5_threadsThat_fieldLink_RX5_9_RaceWatch_World_states_I rfl dX5_threadsThat_10 ?_
      refine lv_iload_n X.1.1 X.1.2.1 dX5_threadsThat_13 rfl (lv_at hl 0 rfl) ?_
      refine sx_ald X hP h2 (by decide) (2) (by decide) (by decide) dX5_threadsThat_14 ?_
      refine lv_iload_n X.1.1 X.1.2.1 dX5_threadsThat_15 rfl (lv_at hl 3 rfl) ?_
      refine lv_icmp_ne X.1.1 X.1.2.1 (tgt := 25) dX5_threadsThat_16 (by decide) (fun c16_9 => ?_) (fun c16_9 => ?_)
      · refine lv_iinc (v := (nI (3))) (lv' := [(3, .int (nI 3)), (2, .int ((nI (0)) ||| ((nI (1)) <<< ((nI (0)) &&& 31)))), (0, rf G 1), (1, .int (x))]) X.1.1 X.1.2.1 dX5_threadsThat_25 hl (k := 0) rfl (by decide) (by decide) rfl (fun ls hl => ?_)
        refine lv_goto (tgt := 4) X.1.1 X.1.2.1 dX5_threadsThat_28 (by decide) ?_
        refine lv_iload_n X.1.1 X.1.2.1 dX5_threadsThat_4 rfl (lv_at hl 0 rfl) ?_
        refine lv_iconst (v := nI 4) X.1.1 X.1.2.1 dX5_threadsThat_5 (by decide) ?_
        refine sx_icmp_ge X (by decide) (by decide) (tgt := 31) dX5_threadsThat_6 (by decide) (fun h => absurd h (by decide)) (fun _ => ?_)
        refine lv_aload_n X.1.1 X.1.2.1 dX5_threadsThat_9 rfl (lv_at hl 2 rfl) ?_
        refine sx_get X hP in_X5_threadsThat_X5 h1 (by decide) rfl 0 (by decide) lk_X5_threadsThat_fieldLink_RX5_9_RaceWatch_World_states_I rfl dX5_threadsThat_10 ?_
        refine lv_iload_n X.1.1 X.1.2.1 dX5_threadsThat_13 rfl (lv_at hl 0 rfl) ?_
        refine sx_ald X hP h2 (by decide) (3) (by decide) (by decide) dX5_threadsThat_14 ?_
        refine lv_iload_n X.1.1 X.1.2.1 dX5_threadsThat_15 rfl (lv_at hl 3 rfl) ?_
        refine lv_icmp_ne X.1.1 X.1.2.1 (tgt := 25) dX5_threadsThat_16 (by decide) (fun c16_10 => ?_) (fun c16_10 => ?_)
        · refine lv_iinc (v := (nI (4))) (lv' := [(3, .int (nI 4)), (2, .int ((nI (0)) ||| ((nI (1)) <<< ((nI (0)) &&& 31)))), (0, rf G 1), (1, .int (x))]) X.1.1 X.1.2.1 dX5_threadsThat_25 hl (k := 0) rfl (by decide) (by decide) rfl (fun ls hl => ?_)
          refine lv_goto (tgt := 4) X.1.1 X.1.2.1 dX5_threadsThat_28 (by decide) ?_
          refine lv_iload_n X.1.1 X.1.2.1 dX5_threadsThat_4 rfl (lv_at hl 0 rfl) ?_
          refine lv_iconst (v := nI 4) X.1.1 X.1.2.1 dX5_threadsThat_5 (by decide) ?_
          refine sx_icmp_ge X (by decide) (by decide) (tgt := 31) dX5_threadsThat_6 (by decide) (fun _ => ?_) (fun h => absurd h (by decide))
          refine lv_iload_n X.1.1 X.1.2.1 dX5_threadsThat_31 rfl (lv_at hl 1 rfl) ?_
          rw [hQ]
          exact sx_iret X rfl hs rfl hP dX5_threadsThat_32 (⟨rfl, by unfold setF4; rw [if_pos c16, if_neg c16_8, if_neg c16_9, if_neg c16_10]; decide⟩)
        · refine lv_iload_n X.1.1 X.1.2.1 dX5_threadsThat_19 rfl (lv_at hl 1 rfl) ?_
          refine lv_iconst (v := nI 1) X.1.1 X.1.2.1 dX5_threadsThat_20 (by decide) ?_
          refine lv_iload_n X.1.1 X.1.2.1 dX5_threadsThat_21 rfl (lv_at hl 0 rfl) ?_
          refine lv_ishl X.1.1 X.1.2.1 dX5_threadsThat_22 ?_
          refine lv_ior X.1.1 X.1.2.1 dX5_threadsThat_23 ?_
          refine lv_istore_n (lv' := [(2, .int (((nI (0)) ||| ((nI (1)) <<< ((nI (0)) &&& 31))) ||| ((nI (1)) <<< ((nI (3)) &&& 31)))), (3, .int (nI 3)), (0, rf G 1), (1, .int (x))]) X.1.1 X.1.2.1 dX5_threadsThat_24 rfl hl (by decide) rfl (fun ls hl => ?_)
          refine lv_iinc (v := (nI (4))) (lv' := [(3, .int (nI 4)), (2, .int (((nI (0)) ||| ((nI (1)) <<< ((nI (0)) &&& 31))) ||| ((nI (1)) <<< ((nI (3)) &&& 31)))), (0, rf G 1), (1, .int (x))]) X.1.1 X.1.2.1 dX5_threadsThat_25 hl (k := 1) rfl (by decide) (by decide) rfl (fun ls hl => ?_)
          refine lv_goto (tgt := 4) X.1.1 X.1.2.1 dX5_threadsThat_28 (by decide) ?_
          refine lv_iload_n X.1.1 X.1.2.1 dX5_threadsThat_4 rfl (lv_at hl 0 rfl) ?_
          refine lv_iconst (v := nI 4) X.1.1 X.1.2.1 dX5_threadsThat_5 (by decide) ?_
          refine sx_icmp_ge X (by decide) (by decide) (tgt := 31) dX5_threadsThat_6 (by decide) (fun _ => ?_) (fun h => absurd h (by decide))
          refine lv_iload_n X.1.1 X.1.2.1 dX5_threadsThat_31 rfl (lv_at hl 1 rfl) ?_
          rw [hQ]
          exact sx_iret X rfl hs rfl hP dX5_threadsThat_32 (⟨rfl, by unfold setF4; rw [if_pos c16, if_neg c16_8, if_neg c16_9, if_pos c16_10]; decide⟩)
      · refine lv_iload_n X.1.1 X.1.2.1 dX5_threadsThat_19 rfl (lv_at hl 1 rfl) ?_
        refine lv_iconst (v := nI 1) X.1.1 X.1.2.1 dX5_threadsThat_20 (by decide) ?_
        refine lv_iload_n X.1.1 X.1.2.1 dX5_threadsThat_21 rfl (lv_at hl 0 rfl) ?_
        refine lv_ishl X.1.1 X.1.2.1 dX5_threadsThat_22 ?_
        refine lv_ior X.1.1 X.1.2.1 dX5_threadsThat_23 ?_
        refine lv_istore_n (lv' := [(2, .int (((nI (0)) ||| ((nI (1)) <<< ((nI (0)) &&& 31))) ||| ((nI (1)) <<< ((nI (2)) &&& 31)))), (3, .int (nI 2)), (0, rf G 1), (1, .int (x))]) X.1.1 X.1.2.1 dX5_threadsThat_24 rfl hl (by decide) rfl (fun ls hl => ?_)
        refine lv_iinc (v := (nI (3))) (lv' := [(3, .int (nI 3)), (2, .int (((nI (0)) ||| ((nI (1)) <<< ((nI (0)) &&& 31))) ||| ((nI (1)) <<< ((nI (2)) &&& 31)))), (0, rf G 1), (1, .int (x))]) X.1.1 X.1.2.1 dX5_threadsThat_25 hl (k := 1) rfl (by decide) (by decide) rfl (fun ls hl => ?_)
        refine lv_goto (tgt := 4) X.1.1 X.1.2.1 dX5_threadsThat_28 (by decide) ?_
        refine lv_iload_n X.1.1 X.1.2.1 dX5_threadsThat_4 rfl (lv_at hl 0 rfl) ?_
        refine lv_iconst (v := nI 4) X.1.1 X.1.2.1 dX5_threadsThat_5 (by decide) ?_
        refine sx_icmp_ge X (by decide) (by decide) (tgt := 31) dX5_threadsThat_6 (by decide) (fun h => absurd h (by decide)) (fun _ => ?_)
        refine lv_aload_n X.1.1 X.1.2.1 dX5_threadsThat_9 rfl (lv_at hl 2 rfl) ?_
        refine sx_get X hP in_X5_threadsThat_X5 h1 (by decide) rfl 0 (by decide) lk_X5_threadsThat_fieldLink_RX5_9_RaceWatch_World_states_I rfl dX5_threadsThat_10 ?_
        refine lv_iload_n X.1.1 X.1.2.1 dX5_threadsThat_13 rfl (lv_at hl 0 rfl) ?_
        refine sx_ald X hP h2 (by decide) (3) (by decide) (by decide) dX5_threadsThat_14 ?_
        refine lv_iload_n X.1.1 X.1.2.1 dX5_threadsThat_15 rfl (lv_at hl 3 rfl) ?_
        refine lv_icmp_ne X.1.1 X.1.2.1 (tgt := 25) dX5_threadsThat_16 (by decide) (fun c16_11 => ?_) (fun c16_11 => ?_)
        · refine lv_iinc (v := (nI (4))) (lv' := [(3, .int (nI 4)), (2, .int (((nI (0)) ||| ((nI (1)) <<< ((nI (0)) &&& 31))) ||| ((nI (1)) <<< ((nI (2)) &&& 31)))), (0, rf G 1), (1, .int (x))]) X.1.1 X.1.2.1 dX5_threadsThat_25 hl (k := 0) rfl (by decide) (by decide) rfl (fun ls hl => ?_)
          refine lv_goto (tgt := 4) X.1.1 X.1.2.1 dX5_threadsThat_28 (by decide) ?_
          refine lv_iload_n X.1.1 X.1.2.1 dX5_threadsThat_4 rfl (lv_at hl 0 rfl) ?_
          refine lv_iconst (v := nI 4) X.1.1 X.1.2.1 dX5_threadsThat_5 (by decide) ?_
          refine sx_icmp_ge X (by decide) (by decide) (tgt := 31) dX5_threadsThat_6 (by decide) (fun _ => ?_) (fun h => absurd h (by decide))
          refine lv_iload_n X.1.1 X.1.2.1 dX5_threadsThat_31 rfl (lv_at hl 1 rfl) ?_
          rw [hQ]
          exact sx_iret X rfl hs rfl hP dX5_threadsThat_32 (⟨rfl, by unfold setF4; rw [if_pos c16, if_neg c16_8, if_pos c16_9, if_neg c16_11]; decide⟩)
        · refine lv_iload_n X.1.1 X.1.2.1 dX5_threadsThat_19 rfl (lv_at hl 1 rfl) ?_
          refine lv_iconst (v := nI 1) X.1.1 X.1.2.1 dX5_threadsThat_20 (by decide) ?_
          refine lv_iload_n X.1.1 X.1.2.1 dX5_threadsThat_21 rfl (lv_at hl 0 rfl) ?_
          refine lv_ishl X.1.1 X.1.2.1 dX5_threadsThat_22 ?_
          refine lv_ior X.1.1 X.1.2.1 dX5_threadsThat_23 ?_
          refine lv_istore_n (lv' := [(2, .int ((((nI (0)) ||| ((nI (1)) <<< ((nI (0)) &&& 31))) ||| ((nI (1)) <<< ((nI (2)) &&& 31))) ||| ((nI (1)) <<< ((nI (3)) &&& 31)))), (3, .int (nI 3)), (0, rf G 1), (1, .int (x))]) X.1.1 X.1.2.1 dX5_threadsThat_24 rfl hl (by decide) rfl (fun ls hl => ?_)
          refine lv_iinc (v := (nI (4))) (lv' := [(3, .int (nI 4)), (2, .int ((((nI (0)) ||| ((nI (1)) <<< ((nI (0)) &&& 31))) ||| ((nI (1)) <<< ((nI (2)) &&& 31))) ||| ((nI (1)) <<< ((nI (3)) &&& 31)))), (0, rf G 1), (1, .int (x))]) X.1.1 X.1.2.1 dX5_threadsThat_25 hl (k := 1) rfl (by decide) (by decide) rfl (fun ls hl => ?_)
          refine lv_goto (tgt := 4) X.1.1 X.1.2.1 dX5_threadsThat_28 (by decide) ?_
          refine lv_iload_n X.1.1 X.1.2.1 dX5_threadsThat_4 rfl (lv_at hl 0 rfl) ?_
          refine lv_iconst (v := nI 4) X.1.1 X.1.2.1 dX5_threadsThat_5 (by decide) ?_
          refine sx_icmp_ge X (by decide) (by decide) (tgt := 31) dX5_threadsThat_6 (by decide) (fun _ => ?_) (fun h => absurd h (by decide))
          refine lv_iload_n X.1.1 X.1.2.1 dX5_threadsThat_31 rfl (lv_at hl 1 rfl) ?_
          rw [hQ]
          exact sx_iret X rfl hs rfl hP dX5_threadsThat_32 (⟨rfl, by unfold setF4; rw [if_pos c16, if_neg c16_8, if_pos c16_9, if_pos c16_11]; decide⟩)
    · refine lv_iload_n X.1.1 X.1.2.1 dX5_threadsThat_19 rfl (lv_at hl 1 rfl) ?_
      refine lv_iconst (v := nI 1) X.1.1 X.1.2.1 dX5_threadsThat_20 (by decide) ?_
      refine lv_iload_n X.1.1 X.1.2.1 dX5_threadsThat_21 rfl (lv_at hl 0 rfl) ?_
      refine lv_ishl X.1.1 X.1.2.1 dX5_threadsThat_22 ?_
      refine lv_ior X.1.1 X.1.2.1 dX5_threadsThat_23 ?_
      refine lv_istore_n (lv' := [(2, .int (((nI (0)) ||| ((nI (1)) <<< ((nI (0)) &&& 31))) ||| ((nI (1)) <<< ((nI (1)) &&& 31)))), (3, .int (nI 1)), (0, rf G 1), (1, .int (x))]) X.1.1 X.1.2.1 dX5_threadsThat_24 rfl hl (by decide) rfl (fun ls hl => ?_)
      refine lv_iinc (v := (nI (2))) (lv' := [(3, .int (nI 2)), (2, .int (((nI (0)) ||| ((nI (1)) <<< ((nI (0)) &&& 31))) ||| ((nI (1)) <<< ((nI (1)) &&& 31)))), (0, rf G 1), (1, .int (x))]) X.1.1 X.1.2.1 dX5_threadsThat_25 hl (k := 1) rfl (by decide) (by decide) rfl (fun ls hl => ?_)
      refine lv_goto (tgt := 4) X.1.1 X.1.2.1 dX5_threadsThat_28 (by decide) ?_
      refine lv_iload_n X.1.1 X.1.2.1 dX5_threadsThat_4 rfl (lv_at hl 0 rfl) ?_
      refine lv_iconst (v := nI 4) X.1.1 X.1.2.1 dX5_threadsThat_5 (by decide) ?_
      refine sx_icmp_ge X (by decide) (by decide) (tgt := 31) dX5_threadsThat_6 (by decide) (fun h => absurd h (by decide)) (fun _ => ?_)
      refine lv_aload_n X.1.1 X.1.2.1 dX5_threadsThat_9 rfl (lv_at hl 2 rfl) ?_
      refine sx_get X hP in_X5_threadsThat_X5 h1 (by decide) rfl 0 (by decide) lk_X5_threadsThat_fieldLink_RX5_9_RaceWatch_World_states_I rfl dX5_threadsThat_10 ?_
      refine lv_iload_n X.1.1 X.1.2.1 dX5_threadsThat_13 rfl (lv_at hl 0 rfl) ?_
      refine sx_ald X hP h2 (by decide) (2) (by decide) (by decide) dX5_threadsThat_14 ?_
      refine lv_iload_n X.1.1 X.1.2.1 dX5_threadsThat_15 rfl (lv_at hl 3 rfl) ?_
      refine lv_icmp_ne X.1.1 X.1.2.1 (tgt := 25) dX5_threadsThat_16 (by decide) (fun c16_12 => ?_) (fun c16_12 => ?_)
      · refine lv_iinc (v := (nI (3))) (lv' := [(3, .int (nI 3)), (2, .int (((nI (0)) ||| ((nI (1)) <<< ((nI (0)) &&& 31))) ||| ((nI (1)) <<< ((nI (1)) &&& 31)))), (0, rf G 1), (1, .int (x))]) X.1.1 X.1.2.1 dX5_threadsThat_25 hl (k := 0) rfl (by decide) (by decide) rfl (fun ls hl => ?_)
        refine lv_goto (tgt := 4) X.1.1 X.1.2.1 dX5_threadsThat_28 (by decide) ?_
        refine lv_iload_n X.1.1 X.1.2.1 dX5_threadsThat_4 rfl (lv_at hl 0 rfl) ?_
        refine lv_iconst (v := nI 4) X.1.1 X.1.2.1 dX5_threadsThat_5 (by decide) ?_
        refine sx_icmp_ge X (by decide) (by decide) (tgt := 31) dX5_threadsThat_6 (by decide) (fun h => absurd h (by decide)) (fun _ => ?_)
        refine lv_aload_n X.1.1 X.1.2.1 dX5_threadsThat_9 rfl (lv_at hl 2 rfl) ?_
        refine sx_get X hP in_X5_threadsThat_X5 h1 (by decide) rfl 0 (by decide) lk_X5_threadsThat_fieldLink_RX5_9_RaceWatch_World_states_I rfl dX5_threadsThat_10 ?_
        refine lv_iload_n X.1.1 X.1.2.1 dX5_threadsThat_13 rfl (lv_at hl 0 rfl) ?_
        refine sx_ald X hP h2 (by decide) (3) (by decide) (by decide) dX5_threadsThat_14 ?_
        refine lv_iload_n X.1.1 X.1.2.1 dX5_threadsThat_15 rfl (lv_at hl 3 rfl) ?_
        refine lv_icmp_ne X.1.1 X.1.2.1 (tgt := 25) dX5_threadsThat_16 (by decide) (fun c16_13 => ?_) (fun c16_13 => ?_)
        · refine lv_iinc (v := (nI (4))) (lv' := [(3, .int (nI 4)), (2, .int (((nI (0)) ||| ((nI (1)) <<< ((nI (0)) &&& 31))) ||| ((nI (1)) <<< ((nI (1)) &&& 31)))), (0, rf G 1), (1, .int (x))]) X.1.1 X.1.2.1 dX5_threadsThat_25 hl (k := 0) rfl (by decide) (by decide) rfl (fun ls hl => ?_)
          refine lv_goto (tgt := 4) X.1.1 X.1.2.1 dX5_threadsThat_28 (by decide) ?_
          refine lv_iload_n X.1.1 X.1.2.1 dX5_threadsThat_4 rfl (lv_at hl 0 rfl) ?_
          refine lv_iconst (v := nI 4) X.1.1 X.1.2.1 dX5_threadsThat_5 (by decide) ?_
          refine sx_icmp_ge X (by decide) (by decide) (tgt := 31) dX5_threadsThat_6 (by decide) (fun _ => ?_) (fun h => absurd h (by decide))
          refine lv_iload_n X.1.1 X.1.2.1 dX5_threadsThat_31 rfl (lv_at hl 1 rfl) ?_
          rw [hQ]
          exact sx_iret X rfl hs rfl hP dX5_threadsThat_32 (⟨rfl, by unfold setF4; rw [if_pos c16, if_pos c16_8, if_neg c16_12, if_neg c16_13]; decide⟩)
        · refine lv_iload_n X.1.1 X.1.2.1 dX5_threadsThat_19 rfl (lv_at hl 1 rfl) ?_
          refine lv_iconst (v := nI 1) X.1.1 X.1.2.1 dX5_threadsThat_20 (by decide) ?_
          refine lv_iload_n X.1.1 X.1.2.1 dX5_threadsThat_21 rfl (lv_at hl 0 rfl) ?_
          refine lv_ishl X.1.1 X.1.2.1 dX5_threadsThat_22 ?_
          refine lv_ior X.1.1 X.1.2.1 dX5_threadsThat_23 ?_
          refine lv_istore_n (lv' := [(2, .int ((((nI (0)) ||| ((nI (1)) <<< ((nI (0)) &&& 31))) ||| ((nI (1)) <<< ((nI (1)) &&& 31))) ||| ((nI (1)) <<< ((nI (3)) &&& 31)))), (3, .int (nI 3)), (0, rf G 1), (1, .int (x))]) X.1.1 X.1.2.1 dX5_threadsThat_24 rfl hl (by decide) rfl (fun ls hl => ?_)
          refine lv_iinc (v := (nI (4))) (lv' := [(3, .int (nI 4)), (2, .int ((((nI (0)) ||| ((nI (1)) <<< ((nI (0)) &&& 31))) ||| ((nI (1)) <<< ((nI (1)) &&& 31))) ||| ((nI (1)) <<< ((nI (3)) &&& 31)))), (0, rf G 1), (1, .int (x))]) X.1.1 X.1.2.1 dX5_threadsThat_25 hl (k := 1) rfl (by decide) (by decide) rfl (fun ls hl => ?_)
          refine lv_goto (tgt := 4) X.1.1 X.1.2.1 dX5_threadsThat_28 (by decide) ?_
          refine lv_iload_n X.1.1 X.1.2.1 dX5_threadsThat_4 rfl (lv_at hl 0 rfl) ?_
          refine lv_iconst (v := nI 4) X.1.1 X.1.2.1 dX5_threadsThat_5 (by decide) ?_
          refine sx_icmp_ge X (by decide) (by decide) (tgt := 31) dX5_threadsThat_6 (by decide) (fun _ => ?_) (fun h => absurd h (by decide))
          refine lv_iload_n X.1.1 X.1.2.1 dX5_threadsThat_31 rfl (lv_at hl 1 rfl) ?_
          rw [hQ]
          exact sx_iret X rfl hs rfl hP dX5_threadsThat_32 (⟨rfl, by unfold setF4; rw [if_pos c16, if_pos c16_8, if_neg c16_12, if_pos c16_13]; decide⟩)
      · refine lv_iload_n X.1.1 X.1.2.1 dX5_threadsThat_19 rfl (lv_at hl 1 rfl) ?_
        refine lv_iconst (v := nI 1) X.1.1 X.1.2.1 dX5_threadsThat_20 (by decide) ?_
        refine lv_iload_n X.1.1 X.1.2.1 dX5_threadsThat_21 rfl (lv_at hl 0 rfl) ?_
        refine lv_ishl X.1.1 X.1.2.1 dX5_threadsThat_22 ?_
        refine lv_ior X.1.1 X.1.2.1 dX5_threadsThat_23 ?_
        refine lv_istore_n (lv' := [(2, .int ((((nI (0)) ||| ((nI (1)) <<< ((nI (0)) &&& 31))) ||| ((nI (1)) <<< ((nI (1)) &&& 31))) ||| ((nI (1)) <<< ((nI (2)) &&& 31)))), (3, .int (nI 2)), (0, rf G 1), (1, .int (x))]) X.1.1 X.1.2.1 dX5_threadsThat_24 rfl hl (by decide) rfl (fun ls hl => ?_)
        refine lv_iinc (v := (nI (3))) (lv' := [(3, .int (nI 3)), (2, .int ((((nI (0)) ||| ((nI (1)) <<< ((nI (0)) &&& 31))) ||| ((nI (1)) <<< ((nI (1)) &&& 31))) ||| ((nI (1)) <<< ((nI (2)) &&& 31)))), (0, rf G 1), (1, .int (x))]) X.1.1 X.1.2.1 dX5_threadsThat_25 hl (k := 1) rfl (by decide) (by decide) rfl (fun ls hl => ?_)
        refine lv_goto (tgt := 4) X.1.1 X.1.2.1 dX5_threadsThat_28 (by decide) ?_
        refine lv_iload_n X.1.1 X.1.2.1 dX5_threadsThat_4 rfl (lv_at hl 0 rfl) ?_
        refine lv_iconst (v := nI 4) X.1.1 X.1.2.1 dX5_threadsThat_5 (by decide) ?_
        refine sx_icmp_ge X (by decide) (by decide) (tgt := 31) dX5_threadsThat_6 (by decide) (fun h => absurd h (by decide)) (fun _ => ?_)
        refine lv_aload_n X.1.1 X.1.2.1 dX5_threadsThat_9 rfl (lv_at hl 2 rfl) ?_
        refine sx_get X hP in_X5_threadsThat_X5 h1 (by decide) rfl 0 (by decide) lk_X5_threadsThat_fieldLink_RX5_9_RaceWatch_World_states_I rfl dX5_threadsThat_10 ?_
        refine lv_iload_n X.1.1 X.1.2.1 dX5_threadsThat_13 rfl (lv_at hl 0 rfl) ?_
        refine sx_ald X hP h2 (by decide) (3) (by decide) (by decide) dX5_threadsThat_14 ?_
        refine lv_iload_n X.1.1 X.1.2.1 dX5_threadsThat_15 rfl (lv_at hl 3 rfl) ?_
        refine lv_icmp_ne X.1.1 X.1.2.1 (tgt := 25) dX5_threadsThat_16 (by decide) (fun c16_14 => ?_) (fun c16_14 => ?_)
        · refine lv_iinc (v := (nI (4))) (lv' := [(3, .int (nI 4)), (2, .int ((((nI (0)) ||| ((nI (1)) <<< ((nI (0)) &&& 31))) ||| ((nI (1)) <<< ((nI (1)) &&& 31))) ||| ((nI (1)) <<< ((nI (2)) &&& 31)))), (0, rf G 1), (1, .int (x))]) X.1.1 X.1.2.1 dX5_threadsThat_25 hl (k := 0) rfl (by decide) (by decide) rfl (fun ls hl => ?_)
          refine lv_goto (tgt := 4) X.1.1 X.1.2.1 dX5_threadsThat_28 (by decide) ?_
          refine lv_iload_n X.1.1 X.1.2.1 dX5_threadsThat_4 rfl (lv_at hl 0 rfl) ?_
          refine lv_iconst (v := nI 4) X.1.1 X.1.2.1 dX5_threadsThat_5 (by decide) ?_
          refine sx_icmp_ge X (by decide) (by decide) (tgt := 31) dX5_threadsThat_6 (by decide) (fun _ => ?_) (fun h => absurd h (by decide))
          refine lv_iload_n X.1.1 X.1.2.1 dX5_threadsThat_31 rfl (lv_at hl 1 rfl) ?_
          rw [hQ]
          exact sx_iret X rfl hs rfl hP dX5_threadsThat_32 (⟨rfl, by unfold setF4; rw [if_pos c16, if_pos c16_8, if_pos c16_12, if_neg c16_14]; decide⟩)
        · refine lv_iload_n X.1.1 X.1.2.1 dX5_threadsThat_19 rfl (lv_at hl 1 rfl) ?_
          refine lv_iconst (v := nI 1) X.1.1 X.1.2.1 dX5_threadsThat_20 (by decide) ?_
          refine lv_iload_n X.1.1 X.1.2.1 dX5_threadsThat_21 rfl (lv_at hl 0 rfl) ?_
          refine lv_ishl X.1.1 X.1.2.1 dX5_threadsThat_22 ?_
          refine lv_ior X.1.1 X.1.2.1 dX5_threadsThat_23 ?_
          refine lv_istore_n (lv' := [(2, .int (((((nI (0)) ||| ((nI (1)) <<< ((nI (0)) &&& 31))) ||| ((nI (1)) <<< ((nI (1)) &&& 31))) ||| ((nI (1)) <<< ((nI (2)) &&& 31))) ||| ((nI (1)) <<< ((nI (3)) &&& 31)))), (3, .int (nI 3)), (0, rf G 1), (1, .int (x))]) X.1.1 X.1.2.1 dX5_threadsThat_24 rfl hl (by decide) rfl (fun ls hl => ?_)
          refine lv_iinc (v := (nI (4))) (lv' := [(3, .int (nI 4)), (2, .int (((((nI (0)) ||| ((nI (1)) <<< ((nI (0)) &&& 31))) ||| ((nI (1)) <<< ((nI (1)) &&& 31))) ||| ((nI (1)) <<< ((nI (2)) &&& 31))) ||| ((nI (1)) <<< ((nI (3)) &&& 31)))), (0, rf G 1), (1, .int (x))]) X.1.1 X.1.2.1 dX5_threadsThat_25 hl (k := 1) rfl (by decide) (by decide) rfl (fun ls hl => ?_)
          refine lv_goto (tgt := 4) X.1.1 X.1.2.1 dX5_threadsThat_28 (by decide) ?_
          refine lv_iload_n X.1.1 X.1.2.1 dX5_threadsThat_4 rfl (lv_at hl 0 rfl) ?_
          refine lv_iconst (v := nI 4) X.1.1 X.1.2.1 dX5_threadsThat_5 (by decide) ?_
          refine sx_icmp_ge X (by decide) (by decide) (tgt := 31) dX5_threadsThat_6 (by decide) (fun _ => ?_) (fun h => absurd h (by decide))
          refine lv_iload_n X.1.1 X.1.2.1 dX5_threadsThat_31 rfl (lv_at hl 1 rfl) ?_
          rw [hQ]
          exact sx_iret X rfl hs rfl hP dX5_threadsThat_32 (⟨rfl, by unfold setF4; rw [if_pos c16, if_pos c16_8, if_pos c16_12, if_pos c16_14]; decide⟩)
theorem ys_X5_heldLocks : yX5_heldLocks.cls ≠ "java/lang/invoke/MethodHandle" ∧ yX5_heldLocks.cls ≠ "java/lang/invoke/VarHandle" ∧ (parseMethodDescriptor yX5_heldLocks.desc).map (fun d => d.parameters.length) = some 0 := by decide +kernel
theorem yv_X5_heldLocks : yX5_heldLocks.cls = RX5 ∧ yX5_heldLocks.cls ≠ "java/lang/invoke/MethodHandle" ∧ yX5_heldLocks.cls ≠ "java/lang/invoke/VarHandle" ∧ (parseMethodDescriptor yX5_heldLocks.desc).map (fun d => d.parameters.length) = some 0 := ⟨rfl, ys_X5_heldLocks⟩
abbrev rmX5_heldLocks : Room := { frames := 1, cells := 0, slots := 0, locals := 23 }
set_option maxHeartbeats 800000 in
set_option maxRecDepth 100000 in
theorem mX5_heldLocks {G : sx_G} (l : Launch) {F : Nat → va_E} {ho : Nat → Int32}  (hho : ∀ k, k < 3 → ho k = -1 ∨ ∃ t, t < 4 ∧ ho k = nI t) (h1 : F (1) = ob 5 ([rf G 2, rf G 3, rf G 4, rf G 6, rf G 8, rf G 10, rf G 19])) (h3 : F (3) = rI G (3) (ho)) : sx_I G l yX5_heldLocks wsX5_heldLocks rmX5_heldLocks [rf G 1] (97) F (97) (fun r F1 => F = F1 ∧ lockF ho = r) := by
  refine sx_enter (cc := cX5_heldLocks) (maxL := 3) (ret := some .int) (own := RX5) (nm := "heldLocks") (by decide) rfl rfl rfl (Nat.le_of_ble_eq_true rfl) ?_
  intro pp ee ss mm args below meth kc ls Q hQ X hs hP hl
  have hl : lv_has ls 3 [(0, rf G 1)] := hl
  refine lv_iconst (v := nI 0) X.1.1 X.1.2.1 dX5_heldLocks_0 (by decide) ?_
  refine lv_istore_n (lv' := [(1, .int (nI 0)), (0, rf G 1)]) X.1.1 X.1.2.1 dX5_heldLocks_1 rfl hl (by decide) rfl (fun ls hl => ?_)
  refine lv_iconst (v := nI 0) X.1.1 X.1.2.1 dX5_heldLocks_2 (by decide) ?_
  refine lv_istore_n (lv' := [(2, .int (nI 0)), (1, .int (nI 0)), (0, rf G 1)]) X.1.1 X.1.2.1 dX5_heldLocks_3 rfl hl (by decide) rfl (fun ls hl => ?_)
  refine lv_iload_n X.1.1 X.1.2.1 dX5_heldLocks_4 rfl (lv_at hl 0 rfl) ?_
  refine lv_iconst (v := nI 4) X.1.1 X.1.2.1 dX5_heldLocks_5 (by decide) ?_
  refine sx_icmp_ge X (by decide) (by decide) (tgt := 23) dX5_heldLocks_6 (by decide) (fun h => absurd h (by decide)) (fun _ => ?_)
  refine lv_iload_n X.1.1 X.1.2.1 dX5_heldLocks_9 rfl (lv_at hl 1 rfl) ?_
  refine lv_aload_n X.1.1 X.1.2.1 dX5_heldLocks_10 rfl (lv_at hl 2 rfl) ?_
  refine lv_iload_n X.1.1 X.1.2.1 dX5_heldLocks_11 rfl (lv_at hl 0 rfl) ?_
  refine sx_cvI (As := [.int (nI 0)]) (rest := .int (nI 0) :: []) X (mX5_locksOf l (t := 0) h1 h3) gX5_heldLocks_X5_locksOf rfl yv_X5_locksOf ⟨Nat.le_of_ble_eq_true rfl, Nat.le_of_ble_eq_true rfl⟩ h1 (by decide) rfl rfl hl.1 rfl (Nat.le_of_ble_eq_true rfl) dX5_heldLocks_12 ⟨Nat.le_of_ble_eq_true rfl, Nat.le_of_ble_eq_true rfl⟩ hs rfl hP (fun r1 F1 H1 l1 hp hP => ?_)
  obtain ⟨rfl, rfl⟩ := hp
  refine lv_ior X.1.1 X.1.2.1 dX5_heldLocks_15 ?_
  refine lv_istore_n (lv' := [(1, .int ((nI (0)) ||| (heldF ho (nI 0)))), (2, .int (nI 0)), (0, rf G 1)]) X.1.1 X.1.2.1 dX5_heldLocks_16 rfl hl (by decide) rfl (fun ls hl => ?_)
  refine lv_iinc (v := (nI (1))) (lv' := [(2, .int (nI 1)), (1, .int ((nI (0)) ||| (heldF ho (nI 0)))), (0, rf G 1)]) X.1.1 X.1.2.1 dX5_heldLocks_17 hl (k := 1) rfl (by decide) (by decide) rfl (fun ls hl => ?_)
  refine lv_goto (tgt := 4) X.1.1 X.1.2.1 dX5_heldLocks_20 (by decide) ?_
  refine lv_iload_n X.1.1 X.1.2.1 dX5_heldLocks_4 rfl (lv_at hl 0 rfl) ?_
  refine lv_iconst (v := nI 4) X.1.1 X.1.2.1 dX5_heldLocks_5 (by decide) ?_
  refine sx_icmp_ge X (by decide) (by decide) (tgt := 23) dX5_heldLocks_6 (by decide) (fun h => absurd h (by decide)) (fun _ => ?_)
  refine lv_iload_n X.1.1 X.1.2.1 dX5_heldLocks_9 rfl (lv_at hl 1 rfl) ?_
  refine lv_aload_n X.1.1 X.1.2.1 dX5_heldLocks_10 rfl (lv_at hl 2 rfl) ?_
  refine lv_iload_n X.1.1 X.1.2.1 dX5_heldLocks_11 rfl (lv_at hl 0 rfl) ?_
  refine sx_cvI (As := [.int (nI 1)]) (rest := .int ((nI (0)) ||| (heldF ho (nI 0))) :: []) X (mX5_locksOf l (t := 1) h1 h3) gX5_heldLocks_X5_locksOf rfl yv_X5_locksOf ⟨Nat.le_of_ble_eq_true rfl, Nat.le_of_ble_eq_true rfl⟩ h1 (by decide) rfl rfl hl.1 rfl (Nat.le_of_ble_eq_true rfl) dX5_heldLocks_12 ⟨Nat.le_of_ble_eq_true rfl, Nat.le_of_ble_eq_true rfl⟩ hs rfl hP (fun r2 F2 H2 l2 hp hP => ?_)
  obtain ⟨rfl, rfl⟩ := hp
  refine lv_ior X.1.1 X.1.2.1 dX5_heldLocks_15 ?_
  refine lv_istore_n (lv' := [(1, .int (((nI (0)) ||| (heldF ho (nI 0))) ||| (heldF ho (nI 1)))), (2, .int (nI 1)), (0, rf G 1)]) X.1.1 X.1.2.1 dX5_heldLocks_16 rfl hl (by decide) rfl (fun ls hl => ?_)
  refine lv_iinc (v := (nI (2))) (lv' := [(2, .int (nI 2)), (1, .int (((nI (0)) ||| (heldF ho (nI 0))) ||| (heldF ho (nI 1)))), (0, rf G 1)]) X.1.1 X.1.2.1 dX5_heldLocks_17 hl (k := 1) rfl (by decide) (by decide) rfl (fun ls hl => ?_)
  refine lv_goto (tgt := 4) X.1.1 X.1.2.1 dX5_heldLocks_20 (by decide) ?_
  refine lv_iload_n X.1.1 X.1.2.1 dX5_heldLocks_4 rfl (lv_at hl 0 rfl) ?_
  refine lv_iconst (v := nI 4) X.1.1 X.1.2.1 dX5_heldLocks_5 (by decide) ?_
  refine sx_icmp_ge X (by decide) (by decide) (tgt := 23) dX5_heldLocks_6 (by decide) (fun h => absurd h (by decide)) (fun _ => ?_)
  refine lv_iload_n X.1.1 X.1.2.1 dX5_heldLocks_9 rfl (lv_at hl 1 rfl) ?_
  refine lv_aload_n X.1.1 X.1.2.1 dX5_heldLocks_10 rfl (lv_at hl 2 rfl) ?_
  refine lv_iload_n X.1.1 X.1.2.1 dX5_heldLocks_11 rfl (lv_at hl 0 rfl) ?_
  refine sx_cvI (As := [.int (nI 2)]) (rest := .int (((nI (0)) ||| (heldF ho (nI 0))) ||| (heldF ho (nI 1))) :: []) X (mX5_locksOf l (t := 2) h1 h3) gX5_heldLocks_X5_locksOf rfl yv_X5_locksOf ⟨Nat.le_of_ble_eq_true rfl, Nat.le_of_ble_eq_true rfl⟩ h1 (by decide) rfl rfl hl.1 rfl (Nat.le_of_ble_eq_true rfl) dX5_heldLocks_12 ⟨Nat.le_of_ble_eq_true rfl, Nat.le_of_ble_eq_true rfl⟩ hs rfl hP (fun r3 F3 H3 l3 hp hP => ?_)
  obtain ⟨rfl, rfl⟩ := hp
  refine lv_ior X.1.1 X.1.2.1 dX5_heldLocks_15 ?_
  refine lv_istore_n (lv' := [(1, .int ((((nI (0)) ||| (heldF ho (nI 0))) ||| (heldF ho (nI 1))) ||| (heldF ho (nI 2)))), (2, .int (nI 2)), (0, rf G 1)]) X.1.1 X.1.2.1 dX5_heldLocks_16 rfl hl (by decide) rfl (fun ls hl => ?_)
  refine lv_iinc (v := (nI (3))) (lv' := [(2, .int (nI 3)), (1, .int ((((nI (0)) ||| (heldF ho (nI 0))) ||| (heldF ho (nI 1))) ||| (heldF ho (nI 2)))), (0, rf G 1)]) X.1.1 X.1.2.1 dX5_heldLocks_17 hl (k := 1) rfl (by decide) (by decide) rfl (fun ls hl => ?_)
  refine lv_goto (tgt := 4) X.1.1 X.1.2.1 dX5_heldLocks_20 (by decide) ?_
  refine lv_iload_n X.1.1 X.1.2.1 dX5_heldLocks_4 rfl (lv_at hl 0 rfl) ?_
  refine lv_iconst (v := nI 4) X.1.1 X.1.2.1 dX5_heldLocks_5 (by decide) ?_
  refine sx_icmp_ge X (by decide) (by decide) (tgt := 23) dX5_heldLocks_6 (by decide) (fun h => absurd h (by decide)) (fun _ => ?_)
  refine lv_iload_n X.1.1 X.1.2.1 dX5_heldLocks_9 rfl (lv_at hl 1 rfl) ?_
  refine lv_aload_n X.1.1 X.1.2.1 dX5_heldLocks_10 rfl (lv_at hl 2 rfl) ?_
  refine lv_iload_n X.1.1 X.1.2.1 dX5_heldLocks_11 rfl (lv_at hl 0 rfl) ?_
  refine sx_cvI (As := [.int (nI 3)]) (rest := .int ((((nI (0)) ||| (heldF ho (nI 0))) ||| (heldF ho (nI 1))) ||| (heldF ho (nI 2))) :: []) X (mX5_locksOf l (t := 3) h1 h3) gX5_heldLocks_X5_locksOf rfl yv_X5_locksOf ⟨Nat.le_of_ble_eq_true rfl, Nat.le_of_ble_eq_true rfl⟩ h1 (by decide) rfl rfl hl.1 rfl (Nat.le_of_ble_eq_true rfl) dX5_heldLocks_12 ⟨Nat.le_of_ble_eq_true rfl, Nat.le_of_ble_eq_true rfl⟩ hs rfl hP (fun r4 F4 H4 l4 hp hP => ?_)
  obtain ⟨rfl, rfl⟩ := hp
  refine lv_ior X.1.1 X.1.2.1 dX5_heldLocks_15 ?_
  refine lv_istore_n (lv' := [(1, .int (((((nI (0)) ||| (heldF ho (nI 0))) ||| (heldF ho (nI 1))) ||| (heldF ho (nI 2))) ||| (heldF ho (nI 3)))), (2, .int (nI 3)), (0, rf G 1)]) X.1.1 X.1.2.1 dX5_heldLocks_16 rfl hl (by decide) rfl (fun ls hl => ?_)
  refine lv_iinc (v := (nI (4))) (lv' := [(2, .int (nI 4)), (1, .int (((((nI (0)) ||| (heldF ho (nI 0))) ||| (heldF ho (nI 1))) ||| (heldF ho (nI 2))) ||| (heldF ho (nI 3)))), (0, rf G 1)]) X.1.1 X.1.2.1 dX5_heldLocks_17 hl (k := 1) rfl (by decide) (by decide) rfl (fun ls hl => ?_)
  refine lv_goto (tgt := 4) X.1.1 X.1.2.1 dX5_heldLocks_20 (by decide) ?_
  refine lv_iload_n X.1.1 X.1.2.1 dX5_heldLocks_4 rfl (lv_at hl 0 rfl) ?_
  refine lv_iconst (v := nI 4) X.1.1 X.1.2.1 dX5_heldLocks_5 (by decide) ?_
  refine sx_icmp_ge X (by decide) (by decide) (tgt := 23) dX5_heldLocks_6 (by decide) (fun _ => ?_) (fun h => absurd h (by decide))
  refine lv_iload_n X.1.1 X.1.2.1 dX5_heldLocks_23 rfl (lv_at hl 1 rfl) ?_
  rw [hQ]
  exact sx_iret X rfl hs rfl hP dX5_heldLocks_24 (⟨rfl, (held_all hho).symm⟩)
theorem ys_X5_promotionsOfAll : yX5_promotionsOfAll.cls ≠ "java/lang/invoke/MethodHandle" ∧ yX5_promotionsOfAll.cls ≠ "java/lang/invoke/VarHandle" ∧ (parseMethodDescriptor yX5_promotionsOfAll.desc).map (fun d => d.parameters.length) = some 0 := by decide +kernel
theorem yv_X5_promotionsOfAll : yX5_promotionsOfAll.cls = RX5 ∧ yX5_promotionsOfAll.cls ≠ "java/lang/invoke/MethodHandle" ∧ yX5_promotionsOfAll.cls ≠ "java/lang/invoke/VarHandle" ∧ (parseMethodDescriptor yX5_promotionsOfAll.desc).map (fun d => d.parameters.length) = some 0 := ⟨rfl, ys_X5_promotionsOfAll⟩
theorem in_X5_promotionsOfAll_X5 : ∀ w ∈ wsX50, w ∈ wsX5_promotionsOfAll := fun _ h => List.mem_cons_of_mem _ (List.mem_append_left _ (List.mem_append_right _ (h)))
theorem lk_X5_promotionsOfAll_fieldLink_RX5_36_RaceWatch_World_cells_LRaceWatch_Kept : (.fieldLink RX5 36 "RaceWatch$World" "cells" "[LRaceWatch$Kept;" : Cond) ∈ wsX5_promotionsOfAll := List.mem_cons_of_mem _ (List.mem_append_left _ (List.mem_append_left _ (List.mem_of_getElem? (i := 0) rfl)))
theorem in_X5_promotionsOfAll_X2 : ∀ w ∈ wsX20, w ∈ wsX5_promotionsOfAll := fun _ h => List.mem_cons_of_mem _ (List.mem_append_right _ (h))
theorem lk_X5_promotionsOfAll_fieldLink_RX5_86_RaceWatch_Kept_promotions_I : (.fieldLink RX5 86 "RaceWatch$Kept" "promotions" "I" : Cond) ∈ wsX5_promotionsOfAll := List.mem_cons_of_mem _ (List.mem_append_left _ (List.mem_append_left _ (List.mem_of_getElem? (i := 1) rfl)))
abbrev rmX5_promotionsOfAll : Room := { frames := 0, cells := 0, slots := 0, locals := 0 }
set_option maxHeartbeats 800000 in
set_option maxRecDepth 100000 in
theorem mX5_promotionsOfAll {G : sx_G} (l : Launch) {F : Nat → va_E} {kr : Nat → Option Nat} {p0 p1 p2 p3 : Int32} {v00 v01 v02 v03 v04 v05 v07 v08 v09 v10 v11 v12 v13 v14 v15 v17 v18 v19 v20 v21 v22 v23 v24 v25 v27 v28 v29 v30 v31 v32 v33 v34 v35 v37 v38 v39 : Value}  (hkr : ∀ j, j < 4 → kr j = some (sx_b G + (11 + 2 * j))) (h1 : F (1) = ob 5 ([rf G 2, rf G 3, rf G 4, rf G 6, rf G 8, rf G 10, rf G 19])) (h10 : F (10) = rK G (4) (kr)) (h11 : F (11) = ob 2 ([v00, v01, v02, v03, v04, v05, .int (p0), v07, v08, v09])) (h13 : F (13) = ob 2 ([v10, v11, v12, v13, v14, v15, .int (p1), v17, v18, v19])) (h15 : F (15) = ob 2 ([v20, v21, v22, v23, v24, v25, .int (p2), v27, v28, v29])) (h17 : F (17) = ob 2 ([v30, v31, v32, v33, v34, v35, .int (p3), v37, v38, v39])) : sx_I G l yX5_promotionsOfAll wsX5_promotionsOfAll rmX5_promotionsOfAll [rf G 1] (97) F (97) (fun r F1 => F = F1 ∧ (((nI 0 + p0) + p1) + p2) + p3 = r) := by
  refine sx_enter (cc := cX5_promotionsOfAll) (maxL := 3) (ret := some .int) (own := RX5) (nm := "promotionsOfAll") (by decide) rfl rfl rfl (Nat.le_of_ble_eq_true rfl) ?_
  intro pp ee ss mm args below meth kc ls Q hQ X hs hP hl
  have hl : lv_has ls 3 [(0, rf G 1)] := hl
  refine lv_iconst (v := nI 0) X.1.1 X.1.2.1 dX5_promotionsOfAll_0 (by decide) ?_
  refine lv_istore_n (lv' := [(1, .int (nI 0)), (0, rf G 1)]) X.1.1 X.1.2.1 dX5_promotionsOfAll_1 rfl hl (by decide) rfl (fun ls hl => ?_)
  refine lv_iconst (v := nI 0) X.1.1 X.1.2.1 dX5_promotionsOfAll_2 (by decide) ?_
  refine lv_istore_n (lv' := [(2, .int (nI 0)), (1, .int (nI 0)), (0, rf G 1)]) X.1.1 X.1.2.1 dX5_promotionsOfAll_3 rfl hl (by decide) rfl (fun ls hl => ?_)
  refine lv_iload_n X.1.1 X.1.2.1 dX5_promotionsOfAll_4 rfl (lv_at hl 0 rfl) ?_
  refine lv_iconst (v := nI 4) X.1.1 X.1.2.1 dX5_promotionsOfAll_5 (by decide) ?_
  refine sx_icmp_ge X (by decide) (by decide) (tgt := 27) dX5_promotionsOfAll_6 (by decide) (fun h => absurd h (by decide)) (fun _ => ?_)
  refine lv_iload_n X.1.1 X.1.2.1 dX5_promotionsOfAll_9 rfl (lv_at hl 1 rfl) ?_
  refine lv_aload_n X.1.1 X.1.2.1 dX5_promotionsOfAll_10 rfl (lv_at hl 2 rfl) ?_
  refine sx_get X hP in_X5_promotionsOfAll_X5 h1 (by decide) rfl 5 (by decide) lk_X5_promotionsOfAll_fieldLink_RX5_36_RaceWatch_World_cells_LRaceWatch_Kept rfl dX5_promotionsOfAll_11 ?_
  refine lv_iload_n X.1.1 X.1.2.1 dX5_promotionsOfAll_14 rfl (lv_at hl 0 rfl) ?_
  refine sx_kald X hP h10 (by decide) (0) (by decide) (by decide) (q := 11) ((hkr _ (by omega)).trans (congrArg some (by omega))) dX5_promotionsOfAll_15 ?_
  refine sx_get X hP in_X5_promotionsOfAll_X2 h11 (by decide) rfl 6 (by decide) lk_X5_promotionsOfAll_fieldLink_RX5_86_RaceWatch_Kept_promotions_I rfl dX5_promotionsOfAll_16 ?_
  refine lv_iadd X.1.1 X.1.2.1 dX5_promotionsOfAll_19 ?_
  refine lv_istore_n (lv' := [(1, .int ((nI (0)) + (p0))), (2, .int (nI 0)), (0, rf G 1)]) X.1.1 X.1.2.1 dX5_promotionsOfAll_20 rfl hl (by decide) rfl (fun ls hl => ?_)
  refine lv_iinc (v := (nI (1))) (lv' := [(2, .int (nI 1)), (1, .int ((nI (0)) + (p0))), (0, rf G 1)]) X.1.1 X.1.2.1 dX5_promotionsOfAll_21 hl (k := 1) rfl (by decide) (by decide) rfl (fun ls hl => ?_)
  refine lv_goto (tgt := 4) X.1.1 X.1.2.1 dX5_promotionsOfAll_24 (by decide) ?_
  refine lv_iload_n X.1.1 X.1.2.1 dX5_promotionsOfAll_4 rfl (lv_at hl 0 rfl) ?_
  refine lv_iconst (v := nI 4) X.1.1 X.1.2.1 dX5_promotionsOfAll_5 (by decide) ?_
  refine sx_icmp_ge X (by decide) (by decide) (tgt := 27) dX5_promotionsOfAll_6 (by decide) (fun h => absurd h (by decide)) (fun _ => ?_)
  refine lv_iload_n X.1.1 X.1.2.1 dX5_promotionsOfAll_9 rfl (lv_at hl 1 rfl) ?_
  refine lv_aload_n X.1.1 X.1.2.1 dX5_promotionsOfAll_10 rfl (lv_at hl 2 rfl) ?_
  refine sx_get X hP in_X5_promotionsOfAll_X5 h1 (by decide) rfl 5 (by decide) lk_X5_promotionsOfAll_fieldLink_RX5_36_RaceWatch_World_cells_LRaceWatch_Kept rfl dX5_promotionsOfAll_11 ?_
  refine lv_iload_n X.1.1 X.1.2.1 dX5_promotionsOfAll_14 rfl (lv_at hl 0 rfl) ?_
  refine sx_kald X hP h10 (by decide) (1) (by decide) (by decide) (q := 13) ((hkr _ (by omega)).trans (congrArg some (by omega))) dX5_promotionsOfAll_15 ?_
  refine sx_get X hP in_X5_promotionsOfAll_X2 h13 (by decide) rfl 6 (by decide) lk_X5_promotionsOfAll_fieldLink_RX5_86_RaceWatch_Kept_promotions_I rfl dX5_promotionsOfAll_16 ?_
  refine lv_iadd X.1.1 X.1.2.1 dX5_promotionsOfAll_19 ?_
  refine lv_istore_n (lv' := [(1, .int (((nI (0)) + (p0)) + (p1))), (2, .int (nI 1)), (0, rf G 1)]) X.1.1 X.1.2.1 dX5_promotionsOfAll_20 rfl hl (by decide) rfl (fun ls hl => ?_)
  refine lv_iinc (v := (nI (2))) (lv' := [(2, .int (nI 2)), (1, .int (((nI (0)) + (p0)) + (p1))), (0, rf G 1)]) X.1.1 X.1.2.1 dX5_promotionsOfAll_21 hl (k := 1) rfl (by decide) (by decide) rfl (fun ls hl => ?_)
  refine lv_goto (tgt := 4) X.1.1 X.1.2.1 dX5_promotionsOfAll_24 (by decide) ?_
  refine lv_iload_n X.1.1 X.1.2.1 dX5_promotionsOfAll_4 rfl (lv_at hl 0 rfl) ?_
  refine lv_iconst (v := nI 4) X.1.1 X.1.2.1 dX5_promotionsOfAll_5 (by decide) ?_
  refine sx_icmp_ge X (by decide) (by decide) (tgt := 27) dX5_promotionsOfAll_6 (by decide) (fun h => absurd h (by decide)) (fun _ => ?_)
  refine lv_iload_n X.1.1 X.1.2.1 dX5_promotionsOfAll_9 rfl (lv_at hl 1 rfl) ?_
  refine lv_aload_n X.1.1 X.1.2.1 dX5_promotionsOfAll_10 rfl (lv_at hl 2 rfl) ?_
  refine sx_get X hP in_X5_promotionsOfAll_X5 h1 (by decide) rfl 5 (by decide) lk_X5_promotionsOfAll_fieldLink_RX5_36_RaceWatch_World_cells_LRaceWatch_Kept rfl dX5_promotionsOfAll_11 ?_
  refine lv_iload_n X.1.1 X.1.2.1 dX5_promotionsOfAll_14 rfl (lv_at hl 0 rfl) ?_
  refine sx_kald X hP h10 (by decide) (2) (by decide) (by decide) (q := 15) ((hkr _ (by omega)).trans (congrArg some (by omega))) dX5_promotionsOfAll_15 ?_
  refine sx_get X hP in_X5_promotionsOfAll_X2 h15 (by decide) rfl 6 (by decide) lk_X5_promotionsOfAll_fieldLink_RX5_86_RaceWatch_Kept_promotions_I rfl dX5_promotionsOfAll_16 ?_
  refine lv_iadd X.1.1 X.1.2.1 dX5_promotionsOfAll_19 ?_
  refine lv_istore_n (lv' := [(1, .int ((((nI (0)) + (p0)) + (p1)) + (p2))), (2, .int (nI 2)), (0, rf G 1)]) X.1.1 X.1.2.1 dX5_promotionsOfAll_20 rfl hl (by decide) rfl (fun ls hl => ?_)
  refine lv_iinc (v := (nI (3))) (lv' := [(2, .int (nI 3)), (1, .int ((((nI (0)) + (p0)) + (p1)) + (p2))), (0, rf G 1)]) X.1.1 X.1.2.1 dX5_promotionsOfAll_21 hl (k := 1) rfl (by decide) (by decide) rfl (fun ls hl => ?_)
  refine lv_goto (tgt := 4) X.1.1 X.1.2.1 dX5_promotionsOfAll_24 (by decide) ?_
  refine lv_iload_n X.1.1 X.1.2.1 dX5_promotionsOfAll_4 rfl (lv_at hl 0 rfl) ?_
  refine lv_iconst (v := nI 4) X.1.1 X.1.2.1 dX5_promotionsOfAll_5 (by decide) ?_
  refine sx_icmp_ge X (by decide) (by decide) (tgt := 27) dX5_promotionsOfAll_6 (by decide) (fun h => absurd h (by decide)) (fun _ => ?_)
  refine lv_iload_n X.1.1 X.1.2.1 dX5_promotionsOfAll_9 rfl (lv_at hl 1 rfl) ?_
  refine lv_aload_n X.1.1 X.1.2.1 dX5_promotionsOfAll_10 rfl (lv_at hl 2 rfl) ?_
  refine sx_get X hP in_X5_promotionsOfAll_X5 h1 (by decide) rfl 5 (by decide) lk_X5_promotionsOfAll_fieldLink_RX5_36_RaceWatch_World_cells_LRaceWatch_Kept rfl dX5_promotionsOfAll_11 ?_
  refine lv_iload_n X.1.1 X.1.2.1 dX5_promotionsOfAll_14 rfl (lv_at hl 0 rfl) ?_
  refine sx_kald X hP h10 (by decide) (3) (by decide) (by decide) (q := 17) ((hkr _ (by omega)).trans (congrArg some (by omega))) dX5_promotionsOfAll_15 ?_
  refine sx_get X hP in_X5_promotionsOfAll_X2 h17 (by decide) rfl 6 (by decide) lk_X5_promotionsOfAll_fieldLink_RX5_86_RaceWatch_Kept_promotions_I rfl dX5_promotionsOfAll_16 ?_
  refine lv_iadd X.1.1 X.1.2.1 dX5_promotionsOfAll_19 ?_
  refine lv_istore_n (lv' := [(1, .int (((((nI (0)) + (p0)) + (p1)) + (p2)) + (p3))), (2, .int (nI 3)), (0, rf G 1)]) X.1.1 X.1.2.1 dX5_promotionsOfAll_20 rfl hl (by decide) rfl (fun ls hl => ?_)
  refine lv_iinc (v := (nI (4))) (lv' := [(2, .int (nI 4)), (1, .int (((((nI (0)) + (p0)) + (p1)) + (p2)) + (p3))), (0, rf G 1)]) X.1.1 X.1.2.1 dX5_promotionsOfAll_21 hl (k := 1) rfl (by decide) (by decide) rfl (fun ls hl => ?_)
  refine lv_goto (tgt := 4) X.1.1 X.1.2.1 dX5_promotionsOfAll_24 (by decide) ?_
  refine lv_iload_n X.1.1 X.1.2.1 dX5_promotionsOfAll_4 rfl (lv_at hl 0 rfl) ?_
  refine lv_iconst (v := nI 4) X.1.1 X.1.2.1 dX5_promotionsOfAll_5 (by decide) ?_
  refine sx_icmp_ge X (by decide) (by decide) (tgt := 27) dX5_promotionsOfAll_6 (by decide) (fun _ => ?_) (fun h => absurd h (by decide))
  refine lv_iload_n X.1.1 X.1.2.1 dX5_promotionsOfAll_27 rfl (lv_at hl 1 rfl) ?_
  rw [hQ]
  exact sx_iret X rfl hs rfl hP dX5_promotionsOfAll_28 (⟨rfl, rfl⟩)
theorem ys_X5_canBe : yX5_canBe.cls ≠ "java/lang/invoke/MethodHandle" ∧ yX5_canBe.cls ≠ "java/lang/invoke/VarHandle" ∧ (parseMethodDescriptor yX5_canBe.desc).map (fun d => d.parameters.length) = some 3 := by decide +kernel
theorem yv_X5_canBe : yX5_canBe.cls = RX5 ∧ yX5_canBe.cls ≠ "java/lang/invoke/MethodHandle" ∧ yX5_canBe.cls ≠ "java/lang/invoke/VarHandle" ∧ (parseMethodDescriptor yX5_canBe.desc).map (fun d => d.parameters.length) = some 3 := ⟨rfl, ys_X5_canBe⟩
theorem in_X5_canBe_X5 : ∀ w ∈ wsX50, w ∈ wsX5_canBe := fun _ h => List.mem_cons_of_mem _ (List.mem_append_right _ (h))
theorem lk_X5_canBe_fieldLink_RX5_15_RaceWatch_World_holders_I : (.fieldLink RX5 15 "RaceWatch$World" "holders" "[I" : Cond) ∈ wsX5_canBe := List.mem_cons_of_mem _ (List.mem_append_left _ (List.mem_of_getElem? (i := 0) rfl))
theorem lk_X5_canBe_fieldLink_RX5_9_RaceWatch_World_states_I : (.fieldLink RX5 9 "RaceWatch$World" "states" "[I" : Cond) ∈ wsX5_canBe := List.mem_cons_of_mem _ (List.mem_append_left _ (List.mem_of_getElem? (i := 1) rfl))
abbrev rmX5_canBe : Room := { frames := 1, cells := 0, slots := 0, locals := 23 }
set_option maxHeartbeats 800000 in
set_option maxRecDepth 100000 in
theorem mX5_canBe {G : sx_G} (l : Launch) {F : Nat → va_E} {st ho : Nat → Int32} {t s x : Nat}  (ht : t < 4) (hs8 : s < 8) (hx : x < boundF s) (h1 : F (1) = ob 5 ([rf G 2, rf G 3, rf G 4, rf G 6, rf G 8, rf G 10, rf G 19])) (h2 : F (2) = rI G (4) (st)) (h3 : F (3) = rI G (3) (ho)) : sx_I G l yX5_canBe wsX5_canBe rmX5_canBe [rf G 1, .int (nI (t)), .int (nI (s)), .int (nI (x))] (97) F (97) (fun r F1 => F = F1 ∧ ((st t = nI 1 ∧ (s = 2 → ho x = -1) ∧ (s = 3 → ho x = nI t) ∧ (s = 6 → st x = nI 0) ∧ (s = 7 → x ≠ t ∧ st x = nI 1 ∧ heldF ho (nI x) = 0)) ∧ nI 1 = r ∨ ¬ (st t = nI 1 ∧ (s = 2 → ho x = -1) ∧ (s = 3 → ho x = nI t) ∧ (s = 6 → st x = nI 0) ∧ (s = 7 → x ≠ t ∧ st x = nI 1 ∧ heldF ho (nI x) = 0)) ∧ nI 0 = r)) := by
  refine sx_enter (cc := cX5_canBe) (maxL := 4) (ret := some .boolean) (own := RX5) (nm := "canBe") (by decide) rfl rfl rfl (Nat.le_of_ble_eq_true rfl) ?_
  intro pp ee ss mm args below meth kc ls Q hQ X hs hP hl
  have hl : lv_has ls 4 [(0, rf G 1), (1, .int (nI (t))), (2, .int (nI (s))), (3, .int (nI (x)))] := hl
  rcases (show s = 0 ∨ s = 1 ∨ s = 2 ∨ s = 3 ∨ s = 4 ∨ s = 5 ∨ s = 6 ∨ s = 7 by omega) with rfl | rfl | rfl | rfl | rfl | rfl | rfl | rfl
  · have hx : x < 4 := hx
    refine lv_aload_n X.1.1 X.1.2.1 dX5_canBe_0 rfl (lv_at hl 0 rfl) ?_
    refine lv_iload_n X.1.1 X.1.2.1 dX5_canBe_1 rfl (lv_at hl 1 rfl) ?_
    refine sx_cvI (As := [.int (nI (t))]) (rest := []) X (mX5_goes l (t := t) (by omega) h1 h2) gX5_canBe_X5_goes rfl yv_X5_goes ⟨Nat.le_of_ble_eq_true rfl, Nat.le_of_ble_eq_true rfl⟩ h1 (by decide) rfl rfl hl.1 rfl (Nat.le_of_ble_eq_true rfl) dX5_canBe_2 ⟨Nat.le_of_ble_eq_true rfl, Nat.le_of_ble_eq_true rfl⟩ hs rfl hP (fun r1 F1 H1 l1 hp hP => ?_)
    obtain ⟨rfl, ⟨b2, rfl⟩ | ⟨b2, rfl⟩⟩ := hp
    · refine sx_if_ne X (by decide) (tgt := 10) dX5_canBe_5 (by decide) (fun _ => ?_) (fun h => absurd h (by decide))
      refine lv_iload_n X.1.1 X.1.2.1 dX5_canBe_10 rfl (lv_at hl 2 rfl) ?_
      refine lv_tableOut (tgt := 122) X.1.1 X.1.2.1 dX5_canBe_11 (by decide) (by decide) ?_
      refine lv_iconst (v := nI 1) X.1.1 X.1.2.1 dX5_canBe_122 (by decide) ?_
      rw [hQ]
      exact sx_zret X rfl (by decide) hs rfl hP dX5_canBe_123 (⟨rfl, Or.inl ⟨⟨b2, (fun q => absurd q (by decide)), (fun q => absurd q (by decide)), (fun q => absurd q (by decide)), (fun q => absurd q (by decide))⟩, rfl⟩⟩)
    · refine sx_if_ne X (by decide) (tgt := 10) dX5_canBe_5 (by decide) (fun h => absurd h (by decide)) (fun _ => ?_)
      refine lv_iconst (v := nI 0) X.1.1 X.1.2.1 dX5_canBe_8 (by decide) ?_
      rw [hQ]
      exact sx_zret X rfl (by decide) hs rfl hP dX5_canBe_9 (⟨rfl, Or.inr ⟨fun q => b2 q.1, rfl⟩⟩)
  · have hx : x < 4 := hx
    refine lv_aload_n X.1.1 X.1.2.1 dX5_canBe_0 rfl (lv_at hl 0 rfl) ?_
    refine lv_iload_n X.1.1 X.1.2.1 dX5_canBe_1 rfl (lv_at hl 1 rfl) ?_
    refine sx_cvI (As := [.int (nI (t))]) (rest := []) X (mX5_goes l (t := t) (by omega) h1 h2) gX5_canBe_X5_goes rfl yv_X5_goes ⟨Nat.le_of_ble_eq_true rfl, Nat.le_of_ble_eq_true rfl⟩ h1 (by decide) rfl rfl hl.1 rfl (Nat.le_of_ble_eq_true rfl) dX5_canBe_2 ⟨Nat.le_of_ble_eq_true rfl, Nat.le_of_ble_eq_true rfl⟩ hs rfl hP (fun r3 F3 H3 l3 hp hP => ?_)
    obtain ⟨rfl, ⟨b4, rfl⟩ | ⟨b4, rfl⟩⟩ := hp
    · refine sx_if_ne X (by decide) (tgt := 10) dX5_canBe_5 (by decide) (fun _ => ?_) (fun h => absurd h (by decide))
      refine lv_iload_n X.1.1 X.1.2.1 dX5_canBe_10 rfl (lv_at hl 2 rfl) ?_
      refine lv_tableOut (tgt := 122) X.1.1 X.1.2.1 dX5_canBe_11 (by decide) (by decide) ?_
      refine lv_iconst (v := nI 1) X.1.1 X.1.2.1 dX5_canBe_122 (by decide) ?_
      rw [hQ]
      exact sx_zret X rfl (by decide) hs rfl hP dX5_canBe_123 (⟨rfl, Or.inl ⟨⟨b4, (fun q => absurd q (by decide)), (fun q => absurd q (by decide)), (fun q => absurd q (by decide)), (fun q => absurd q (by decide))⟩, rfl⟩⟩)
    · refine sx_if_ne X (by decide) (tgt := 10) dX5_canBe_5 (by decide) (fun h => absurd h (by decide)) (fun _ => ?_)
      refine lv_iconst (v := nI 0) X.1.1 X.1.2.1 dX5_canBe_8 (by decide) ?_
      rw [hQ]
      exact sx_zret X rfl (by decide) hs rfl hP dX5_canBe_9 (⟨rfl, Or.inr ⟨fun q => b4 q.1, rfl⟩⟩)
  · have hx : x < 3 := hx
    refine lv_aload_n X.1.1 X.1.2.1 dX5_canBe_0 rfl (lv_at hl 0 rfl) ?_
    refine lv_iload_n X.1.1 X.1.2.1 dX5_canBe_1 rfl (lv_at hl 1 rfl) ?_
    refine sx_cvI (As := [.int (nI (t))]) (rest := []) X (mX5_goes l (t := t) (by omega) h1 h2) gX5_canBe_X5_goes rfl yv_X5_goes ⟨Nat.le_of_ble_eq_true rfl, Nat.le_of_ble_eq_true rfl⟩ h1 (by decide) rfl rfl hl.1 rfl (Nat.le_of_ble_eq_true rfl) dX5_canBe_2 ⟨Nat.le_of_ble_eq_true rfl, Nat.le_of_ble_eq_true rfl⟩ hs rfl hP (fun r5 F5 H5 l5 hp hP => ?_)
    obtain ⟨rfl, ⟨b6, rfl⟩ | ⟨b6, rfl⟩⟩ := hp
    · refine sx_if_ne X (by decide) (tgt := 10) dX5_canBe_5 (by decide) (fun _ => ?_) (fun h => absurd h (by decide))
      refine lv_iload_n X.1.1 X.1.2.1 dX5_canBe_10 rfl (lv_at hl 2 rfl) ?_
      refine lv_tableIn (off := 37) (tgt := 48) X.1.1 X.1.2.1 dX5_canBe_11 (by decide) (by decide) (by decide) (by decide) ?_
      refine lv_aload_n X.1.1 X.1.2.1 dX5_canBe_48 rfl (lv_at hl 0 rfl) ?_
      refine sx_get X hP in_X5_canBe_X5 h1 (by decide) rfl 1 (by decide) lk_X5_canBe_fieldLink_RX5_15_RaceWatch_World_holders_I rfl dX5_canBe_49 ?_
      refine lv_iload_n X.1.1 X.1.2.1 dX5_canBe_52 rfl (lv_at hl 3 rfl) ?_
      refine sx_ald X hP h3 (by decide) (x) (by omega) (by decide) dX5_canBe_53 ?_
      refine lv_iconst (v := (-1)) X.1.1 X.1.2.1 dX5_canBe_54 (by decide) ?_
      refine lv_icmp_ne X.1.1 X.1.2.1 (tgt := 62) dX5_canBe_55 (by decide) (fun c55 => ?_) (fun c55 => ?_)
      · refine lv_iconst (v := nI 0) X.1.1 X.1.2.1 dX5_canBe_62 (by decide) ?_
        rw [hQ]
        exact sx_zret X rfl (by decide) hs rfl hP dX5_canBe_63 (⟨rfl, Or.inr ⟨fun q => c55 (q.2.1 rfl), rfl⟩⟩)
      · refine lv_iconst (v := nI 1) X.1.1 X.1.2.1 dX5_canBe_58 (by decide) ?_
        refine lv_goto (tgt := 63) X.1.1 X.1.2.1 dX5_canBe_59 (by decide) ?_
        rw [hQ]
        exact sx_zret X rfl (by decide) hs rfl hP dX5_canBe_63 (⟨rfl, Or.inl ⟨⟨b6, (fun _ => c55), (fun q => absurd q (by decide)), (fun q => absurd q (by decide)), (fun q => absurd q (by decide))⟩, rfl⟩⟩)
    · refine sx_if_ne X (by decide) (tgt := 10) dX5_canBe_5 (by decide) (fun h => absurd h (by decide)) (fun _ => ?_)
      refine lv_iconst (v := nI 0) X.1.1 X.1.2.1 dX5_canBe_8 (by decide) ?_
      rw [hQ]
      exact sx_zret X rfl (by decide) hs rfl hP dX5_canBe_9 (⟨rfl, Or.inr ⟨fun q => b6 q.1, rfl⟩⟩)
  · have hx : x < 3 := hx
    refine lv_aload_n X.1.1 X.1.2.1 dX5_canBe_0 rfl (lv_at hl 0 rfl) ?_
    refine lv_iload_n X.1.1 X.1.2.1 dX5_canBe_1 rfl (lv_at hl 1 rfl) ?_
    refine sx_cvI (As := [.int (nI (t))]) (rest := []) X (mX5_goes l (t := t) (by omega) h1 h2) gX5_canBe_X5_goes rfl yv_X5_goes ⟨Nat.le_of_ble_eq_true rfl, Nat.le_of_ble_eq_true rfl⟩ h1 (by decide) rfl rfl hl.1 rfl (Nat.le_of_ble_eq_true rfl) dX5_canBe_2 ⟨Nat.le_of_ble_eq_true rfl, Nat.le_of_ble_eq_true rfl⟩ hs rfl hP (fun r7 F7 H7 l7 hp hP => ?_)
    obtain ⟨rfl, ⟨b8, rfl⟩ | ⟨b8, rfl⟩⟩ := hp
    · refine sx_if_ne X (by decide) (tgt := 10) dX5_canBe_5 (by decide) (fun _ => ?_) (fun h => absurd h (by decide))
      refine lv_iload_n X.1.1 X.1.2.1 dX5_canBe_10 rfl (lv_at hl 2 rfl) ?_
      refine lv_tableIn (off := 53) (tgt := 64) X.1.1 X.1.2.1 dX5_canBe_11 (by decide) (by decide) (by decide) (by decide) ?_
      refine lv_aload_n X.1.1 X.1.2.1 dX5_canBe_64 rfl (lv_at hl 0 rfl) ?_
      refine sx_get X hP in_X5_canBe_X5 h1 (by decide) rfl 1 (by decide) lk_X5_canBe_fieldLink_RX5_15_RaceWatch_World_holders_I rfl dX5_canBe_65 ?_
      refine lv_iload_n X.1.1 X.1.2.1 dX5_canBe_68 rfl (lv_at hl 3 rfl) ?_
      refine sx_ald X hP h3 (by decide) (x) (by omega) (by decide) dX5_canBe_69 ?_
      refine lv_iload_n X.1.1 X.1.2.1 dX5_canBe_70 rfl (lv_at hl 1 rfl) ?_
      refine lv_icmp_ne X.1.1 X.1.2.1 (tgt := 78) dX5_canBe_71 (by decide) (fun c71 => ?_) (fun c71 => ?_)
      · refine lv_iconst (v := nI 0) X.1.1 X.1.2.1 dX5_canBe_78 (by decide) ?_
        rw [hQ]
        exact sx_zret X rfl (by decide) hs rfl hP dX5_canBe_79 (⟨rfl, Or.inr ⟨fun q => c71 (q.2.2.1 rfl), rfl⟩⟩)
      · refine lv_iconst (v := nI 1) X.1.1 X.1.2.1 dX5_canBe_74 (by decide) ?_
        refine lv_goto (tgt := 79) X.1.1 X.1.2.1 dX5_canBe_75 (by decide) ?_
        rw [hQ]
        exact sx_zret X rfl (by decide) hs rfl hP dX5_canBe_79 (⟨rfl, Or.inl ⟨⟨b8, (fun q => absurd q (by decide)), (fun _ => c71), (fun q => absurd q (by decide)), (fun q => absurd q (by decide))⟩, rfl⟩⟩)
    · refine sx_if_ne X (by decide) (tgt := 10) dX5_canBe_5 (by decide) (fun h => absurd h (by decide)) (fun _ => ?_)
      refine lv_iconst (v := nI 0) X.1.1 X.1.2.1 dX5_canBe_8 (by decide) ?_
      rw [hQ]
      exact sx_zret X rfl (by decide) hs rfl hP dX5_canBe_9 (⟨rfl, Or.inr ⟨fun q => b8 q.1, rfl⟩⟩)
  · have hx : x < 2 := hx
    refine lv_aload_n X.1.1 X.1.2.1 dX5_canBe_0 rfl (lv_at hl 0 rfl) ?_
    refine lv_iload_n X.1.1 X.1.2.1 dX5_canBe_1 rfl (lv_at hl 1 rfl) ?_
    refine sx_cvI (As := [.int (nI (t))]) (rest := []) X (mX5_goes l (t := t) (by omega) h1 h2) gX5_canBe_X5_goes rfl yv_X5_goes ⟨Nat.le_of_ble_eq_true rfl, Nat.le_of_ble_eq_true rfl⟩ h1 (by decide) rfl rfl hl.1 rfl (Nat.le_of_ble_eq_true rfl) dX5_canBe_2 ⟨Nat.le_of_ble_eq_true rfl, Nat.le_of_ble_eq_true rfl⟩ hs rfl hP (fun r9 F9 H9 l9 hp hP => ?_)
    obtain ⟨rfl, ⟨b10, rfl⟩ | ⟨b10, rfl⟩⟩ := hp
    · refine sx_if_ne X (by decide) (tgt := 10) dX5_canBe_5 (by decide) (fun _ => ?_) (fun h => absurd h (by decide))
      refine lv_iload_n X.1.1 X.1.2.1 dX5_canBe_10 rfl (lv_at hl 2 rfl) ?_
      refine lv_tableIn (off := 111) (tgt := 122) X.1.1 X.1.2.1 dX5_canBe_11 (by decide) (by decide) (by decide) (by decide) ?_
      refine lv_iconst (v := nI 1) X.1.1 X.1.2.1 dX5_canBe_122 (by decide) ?_
      rw [hQ]
      exact sx_zret X rfl (by decide) hs rfl hP dX5_canBe_123 (⟨rfl, Or.inl ⟨⟨b10, (fun q => absurd q (by decide)), (fun q => absurd q (by decide)), (fun q => absurd q (by decide)), (fun q => absurd q (by decide))⟩, rfl⟩⟩)
    · refine sx_if_ne X (by decide) (tgt := 10) dX5_canBe_5 (by decide) (fun h => absurd h (by decide)) (fun _ => ?_)
      refine lv_iconst (v := nI 0) X.1.1 X.1.2.1 dX5_canBe_8 (by decide) ?_
      rw [hQ]
      exact sx_zret X rfl (by decide) hs rfl hP dX5_canBe_9 (⟨rfl, Or.inr ⟨fun q => b10 q.1, rfl⟩⟩)
  · have hx : x < 2 := hx
    refine lv_aload_n X.1.1 X.1.2.1 dX5_canBe_0 rfl (lv_at hl 0 rfl) ?_
    refine lv_iload_n X.1.1 X.1.2.1 dX5_canBe_1 rfl (lv_at hl 1 rfl) ?_
    refine sx_cvI (As := [.int (nI (t))]) (rest := []) X (mX5_goes l (t := t) (by omega) h1 h2) gX5_canBe_X5_goes rfl yv_X5_goes ⟨Nat.le_of_ble_eq_true rfl, Nat.le_of_ble_eq_true rfl⟩ h1 (by decide) rfl rfl hl.1 rfl (Nat.le_of_ble_eq_true rfl) dX5_canBe_2 ⟨Nat.le_of_ble_eq_true rfl, Nat.le_of_ble_eq_true rfl⟩ hs rfl hP (fun r11 F11 H11 l11 hp hP => ?_)
    obtain ⟨rfl, ⟨b12, rfl⟩ | ⟨b12, rfl⟩⟩ := hp
    · refine sx_if_ne X (by decide) (tgt := 10) dX5_canBe_5 (by decide) (fun _ => ?_) (fun h => absurd h (by decide))
      refine lv_iload_n X.1.1 X.1.2.1 dX5_canBe_10 rfl (lv_at hl 2 rfl) ?_
      refine lv_tableIn (off := 111) (tgt := 122) X.1.1 X.1.2.1 dX5_canBe_11 (by decide) (by decide) (by decide) (by decide) ?_
      refine lv_iconst (v := nI 1) X.1.1 X.1.2.1 dX5_canBe_122 (by decide) ?_
      rw [hQ]
      exact sx_zret X rfl (by decide) hs rfl hP dX5_canBe_123 (⟨rfl, Or.inl ⟨⟨b12, (fun q => absurd q (by decide)), (fun q => absurd q (by decide)), (fun q => absurd q (by decide)), (fun q => absurd q (by decide))⟩, rfl⟩⟩)
    · refine sx_if_ne X (by decide) (tgt := 10) dX5_canBe_5 (by decide) (fun h => absurd h (by decide)) (fun _ => ?_)
      refine lv_iconst (v := nI 0) X.1.1 X.1.2.1 dX5_canBe_8 (by decide) ?_
      rw [hQ]
      exact sx_zret X rfl (by decide) hs rfl hP dX5_canBe_9 (⟨rfl, Or.inr ⟨fun q => b12 q.1, rfl⟩⟩)
  · have hx : x < 4 := hx
    refine lv_aload_n X.1.1 X.1.2.1 dX5_canBe_0 rfl (lv_at hl 0 rfl) ?_
    refine lv_iload_n X.1.1 X.1.2.1 dX5_canBe_1 rfl (lv_at hl 1 rfl) ?_
    refine sx_cvI (As := [.int (nI (t))]) (rest := []) X (mX5_goes l (t := t) (by omega) h1 h2) gX5_canBe_X5_goes rfl yv_X5_goes ⟨Nat.le_of_ble_eq_true rfl, Nat.le_of_ble_eq_true rfl⟩ h1 (by decide) rfl rfl hl.1 rfl (Nat.le_of_ble_eq_true rfl) dX5_canBe_2 ⟨Nat.le_of_ble_eq_true rfl, Nat.le_of_ble_eq_true rfl⟩ hs rfl hP (fun r13 F13 H13 l13 hp hP => ?_)
    obtain ⟨rfl, ⟨b14, rfl⟩ | ⟨b14, rfl⟩⟩ := hp
    · refine sx_if_ne X (by decide) (tgt := 10) dX5_canBe_5 (by decide) (fun _ => ?_) (fun h => absurd h (by decide))
      refine lv_iload_n X.1.1 X.1.2.1 dX5_canBe_10 rfl (lv_at hl 2 rfl) ?_
      refine lv_tableIn (off := 69) (tgt := 80) X.1.1 X.1.2.1 dX5_canBe_11 (by decide) (by decide) (by decide) (by decide) ?_
      refine lv_aload_n X.1.1 X.1.2.1 dX5_canBe_80 rfl (lv_at hl 0 rfl) ?_
      refine sx_get X hP in_X5_canBe_X5 h1 (by decide) rfl 0 (by decide) lk_X5_canBe_fieldLink_RX5_9_RaceWatch_World_states_I rfl dX5_canBe_81 ?_
      refine lv_iload_n X.1.1 X.1.2.1 dX5_canBe_84 rfl (lv_at hl 3 rfl) ?_
      refine sx_ald X hP h2 (by decide) (x) (by omega) (by decide) dX5_canBe_85 ?_
      refine lv_if_ne X.1.1 X.1.2.1 (tgt := 93) dX5_canBe_86 (by decide) (fun c86 => ?_) (fun c86 => ?_)
      · refine lv_iconst (v := nI 0) X.1.1 X.1.2.1 dX5_canBe_93 (by decide) ?_
        rw [hQ]
        exact sx_zret X rfl (by decide) hs rfl hP dX5_canBe_94 (⟨rfl, Or.inr ⟨fun q => c86 (q.2.2.2.1 rfl), rfl⟩⟩)
      · refine lv_iconst (v := nI 1) X.1.1 X.1.2.1 dX5_canBe_89 (by decide) ?_
        refine lv_goto (tgt := 94) X.1.1 X.1.2.1 dX5_canBe_90 (by decide) ?_
        rw [hQ]
        exact sx_zret X rfl (by decide) hs rfl hP dX5_canBe_94 (⟨rfl, Or.inl ⟨⟨b14, (fun q => absurd q (by decide)), (fun q => absurd q (by decide)), (fun _ => c86), (fun q => absurd q (by decide))⟩, rfl⟩⟩)
    · refine sx_if_ne X (by decide) (tgt := 10) dX5_canBe_5 (by decide) (fun h => absurd h (by decide)) (fun _ => ?_)
      refine lv_iconst (v := nI 0) X.1.1 X.1.2.1 dX5_canBe_8 (by decide) ?_
      rw [hQ]
      exact sx_zret X rfl (by decide) hs rfl hP dX5_canBe_9 (⟨rfl, Or.inr ⟨fun q => b14 q.1, rfl⟩⟩)
  · have hx : x < 4 := hx
    refine lv_aload_n X.1.1 X.1.2.1 dX5_canBe_0 rfl (lv_at hl 0 rfl) ?_
    refine lv_iload_n X.1.1 X.1.2.1 dX5_canBe_1 rfl (lv_at hl 1 rfl) ?_
    refine sx_cvI (As := [.int (nI (t))]) (rest := []) X (mX5_goes l (t := t) (by omega) h1 h2) gX5_canBe_X5_goes rfl yv_X5_goes ⟨Nat.le_of_ble_eq_true rfl, Nat.le_of_ble_eq_true rfl⟩ h1 (by decide) rfl rfl hl.1 rfl (Nat.le_of_ble_eq_true rfl) dX5_canBe_2 ⟨Nat.le_of_ble_eq_true rfl, Nat.le_of_ble_eq_true rfl⟩ hs rfl hP (fun r15 F15 H15 l15 hp hP => ?_)
    obtain ⟨rfl, ⟨b16, rfl⟩ | ⟨b16, rfl⟩⟩ := hp
    · refine sx_if_ne X (by decide) (tgt := 10) dX5_canBe_5 (by decide) (fun _ => ?_) (fun h => absurd h (by decide))
      refine lv_iload_n X.1.1 X.1.2.1 dX5_canBe_10 rfl (lv_at hl 2 rfl) ?_
      refine lv_tableIn (off := 84) (tgt := 95) X.1.1 X.1.2.1 dX5_canBe_11 (by decide) (by decide) (by decide) (by decide) ?_
      refine lv_iload_n X.1.1 X.1.2.1 dX5_canBe_95 rfl (lv_at hl 3 rfl) ?_
      refine lv_iload_n X.1.1 X.1.2.1 dX5_canBe_96 rfl (lv_at hl 1 rfl) ?_
      refine sx_icmp_eq X (by omega) (by omega) (tgt := 120) dX5_canBe_97 (by decide) (fun c97 => ?_) (fun c97 => ?_)
      · refine lv_iconst (v := nI 0) X.1.1 X.1.2.1 dX5_canBe_120 (by decide) ?_
        rw [hQ]
        exact sx_zret X rfl (by decide) hs rfl hP dX5_canBe_121 (⟨rfl, Or.inr ⟨fun q => (q.2.2.2.2 rfl).1 (by omega), rfl⟩⟩)
      · refine lv_aload_n X.1.1 X.1.2.1 dX5_canBe_100 rfl (lv_at hl 0 rfl) ?_
        refine lv_iload_n X.1.1 X.1.2.1 dX5_canBe_101 rfl (lv_at hl 3 rfl) ?_
        refine sx_cvI (As := [.int (nI (x))]) (rest := []) X (mX5_goes l (t := x) (by omega) h1 h2) gX5_canBe_X5_goes rfl yv_X5_goes ⟨Nat.le_of_ble_eq_true rfl, Nat.le_of_ble_eq_true rfl⟩ h1 (by decide) rfl rfl hl.1 rfl (Nat.le_of_ble_eq_true rfl) dX5_canBe_102 ⟨Nat.le_of_ble_eq_true rfl, Nat.le_of_ble_eq_true rfl⟩ hs rfl hP (fun r17 F17 H17 l17 hp hP => ?_)
        obtain ⟨rfl, ⟨b18, rfl⟩ | ⟨b18, rfl⟩⟩ := hp
        · refine sx_if_eq X (by decide) (tgt := 120) dX5_canBe_105 (by decide) (fun h => absurd h (by decide)) (fun _ => ?_)
          refine lv_aload_n X.1.1 X.1.2.1 dX5_canBe_108 rfl (lv_at hl 0 rfl) ?_
          refine lv_iload_n X.1.1 X.1.2.1 dX5_canBe_109 rfl (lv_at hl 3 rfl) ?_
          refine sx_cvI (As := [.int (nI (x))]) (rest := []) X (mX5_locksOf l (t := x) h1 h3) gX5_canBe_X5_locksOf rfl yv_X5_locksOf ⟨Nat.le_of_ble_eq_true rfl, Nat.le_of_ble_eq_true rfl⟩ h1 (by decide) rfl rfl hl.1 rfl (Nat.le_of_ble_eq_true rfl) dX5_canBe_110 ⟨Nat.le_of_ble_eq_true rfl, Nat.le_of_ble_eq_true rfl⟩ hs rfl hP (fun r19 F19 H19 l19 hp hP => ?_)
          obtain ⟨rfl, rfl⟩ := hp
          refine lv_if_ne X.1.1 X.1.2.1 (tgt := 120) dX5_canBe_113 (by decide) (fun c113 => ?_) (fun c113 => ?_)
          · refine lv_iconst (v := nI 0) X.1.1 X.1.2.1 dX5_canBe_120 (by decide) ?_
            rw [hQ]
            exact sx_zret X rfl (by decide) hs rfl hP dX5_canBe_121 (⟨rfl, Or.inr ⟨fun q => c113 (q.2.2.2.2 rfl).2.2, rfl⟩⟩)
          · refine lv_iconst (v := nI 1) X.1.1 X.1.2.1 dX5_canBe_116 (by decide) ?_
            refine lv_goto (tgt := 121) X.1.1 X.1.2.1 dX5_canBe_117 (by decide) ?_
            rw [hQ]
            exact sx_zret X rfl (by decide) hs rfl hP dX5_canBe_121 (⟨rfl, Or.inl ⟨⟨b16, (fun q => absurd q (by decide)), (fun q => absurd q (by decide)), (fun q => absurd q (by decide)), (fun _ => ⟨by omega, b18, c113⟩)⟩, rfl⟩⟩)
        · refine sx_if_eq X (by decide) (tgt := 120) dX5_canBe_105 (by decide) (fun _ => ?_) (fun h => absurd h (by decide))
          refine lv_iconst (v := nI 0) X.1.1 X.1.2.1 dX5_canBe_120 (by decide) ?_
          rw [hQ]
          exact sx_zret X rfl (by decide) hs rfl hP dX5_canBe_121 (⟨rfl, Or.inr ⟨fun q => b18 (q.2.2.2.2 rfl).2.1, rfl⟩⟩)
    · refine sx_if_ne X (by decide) (tgt := 10) dX5_canBe_5 (by decide) (fun h => absurd h (by decide)) (fun _ => ?_)
      refine lv_iconst (v := nI 0) X.1.1 X.1.2.1 dX5_canBe_8 (by decide) ?_
      rw [hQ]
      exact sx_zret X rfl (by decide) hs rfl hP dX5_canBe_9 (⟨rfl, Or.inr ⟨fun q => b16 q.1, rfl⟩⟩)
theorem ys_X5_stepIsMuch : yX5_stepIsMuch.cls ≠ "java/lang/invoke/MethodHandle" ∧ yX5_stepIsMuch.cls ≠ "java/lang/invoke/VarHandle" ∧ (parseMethodDescriptor yX5_stepIsMuch.desc).map (fun d => d.parameters.length) = some 2 := by decide +kernel
theorem yv_X5_stepIsMuch : yX5_stepIsMuch.cls = RX5 ∧ yX5_stepIsMuch.cls ≠ "java/lang/invoke/MethodHandle" ∧ yX5_stepIsMuch.cls ≠ "java/lang/invoke/VarHandle" ∧ (parseMethodDescriptor yX5_stepIsMuch.desc).map (fun d => d.parameters.length) = some 2 := ⟨rfl, ys_X5_stepIsMuch⟩
theorem in_X5_stepIsMuch_X5 : ∀ w ∈ wsX50, w ∈ wsX5_stepIsMuch := fun _ h => List.mem_cons_of_mem _ (List.mem_append_left _ (List.mem_append_right _ (h)))
theorem lk_X5_stepIsMuch_fieldLink_RX5_23_RaceWatch_World_ofThreads_LRaceWatch_Clocks : (.fieldLink RX5 23 "RaceWatch$World" "ofThreads" "LRaceWatch$Clocks;" : Cond) ∈ wsX5_stepIsMuch := List.mem_cons_of_mem _ (List.mem_append_left _ (List.mem_append_left _ (List.mem_of_getElem? (i := 0) rfl)))
theorem lk_X5_stepIsMuch_constant_RX5_98_2147483647 : (.constant RX5 98 (2147483647) : Cond) ∈ wsX5_stepIsMuch := List.mem_cons_of_mem _ (List.mem_append_left _ (List.mem_append_left _ (List.mem_of_getElem? (i := 1) rfl)))
abbrev rmX5_stepIsMuch : Room := { frames := 1, cells := 0, slots := 0, locals := 22 }
set_option maxHeartbeats 800000 in
set_option maxRecDepth 100000 in
theorem mX5_stepIsMuch {G : sx_G} (l : Launch) {F : Nat → va_E} {ct : Nat → Int32} {r4 : Value} {t s : Nat}  (ht : t < 4) (hs8 : s < 8) (h1 : F (1) = ob 5 ([rf G 2, rf G 3, rf G 4, rf G 6, rf G 8, rf G 10, rf G 19])) (h4 : F (4) = ob 1 ([r4, rf G 5])) (h5 : F (5) = rI G (16) (ct)) : sx_I G l yX5_stepIsMuch wsX5_stepIsMuch rmX5_stepIsMuch [rf G 1, .int (nI (t)), .int (nI (s))] (97) F (97) (fun r F1 => F = F1 ∧ (((s = 3 ∨ s = 4 ∨ s = 6) ∧ ct (5 * t) = 2147483647) ∧ nI 1 = r ∨ ¬ ((s = 3 ∨ s = 4 ∨ s = 6) ∧ ct (5 * t) = 2147483647) ∧ nI 0 = r)) := by
  refine sx_enter (cc := cX5_stepIsMuch) (maxL := 4) (ret := some .boolean) (own := RX5) (nm := "stepIsMuch") (by decide) rfl rfl rfl (Nat.le_of_ble_eq_true rfl) ?_
  intro pp ee ss mm args below meth kc ls Q hQ X hs hP hl
  have hl : lv_has ls 4 [(0, rf G 1), (1, .int (nI (t))), (2, .int (nI (s)))] := hl
  rcases (show s = 0 ∨ s = 1 ∨ s = 2 ∨ s = 3 ∨ s = 4 ∨ s = 5 ∨ s = 6 ∨ s = 7 by omega) with rfl | rfl | rfl | rfl | rfl | rfl | rfl | rfl
  · refine lv_iload_n X.1.1 X.1.2.1 dX5_stepIsMuch_0 rfl (lv_at hl 2 rfl) ?_
    refine lv_iconst (v := nI 3) X.1.1 X.1.2.1 dX5_stepIsMuch_1 (by decide) ?_
    refine sx_icmp_eq X (by decide) (by decide) (tgt := 16) dX5_stepIsMuch_2 (by decide) (fun h => absurd h (by decide)) (fun _ => ?_)
    refine lv_iload_n X.1.1 X.1.2.1 dX5_stepIsMuch_5 rfl (lv_at hl 2 rfl) ?_
    refine lv_iconst (v := nI 4) X.1.1 X.1.2.1 dX5_stepIsMuch_6 (by decide) ?_
    refine sx_icmp_eq X (by decide) (by decide) (tgt := 16) dX5_stepIsMuch_7 (by decide) (fun h => absurd h (by decide)) (fun _ => ?_)
    refine lv_iload_n X.1.1 X.1.2.1 dX5_stepIsMuch_10 rfl (lv_at hl 2 rfl) ?_
    refine lv_bipush (v := nI 6) X.1.1 X.1.2.1 dX5_stepIsMuch_11 (by decide) ?_
    refine sx_icmp_ne X (by decide) (by decide) (tgt := 20) dX5_stepIsMuch_13 (by decide) (fun _ => ?_) (fun h => absurd h (by decide))
    refine lv_iconst (v := nI 0) X.1.1 X.1.2.1 dX5_stepIsMuch_20 (by decide) ?_
    refine lv_istore_n (lv' := [(3, .int (nI 0)), (0, rf G 1), (1, .int (nI (t))), (2, .int (nI 0))]) X.1.1 X.1.2.1 dX5_stepIsMuch_21 rfl hl (by decide) rfl (fun ls hl => ?_)
    refine lv_iload_n X.1.1 X.1.2.1 dX5_stepIsMuch_22 rfl (lv_at hl 0 rfl) ?_
    refine sx_if_eq X (by decide) (tgt := 44) dX5_stepIsMuch_23 (by decide) (fun _ => ?_) (fun h => absurd h (by decide))
    refine lv_iconst (v := nI 0) X.1.1 X.1.2.1 dX5_stepIsMuch_44 (by decide) ?_
    rw [hQ]
    exact sx_zret X rfl (by decide) hs rfl hP dX5_stepIsMuch_45 (⟨rfl, Or.inr ⟨fun q => absurd q.1 (by decide), rfl⟩⟩)
  · refine lv_iload_n X.1.1 X.1.2.1 dX5_stepIsMuch_0 rfl (lv_at hl 2 rfl) ?_
    refine lv_iconst (v := nI 3) X.1.1 X.1.2.1 dX5_stepIsMuch_1 (by decide) ?_
    refine sx_icmp_eq X (by decide) (by decide) (tgt := 16) dX5_stepIsMuch_2 (by decide) (fun h => absurd h (by decide)) (fun _ => ?_)
    refine lv_iload_n X.1.1 X.1.2.1 dX5_stepIsMuch_5 rfl (lv_at hl 2 rfl) ?_
    refine lv_iconst (v := nI 4) X.1.1 X.1.2.1 dX5_stepIsMuch_6 (by decide) ?_
    refine sx_icmp_eq X (by decide) (by decide) (tgt := 16) dX5_stepIsMuch_7 (by decide) (fun h => absurd h (by decide)) (fun _ => ?_)
    refine lv_iload_n X.1.1 X.1.2.1 dX5_stepIsMuch_10 rfl (lv_at hl 2 rfl) ?_
    refine lv_bipush (v := nI 6) X.1.1 X.1.2.1 dX5_stepIsMuch_11 (by decide) ?_
    refine sx_icmp_ne X (by decide) (by decide) (tgt := 20) dX5_stepIsMuch_13 (by decide) (fun _ => ?_) (fun h => absurd h (by decide))
    refine lv_iconst (v := nI 0) X.1.1 X.1.2.1 dX5_stepIsMuch_20 (by decide) ?_
    refine lv_istore_n (lv' := [(3, .int (nI 0)), (0, rf G 1), (1, .int (nI (t))), (2, .int (nI 1))]) X.1.1 X.1.2.1 dX5_stepIsMuch_21 rfl hl (by decide) rfl (fun ls hl => ?_)
    refine lv_iload_n X.1.1 X.1.2.1 dX5_stepIsMuch_22 rfl (lv_at hl 0 rfl) ?_
    refine sx_if_eq X (by decide) (tgt := 44) dX5_stepIsMuch_23 (by decide) (fun _ => ?_) (fun h => absurd h (by decide))
    refine lv_iconst (v := nI 0) X.1.1 X.1.2.1 dX5_stepIsMuch_44 (by decide) ?_
    rw [hQ]
    exact sx_zret X rfl (by decide) hs rfl hP dX5_stepIsMuch_45 (⟨rfl, Or.inr ⟨fun q => absurd q.1 (by decide), rfl⟩⟩)
  · refine lv_iload_n X.1.1 X.1.2.1 dX5_stepIsMuch_0 rfl (lv_at hl 2 rfl) ?_
    refine lv_iconst (v := nI 3) X.1.1 X.1.2.1 dX5_stepIsMuch_1 (by decide) ?_
    refine sx_icmp_eq X (by decide) (by decide) (tgt := 16) dX5_stepIsMuch_2 (by decide) (fun h => absurd h (by decide)) (fun _ => ?_)
    refine lv_iload_n X.1.1 X.1.2.1 dX5_stepIsMuch_5 rfl (lv_at hl 2 rfl) ?_
    refine lv_iconst (v := nI 4) X.1.1 X.1.2.1 dX5_stepIsMuch_6 (by decide) ?_
    refine sx_icmp_eq X (by decide) (by decide) (tgt := 16) dX5_stepIsMuch_7 (by decide) (fun h => absurd h (by decide)) (fun _ => ?_)
    refine lv_iload_n X.1.1 X.1.2.1 dX5_stepIsMuch_10 rfl (lv_at hl 2 rfl) ?_
    refine lv_bipush (v := nI 6) X.1.1 X.1.2.1 dX5_stepIsMuch_11 (by decide) ?_
    refine sx_icmp_ne X (by decide) (by decide) (tgt := 20) dX5_stepIsMuch_13 (by decide) (fun _ => ?_) (fun h => absurd h (by decide))
    refine lv_iconst (v := nI 0) X.1.1 X.1.2.1 dX5_stepIsMuch_20 (by decide) ?_
    refine lv_istore_n (lv' := [(3, .int (nI 0)), (0, rf G 1), (1, .int (nI (t))), (2, .int (nI 2))]) X.1.1 X.1.2.1 dX5_stepIsMuch_21 rfl hl (by decide) rfl (fun ls hl => ?_)
    refine lv_iload_n X.1.1 X.1.2.1 dX5_stepIsMuch_22 rfl (lv_at hl 0 rfl) ?_
    refine sx_if_eq X (by decide) (tgt := 44) dX5_stepIsMuch_23 (by decide) (fun _ => ?_) (fun h => absurd h (by decide))
    refine lv_iconst (v := nI 0) X.1.1 X.1.2.1 dX5_stepIsMuch_44 (by decide) ?_
    rw [hQ]
    exact sx_zret X rfl (by decide) hs rfl hP dX5_stepIsMuch_45 (⟨rfl, Or.inr ⟨fun q => absurd q.1 (by decide), rfl⟩⟩)
  · refine lv_iload_n X.1.1 X.1.2.1 dX5_stepIsMuch_0 rfl (lv_at hl 2 rfl) ?_
    refine lv_iconst (v := nI 3) X.1.1 X.1.2.1 dX5_stepIsMuch_1 (by decide) ?_
    refine sx_icmp_eq X (by decide) (by decide) (tgt := 16) dX5_stepIsMuch_2 (by decide) (fun _ => ?_) (fun h => absurd h (by decide))
    refine lv_iconst (v := nI 1) X.1.1 X.1.2.1 dX5_stepIsMuch_16 (by decide) ?_
    refine lv_goto (tgt := 21) X.1.1 X.1.2.1 dX5_stepIsMuch_17 (by decide) ?_
    refine lv_istore_n (lv' := [(3, .int (nI 1)), (0, rf G 1), (1, .int (nI (t))), (2, .int (nI 3))]) X.1.1 X.1.2.1 dX5_stepIsMuch_21 rfl hl (by decide) rfl (fun ls hl => ?_)
    refine lv_iload_n X.1.1 X.1.2.1 dX5_stepIsMuch_22 rfl (lv_at hl 0 rfl) ?_
    refine sx_if_eq X (by decide) (tgt := 44) dX5_stepIsMuch_23 (by decide) (fun h => absurd h (by decide)) (fun _ => ?_)
    refine lv_aload_n X.1.1 X.1.2.1 dX5_stepIsMuch_26 rfl (lv_at hl 1 rfl) ?_
    refine sx_get X hP in_X5_stepIsMuch_X5 h1 (by decide) rfl 2 (by decide) lk_X5_stepIsMuch_fieldLink_RX5_23_RaceWatch_World_ofThreads_LRaceWatch_Clocks rfl dX5_stepIsMuch_27 ?_
    refine lv_iload_n X.1.1 X.1.2.1 dX5_stepIsMuch_30 rfl (lv_at hl 2 rfl) ?_
    refine lv_iload_n X.1.1 X.1.2.1 dX5_stepIsMuch_31 rfl (lv_at hl 2 rfl) ?_
    refine sx_cvI (As := [.int (nI (t)), .int (nI (t))]) (rest := []) X (mX1_number l (ci := 4) (cj := 5) (L := 16) (row := t) (t := t) (by decide) (by decide) (by decide) (by decide) (by omega) h4 h5) gX5_stepIsMuch_X1_number rfl yv_X1_number ⟨Nat.le_of_ble_eq_true rfl, Nat.le_of_ble_eq_true rfl⟩ h4 (by decide) rfl rfl hl.1 rfl (Nat.le_of_ble_eq_true rfl) dX5_stepIsMuch_32 ⟨Nat.le_of_ble_eq_true rfl, Nat.le_of_ble_eq_true rfl⟩ hs rfl hP (fun r1 F1 H1 l1 hp hP => ?_)
    obtain ⟨rfl, rfl⟩ := hp
    rw [show ct (4 * t + t) = ct (5 * t) from congrArg _ (by omega)]
    refine lv_ldc (v := 2147483647) X.1.1 X.1.2.1 X.1.2.2.2.1 (X.1.2.2.2.2 _ lk_X5_stepIsMuch_constant_RX5_98_2147483647) dX5_stepIsMuch_35 ?_
    refine lv_icmp_ne X.1.1 X.1.2.1 (tgt := 44) dX5_stepIsMuch_37 (by decide) (fun c37 => ?_) (fun c37 => ?_)
    · refine lv_iconst (v := nI 0) X.1.1 X.1.2.1 dX5_stepIsMuch_44 (by decide) ?_
      rw [hQ]
      exact sx_zret X rfl (by decide) hs rfl hP dX5_stepIsMuch_45 (⟨rfl, Or.inr ⟨fun q => c37 q.2, rfl⟩⟩)
    · refine lv_iconst (v := nI 1) X.1.1 X.1.2.1 dX5_stepIsMuch_40 (by decide) ?_
      refine lv_goto (tgt := 45) X.1.1 X.1.2.1 dX5_stepIsMuch_41 (by decide) ?_
      rw [hQ]
      exact sx_zret X rfl (by decide) hs rfl hP dX5_stepIsMuch_45 (⟨rfl, Or.inl ⟨⟨by decide, c37⟩, rfl⟩⟩)
  · refine lv_iload_n X.1.1 X.1.2.1 dX5_stepIsMuch_0 rfl (lv_at hl 2 rfl) ?_
    refine lv_iconst (v := nI 3) X.1.1 X.1.2.1 dX5_stepIsMuch_1 (by decide) ?_
    refine sx_icmp_eq X (by decide) (by decide) (tgt := 16) dX5_stepIsMuch_2 (by decide) (fun h => absurd h (by decide)) (fun _ => ?_)
    refine lv_iload_n X.1.1 X.1.2.1 dX5_stepIsMuch_5 rfl (lv_at hl 2 rfl) ?_
    refine lv_iconst (v := nI 4) X.1.1 X.1.2.1 dX5_stepIsMuch_6 (by decide) ?_
    refine sx_icmp_eq X (by decide) (by decide) (tgt := 16) dX5_stepIsMuch_7 (by decide) (fun _ => ?_) (fun h => absurd h (by decide))
    refine lv_iconst (v := nI 1) X.1.1 X.1.2.1 dX5_stepIsMuch_16 (by decide) ?_
    refine lv_goto (tgt := 21) X.1.1 X.1.2.1 dX5_stepIsMuch_17 (by decide) ?_
    refine lv_istore_n (lv' := [(3, .int (nI 1)), (0, rf G 1), (1, .int (nI (t))), (2, .int (nI 4))]) X.1.1 X.1.2.1 dX5_stepIsMuch_21 rfl hl (by decide) rfl (fun ls hl => ?_)
    refine lv_iload_n X.1.1 X.1.2.1 dX5_stepIsMuch_22 rfl (lv_at hl 0 rfl) ?_
    refine sx_if_eq X (by decide) (tgt := 44) dX5_stepIsMuch_23 (by decide) (fun h => absurd h (by decide)) (fun _ => ?_)
    refine lv_aload_n X.1.1 X.1.2.1 dX5_stepIsMuch_26 rfl (lv_at hl 1 rfl) ?_
    refine sx_get X hP in_X5_stepIsMuch_X5 h1 (by decide) rfl 2 (by decide) lk_X5_stepIsMuch_fieldLink_RX5_23_RaceWatch_World_ofThreads_LRaceWatch_Clocks rfl dX5_stepIsMuch_27 ?_
    refine lv_iload_n X.1.1 X.1.2.1 dX5_stepIsMuch_30 rfl (lv_at hl 2 rfl) ?_
    refine lv_iload_n X.1.1 X.1.2.1 dX5_stepIsMuch_31 rfl (lv_at hl 2 rfl) ?_
    refine sx_cvI (As := [.int (nI (t)), .int (nI (t))]) (rest := []) X (mX1_number l (ci := 4) (cj := 5) (L := 16) (row := t) (t := t) (by decide) (by decide) (by decide) (by decide) (by omega) h4 h5) gX5_stepIsMuch_X1_number rfl yv_X1_number ⟨Nat.le_of_ble_eq_true rfl, Nat.le_of_ble_eq_true rfl⟩ h4 (by decide) rfl rfl hl.1 rfl (Nat.le_of_ble_eq_true rfl) dX5_stepIsMuch_32 ⟨Nat.le_of_ble_eq_true rfl, Nat.le_of_ble_eq_true rfl⟩ hs rfl hP (fun r2 F2 H2 l2 hp hP => ?_)
    obtain ⟨rfl, rfl⟩ := hp
    rw [show ct (4 * t + t) = ct (5 * t) from congrArg _ (by omega)]
    refine lv_ldc (v := 2147483647) X.1.1 X.1.2.1 X.1.2.2.2.1 (X.1.2.2.2.2 _ lk_X5_stepIsMuch_constant_RX5_98_2147483647) dX5_stepIsMuch_35 ?_
    refine lv_icmp_ne X.1.1 X.1.2.1 (tgt := 44) dX5_stepIsMuch_37 (by decide) (fun c37 => ?_) (fun c37 => ?_)
    · refine lv_iconst (v := nI 0) X.1.1 X.1.2.1 dX5_stepIsMuch_44 (by decide) ?_
      rw [hQ]
      exact sx_zret X rfl (by decide) hs rfl hP dX5_stepIsMuch_45 (⟨rfl, Or.inr ⟨fun q => c37 q.2, rfl⟩⟩)
    · refine lv_iconst (v := nI 1) X.1.1 X.1.2.1 dX5_stepIsMuch_40 (by decide) ?_
      refine lv_goto (tgt := 45) X.1.1 X.1.2.1 dX5_stepIsMuch_41 (by decide) ?_
      rw [hQ]
      exact sx_zret X rfl (by decide) hs rfl hP dX5_stepIsMuch_45 (⟨rfl, Or.inl ⟨⟨by decide, c37⟩, rfl⟩⟩)
  · refine lv_iload_n X.1.1 X.1.2.1 dX5_stepIsMuch_0 rfl (lv_at hl 2 rfl) ?_
    refine lv_iconst (v := nI 3) X.1.1 X.1.2.1 dX5_stepIsMuch_1 (by decide) ?_
    refine sx_icmp_eq X (by decide) (by decide) (tgt := 16) dX5_stepIsMuch_2 (by decide) (fun h => absurd h (by decide)) (fun _ => ?_)
    refine lv_iload_n X.1.1 X.1.2.1 dX5_stepIsMuch_5 rfl (lv_at hl 2 rfl) ?_
    refine lv_iconst (v := nI 4) X.1.1 X.1.2.1 dX5_stepIsMuch_6 (by decide) ?_
    refine sx_icmp_eq X (by decide) (by decide) (tgt := 16) dX5_stepIsMuch_7 (by decide) (fun h => absurd h (by decide)) (fun _ => ?_)
    refine lv_iload_n X.1.1 X.1.2.1 dX5_stepIsMuch_10 rfl (lv_at hl 2 rfl) ?_
    refine lv_bipush (v := nI 6) X.1.1 X.1.2.1 dX5_stepIsMuch_11 (by decide) ?_
    refine sx_icmp_ne X (by decide) (by decide) (tgt := 20) dX5_stepIsMuch_13 (by decide) (fun _ => ?_) (fun h => absurd h (by decide))
    refine lv_iconst (v := nI 0) X.1.1 X.1.2.1 dX5_stepIsMuch_20 (by decide) ?_
    refine lv_istore_n (lv' := [(3, .int (nI 0)), (0, rf G 1), (1, .int (nI (t))), (2, .int (nI 5))]) X.1.1 X.1.2.1 dX5_stepIsMuch_21 rfl hl (by decide) rfl (fun ls hl => ?_)
    refine lv_iload_n X.1.1 X.1.2.1 dX5_stepIsMuch_22 rfl (lv_at hl 0 rfl) ?_
    refine sx_if_eq X (by decide) (tgt := 44) dX5_stepIsMuch_23 (by decide) (fun _ => ?_) (fun h => absurd h (by decide))
    refine lv_iconst (v := nI 0) X.1.1 X.1.2.1 dX5_stepIsMuch_44 (by decide) ?_
    rw [hQ]
    exact sx_zret X rfl (by decide) hs rfl hP dX5_stepIsMuch_45 (⟨rfl, Or.inr ⟨fun q => absurd q.1 (by decide), rfl⟩⟩)
  · refine lv_iload_n X.1.1 X.1.2.1 dX5_stepIsMuch_0 rfl (lv_at hl 2 rfl) ?_
    refine lv_iconst (v := nI 3) X.1.1 X.1.2.1 dX5_stepIsMuch_1 (by decide) ?_
    refine sx_icmp_eq X (by decide) (by decide) (tgt := 16) dX5_stepIsMuch_2 (by decide) (fun h => absurd h (by decide)) (fun _ => ?_)
    refine lv_iload_n X.1.1 X.1.2.1 dX5_stepIsMuch_5 rfl (lv_at hl 2 rfl) ?_
    refine lv_iconst (v := nI 4) X.1.1 X.1.2.1 dX5_stepIsMuch_6 (by decide) ?_
    refine sx_icmp_eq X (by decide) (by decide) (tgt := 16) dX5_stepIsMuch_7 (by decide) (fun h => absurd h (by decide)) (fun _ => ?_)
    refine lv_iload_n X.1.1 X.1.2.1 dX5_stepIsMuch_10 rfl (lv_at hl 2 rfl) ?_
    refine lv_bipush (v := nI 6) X.1.1 X.1.2.1 dX5_stepIsMuch_11 (by decide) ?_
    refine sx_icmp_ne X (by decide) (by decide) (tgt := 20) dX5_stepIsMuch_13 (by decide) (fun h => absurd h (by decide)) (fun _ => ?_)
    refine lv_iconst (v := nI 1) X.1.1 X.1.2.1 dX5_stepIsMuch_16 (by decide) ?_
    refine lv_goto (tgt := 21) X.1.1 X.1.2.1 dX5_stepIsMuch_17 (by decide) ?_
    refine lv_istore_n (lv' := [(3, .int (nI 1)), (0, rf G 1), (1, .int (nI (t))), (2, .int (nI 6))]) X.1.1 X.1.2.1 dX5_stepIsMuch_21 rfl hl (by decide) rfl (fun ls hl => ?_)
    refine lv_iload_n X.1.1 X.1.2.1 dX5_stepIsMuch_22 rfl (lv_at hl 0 rfl) ?_
    refine sx_if_eq X (by decide) (tgt := 44) dX5_stepIsMuch_23 (by decide) (fun h => absurd h (by decide)) (fun _ => ?_)
    refine lv_aload_n X.1.1 X.1.2.1 dX5_stepIsMuch_26 rfl (lv_at hl 1 rfl) ?_
    refine sx_get X hP in_X5_stepIsMuch_X5 h1 (by decide) rfl 2 (by decide) lk_X5_stepIsMuch_fieldLink_RX5_23_RaceWatch_World_ofThreads_LRaceWatch_Clocks rfl dX5_stepIsMuch_27 ?_
    refine lv_iload_n X.1.1 X.1.2.1 dX5_stepIsMuch_30 rfl (lv_at hl 2 rfl) ?_
    refine lv_iload_n X.1.1 X.1.2.1 dX5_stepIsMuch_31 rfl (lv_at hl 2 rfl) ?_
    refine sx_cvI (As := [.int (nI (t)), .int (nI (t))]) (rest := []) X (mX1_number l (ci := 4) (cj := 5) (L := 16) (row := t) (t := t) (by decide) (by decide) (by decide) (by decide) (by omega) h4 h5) gX5_stepIsMuch_X1_number rfl yv_X1_number ⟨Nat.le_of_ble_eq_true rfl, Nat.le_of_ble_eq_true rfl⟩ h4 (by decide) rfl rfl hl.1 rfl (Nat.le_of_ble_eq_true rfl) dX5_stepIsMuch_32 ⟨Nat.le_of_ble_eq_true rfl, Nat.le_of_ble_eq_true rfl⟩ hs rfl hP (fun r3 F3 H3 l3 hp hP => ?_)
    obtain ⟨rfl, rfl⟩ := hp
    rw [show ct (4 * t + t) = ct (5 * t) from congrArg _ (by omega)]
    refine lv_ldc (v := 2147483647) X.1.1 X.1.2.1 X.1.2.2.2.1 (X.1.2.2.2.2 _ lk_X5_stepIsMuch_constant_RX5_98_2147483647) dX5_stepIsMuch_35 ?_
    refine lv_icmp_ne X.1.1 X.1.2.1 (tgt := 44) dX5_stepIsMuch_37 (by decide) (fun c37 => ?_) (fun c37 => ?_)
    · refine lv_iconst (v := nI 0) X.1.1 X.1.2.1 dX5_stepIsMuch_44 (by decide) ?_
      rw [hQ]
      exact sx_zret X rfl (by decide) hs rfl hP dX5_stepIsMuch_45 (⟨rfl, Or.inr ⟨fun q => c37 q.2, rfl⟩⟩)
    · refine lv_iconst (v := nI 1) X.1.1 X.1.2.1 dX5_stepIsMuch_40 (by decide) ?_
      refine lv_goto (tgt := 45) X.1.1 X.1.2.1 dX5_stepIsMuch_41 (by decide) ?_
      rw [hQ]
      exact sx_zret X rfl (by decide) hs rfl hP dX5_stepIsMuch_45 (⟨rfl, Or.inl ⟨⟨by decide, c37⟩, rfl⟩⟩)
  · refine lv_iload_n X.1.1 X.1.2.1 dX5_stepIsMuch_0 rfl (lv_at hl 2 rfl) ?_
    refine lv_iconst (v := nI 3) X.1.1 X.1.2.1 dX5_stepIsMuch_1 (by decide) ?_
    refine sx_icmp_eq X (by decide) (by decide) (tgt := 16) dX5_stepIsMuch_2 (by decide) (fun h => absurd h (by decide)) (fun _ => ?_)
    refine lv_iload_n X.1.1 X.1.2.1 dX5_stepIsMuch_5 rfl (lv_at hl 2 rfl) ?_
    refine lv_iconst (v := nI 4) X.1.1 X.1.2.1 dX5_stepIsMuch_6 (by decide) ?_
    refine sx_icmp_eq X (by decide) (by decide) (tgt := 16) dX5_stepIsMuch_7 (by decide) (fun h => absurd h (by decide)) (fun _ => ?_)
    refine lv_iload_n X.1.1 X.1.2.1 dX5_stepIsMuch_10 rfl (lv_at hl 2 rfl) ?_
    refine lv_bipush (v := nI 6) X.1.1 X.1.2.1 dX5_stepIsMuch_11 (by decide) ?_
    refine sx_icmp_ne X (by decide) (by decide) (tgt := 20) dX5_stepIsMuch_13 (by decide) (fun _ => ?_) (fun h => absurd h (by decide))
    refine lv_iconst (v := nI 0) X.1.1 X.1.2.1 dX5_stepIsMuch_20 (by decide) ?_
    refine lv_istore_n (lv' := [(3, .int (nI 0)), (0, rf G 1), (1, .int (nI (t))), (2, .int (nI 7))]) X.1.1 X.1.2.1 dX5_stepIsMuch_21 rfl hl (by decide) rfl (fun ls hl => ?_)
    refine lv_iload_n X.1.1 X.1.2.1 dX5_stepIsMuch_22 rfl (lv_at hl 0 rfl) ?_
    refine sx_if_eq X (by decide) (tgt := 44) dX5_stepIsMuch_23 (by decide) (fun _ => ?_) (fun h => absurd h (by decide))
    refine lv_iconst (v := nI 0) X.1.1 X.1.2.1 dX5_stepIsMuch_44 (by decide) ?_
    rw [hQ]
    exact sx_zret X rfl (by decide) hs rfl hP dX5_stepIsMuch_45 (⟨rfl, Or.inr ⟨fun q => absurd q.1 (by decide), rfl⟩⟩)
theorem ys_X5_makeStep : yX5_makeStep.cls ≠ "java/lang/invoke/MethodHandle" ∧ yX5_makeStep.cls ≠ "java/lang/invoke/VarHandle" ∧ (parseMethodDescriptor yX5_makeStep.desc).map (fun d => d.parameters.length) = some 1 := by decide +kernel
theorem yv_X5_makeStep : yX5_makeStep.cls = RX5 ∧ yX5_makeStep.cls ≠ "java/lang/invoke/MethodHandle" ∧ yX5_makeStep.cls ≠ "java/lang/invoke/VarHandle" ∧ (parseMethodDescriptor yX5_makeStep.desc).map (fun d => d.parameters.length) = some 1 := ⟨rfl, ys_X5_makeStep⟩
theorem in_X5_makeStep_X5 : ∀ w ∈ wsX50, w ∈ wsX5_makeStep := fun _ h => List.mem_cons_of_mem _ (List.mem_append_left _ (List.mem_append_right _ (h)))
theorem lk_X5_makeStep_fieldLink_RX5_23_RaceWatch_World_ofThreads_LRaceWatch_Clocks : (.fieldLink RX5 23 "RaceWatch$World" "ofThreads" "LRaceWatch$Clocks;" : Cond) ∈ wsX5_makeStep := List.mem_cons_of_mem _ (List.mem_append_left _ (List.mem_append_left _ (List.mem_of_getElem? (i := 0) rfl)))
theorem lk_X5_makeStep_constant_RX5_98_2147483647 : (.constant RX5 98 (2147483647) : Cond) ∈ wsX5_makeStep := List.mem_cons_of_mem _ (List.mem_append_left _ (List.mem_append_left _ (List.mem_of_getElem? (i := 1) rfl)))
abbrev rmX5_makeStep : Room := { frames := 1, cells := 0, slots := 0, locals := 23 }
set_option maxHeartbeats 800000 in
set_option maxRecDepth 100000 in
theorem mX5_makeStep {G : sx_G} (l : Launch) {F : Nat → va_E} {ct : Nat → Int32} {r4 : Value} {t : Nat}  (ht : t < 4) (h1 : F (1) = ob 5 ([rf G 2, rf G 3, rf G 4, rf G 6, rf G 8, rf G 10, rf G 19])) (h4 : F (4) = ob 1 ([r4, rf G 5])) (h5 : F (5) = rI G (16) (ct)) : sx_V G l yX5_makeStep wsX5_makeStep rmX5_makeStep [rf G 1, .int (nI (t))] (97) F (97) (fun F1 => F1 5 = rI G 16 (mstep ct t) ∧ ∀ j, j ≠ 5 → F1 j = F j) := by
  refine sx_enter (cc := cX5_makeStep) (maxL := 3) (ret := none) (own := RX5) (nm := "makeStep") (by decide) rfl rfl rfl (Nat.le_of_ble_eq_true rfl) ?_
  intro pp ee ss mm args below meth kc ls Q hQ X hs hP hl
  have hl : lv_has ls 3 [(0, rf G 1), (1, .int (nI (t)))] := hl
  have hO : ∀ j, j ≠ 5 → F j = F j := fun _ _ => rfl
  refine lv_aload_n X.1.1 X.1.2.1 dX5_makeStep_0 rfl (lv_at hl 0 rfl) ?_
  refine sx_get X hP in_X5_makeStep_X5 h1 (by decide) rfl 2 (by decide) lk_X5_makeStep_fieldLink_RX5_23_RaceWatch_World_ofThreads_LRaceWatch_Clocks rfl dX5_makeStep_1 ?_
  refine lv_iload_n X.1.1 X.1.2.1 dX5_makeStep_4 rfl (lv_at hl 1 rfl) ?_
  refine lv_iload_n X.1.1 X.1.2.1 dX5_makeStep_5 rfl (lv_at hl 1 rfl) ?_
  refine sx_cvI (As := [.int (nI (t)), .int (nI (t))]) (rest := []) X (mX1_number l (ci := 4) (cj := 5) (L := 16) (row := t) (t := t) (by decide) (by decide) (by decide) (by decide) (by omega) h4 h5) gX5_makeStep_X1_number rfl yv_X1_number ⟨Nat.le_of_ble_eq_true rfl, Nat.le_of_ble_eq_true rfl⟩ h4 (by decide) rfl rfl hl.1 rfl (Nat.le_of_ble_eq_true rfl) dX5_makeStep_6 ⟨Nat.le_of_ble_eq_true rfl, Nat.le_of_ble_eq_true rfl⟩ hs rfl hP (fun r1 F1 H1 l1 hp hP => ?_)
  obtain ⟨rfl, rfl⟩ := hp
  rw [show ct (4 * t + t) = ct (5 * t) from congrArg _ (by omega)]
  refine lv_istore_n (lv' := [(2, .int (ct (5 * t))), (0, rf G 1), (1, .int (nI (t)))]) X.1.1 X.1.2.1 dX5_makeStep_9 rfl hl (by decide) rfl (fun ls hl => ?_)
  refine lv_iload_n X.1.1 X.1.2.1 dX5_makeStep_10 rfl (lv_at hl 0 rfl) ?_
  refine lv_ldc (v := 2147483647) X.1.1 X.1.2.1 X.1.2.2.2.1 (X.1.2.2.2.2 _ lk_X5_makeStep_constant_RX5_98_2147483647) dX5_makeStep_11 ?_
  refine lv_icmp_ge X.1.1 X.1.2.1 (tgt := 28) dX5_makeStep_13 (by decide) (fun c13 => ?_) (fun c13 => ?_)
  · rw [hQ]
    exact sx_vret X rfl hs rfl hP dX5_makeStep_28 (⟨h5.trans (by unfold mstep; rw [if_neg (Int32.not_lt.mpr c13)]), hO⟩)
  · refine lv_aload_n X.1.1 X.1.2.1 dX5_makeStep_16 rfl (lv_at hl 1 rfl) ?_
    refine sx_get X hP in_X5_makeStep_X5 h1 (by decide) rfl 2 (by decide) lk_X5_makeStep_fieldLink_RX5_23_RaceWatch_World_ofThreads_LRaceWatch_Clocks rfl dX5_makeStep_17 ?_
    refine lv_iload_n X.1.1 X.1.2.1 dX5_makeStep_20 rfl (lv_at hl 2 rfl) ?_
    refine lv_iload_n X.1.1 X.1.2.1 dX5_makeStep_21 rfl (lv_at hl 2 rfl) ?_
    refine lv_iload_n X.1.1 X.1.2.1 dX5_makeStep_22 rfl (lv_at hl 0 rfl) ?_
    refine lv_iconst (v := nI 1) X.1.1 X.1.2.1 dX5_makeStep_23 (by decide) ?_
    refine lv_iadd X.1.1 X.1.2.1 dX5_makeStep_24 ?_
    refine sx_cvV (As := [.int (nI (t)), .int (nI (t)), .int ((ct (5 * t)) + (nI (1)))]) (rest := []) X (mX1_set l (ci := 4) (cj := 5) (L := 16) (row := t) (t := t) (v := ((ct (5 * t)) + (nI (1)))) (by decide) (by decide) (by decide) (by decide) (by omega) h4 h5) gX5_makeStep_X1_set rfl yv_X1_set ⟨Nat.le_of_ble_eq_true rfl, Nat.le_of_ble_eq_true rfl⟩ h4 (by decide) rfl rfl hl.1 rfl (Nat.le_of_ble_eq_true rfl) dX5_makeStep_25 ⟨Nat.le_of_ble_eq_true rfl, Nat.le_of_ble_eq_true rfl⟩ hs rfl hP (fun F2 H2 l2 hp hP => ?_)
    obtain ⟨e2, o2⟩ := hp
    rw [show 4 * t + t = 5 * t by omega] at e2
    obtain ⟨w2, hw2⟩ : ∃ z, z = upd ct (5 * t) ((ct (5 * t)) + (nI (1))) := ⟨_, rfl⟩
    rw [← hw2] at e2
    have h5 : F2 (5) = rI G (16) (w2) := e2
    have h1 := (o2 (1) (by decide)).trans h1
    have h4 := (o2 (4) (by decide)).trans h4
    have hO : ∀ j, j ≠ 5 → F2 j = F j := fun j hj => (o2 j (by omega)).trans (hO j hj)
    rw [hQ]
    exact sx_vret X rfl hs rfl hP dX5_makeStep_28 (⟨h5.trans (by unfold mstep; rw [if_pos (Int32.not_le.mp c13), hw2]), hO⟩)
theorem ys_X5_takeIn : yX5_takeIn.cls ≠ "java/lang/invoke/MethodHandle" ∧ yX5_takeIn.cls ≠ "java/lang/invoke/VarHandle" ∧ (parseMethodDescriptor yX5_takeIn.desc).map (fun d => d.parameters.length) = some 3 := by decide +kernel
theorem yv_X5_takeIn : yX5_takeIn.cls = RX5 ∧ yX5_takeIn.cls ≠ "java/lang/invoke/MethodHandle" ∧ yX5_takeIn.cls ≠ "java/lang/invoke/VarHandle" ∧ (parseMethodDescriptor yX5_takeIn.desc).map (fun d => d.parameters.length) = some 3 := ⟨rfl, ys_X5_takeIn⟩
theorem in_X5_takeIn_X5 : ∀ w ∈ wsX50, w ∈ wsX5_takeIn := fun _ h => List.mem_cons_of_mem _ (List.mem_append_left _ (List.mem_append_right _ (h)))
theorem lk_X5_takeIn_fieldLink_RX5_23_RaceWatch_World_ofThreads_LRaceWatch_Clocks : (.fieldLink RX5 23 "RaceWatch$World" "ofThreads" "LRaceWatch$Clocks;" : Cond) ∈ wsX5_takeIn := List.mem_cons_of_mem _ (List.mem_append_left _ (List.mem_append_left _ (List.mem_of_getElem? (i := 0) rfl)))
theorem lk_X5_takeIn_fieldLink_RX5_27_RaceWatch_World_ofLocks_LRaceWatch_Clocks : (.fieldLink RX5 27 "RaceWatch$World" "ofLocks" "LRaceWatch$Clocks;" : Cond) ∈ wsX5_takeIn := List.mem_cons_of_mem _ (List.mem_append_left _ (List.mem_append_left _ (List.mem_of_getElem? (i := 1) rfl)))
theorem lk_X5_takeIn_fieldLink_RX5_15_RaceWatch_World_holders_I : (.fieldLink RX5 15 "RaceWatch$World" "holders" "[I" : Cond) ∈ wsX5_takeIn := List.mem_cons_of_mem _ (List.mem_append_left _ (List.mem_append_left _ (List.mem_of_getElem? (i := 2) rfl)))
theorem lk_X5_takeIn_fieldLink_RX5_30_RaceWatch_World_ofSeenCells_LRaceWatch_Clocks : (.fieldLink RX5 30 "RaceWatch$World" "ofSeenCells" "LRaceWatch$Clocks;" : Cond) ∈ wsX5_takeIn := List.mem_cons_of_mem _ (List.mem_append_left _ (List.mem_append_left _ (List.mem_of_getElem? (i := 3) rfl)))
theorem lk_X5_takeIn_fieldLink_RX5_9_RaceWatch_World_states_I : (.fieldLink RX5 9 "RaceWatch$World" "states" "[I" : Cond) ∈ wsX5_takeIn := List.mem_cons_of_mem _ (List.mem_append_left _ (List.mem_append_left _ (List.mem_of_getElem? (i := 4) rfl)))
abbrev rmX5_takeIn : Room := { frames := 2, cells := 0, slots := 0, locals := 47 }
set_option maxHeartbeats 800000 in
set_option maxRecDepth 100000 in
theorem mX5_takeIn {G : sx_G} (l : Launch) {F : Nat → va_E} {st ho ct cl cs : Nat → Int32} {r4 r6 r8 : Value} {t s x : Nat}  (ht : t < 4) (hs8 : s < 8) (hx : x < boundF s) (h1 : F (1) = ob 5 ([rf G 2, rf G 3, rf G 4, rf G 6, rf G 8, rf G 10, rf G 19])) (h2 : F (2) = rI G (4) (st)) (h3 : F (3) = rI G (3) (ho)) (h4 : F (4) = ob 1 ([r4, rf G 5])) (h5 : F (5) = rI G (16) (ct)) (h6 : F (6) = ob 1 ([r6, rf G 7])) (h7 : F (7) = rI G (12) (cl)) (h8 : F (8) = ob 1 ([r8, rf G 9])) (h9 : F (9) = rI G (8) (cs)) : sx_V G l yX5_takeIn wsX5_takeIn rmX5_takeIn [rf G 1, .int (nI (t)), .int (nI (s)), .int (nI (x))] (97) F (97) (fun F1 => F1 2 = rI G 4 (tiS s st x) ∧ F1 3 = rI G 3 (tiH s ho t x) ∧ F1 5 = rI G 16 (tiC s ct cl cs t x) ∧ ∀ j, j ≠ 2 ∧ j ≠ 3 ∧ j ≠ 5 → F1 j = F j) := by
  refine sx_enter (cc := cX5_takeIn) (maxL := 4) (ret := none) (own := RX5) (nm := "takeIn") (by decide) rfl rfl rfl (Nat.le_of_ble_eq_true rfl) ?_
  intro pp ee ss mm args below meth kc ls Q hQ X hs hP hl
  have hl : lv_has ls 4 [(0, rf G 1), (1, .int (nI (t))), (2, .int (nI (s))), (3, .int (nI (x)))] := hl
  have hO : ∀ j, j ≠ 2 ∧ j ≠ 3 ∧ j ≠ 5 → F j = F j := fun _ _ => rfl
  rcases (show s = 0 ∨ s = 1 ∨ s = 2 ∨ s = 3 ∨ s = 4 ∨ s = 5 ∨ s = 6 ∨ s = 7 by omega) with rfl | rfl | rfl | rfl | rfl | rfl | rfl | rfl
  · have hx : x < 4 := hx
    refine lv_iload_n X.1.1 X.1.2.1 dX5_takeIn_0 rfl (lv_at hl 2 rfl) ?_
    refine lv_tableOut (tgt := 112) X.1.1 X.1.2.1 dX5_takeIn_1 (by decide) (by decide) ?_
    rw [hQ]
    exact sx_vret X rfl hs rfl hP dX5_takeIn_112 (⟨h2, h3, h5, hO⟩)
  · have hx : x < 4 := hx
    refine lv_iload_n X.1.1 X.1.2.1 dX5_takeIn_0 rfl (lv_at hl 2 rfl) ?_
    refine lv_tableOut (tgt := 112) X.1.1 X.1.2.1 dX5_takeIn_1 (by decide) (by decide) ?_
    rw [hQ]
    exact sx_vret X rfl hs rfl hP dX5_takeIn_112 (⟨h2, h3, h5, hO⟩)
  · have hx : x < 3 := hx
    refine lv_iload_n X.1.1 X.1.2.1 dX5_takeIn_0 rfl (lv_at hl 2 rfl) ?_
    refine lv_tableIn (off := 39) (tgt := 40) X.1.1 X.1.2.1 dX5_takeIn_1 (by decide) (by decide) (by decide) (by decide) ?_
    refine lv_aload_n X.1.1 X.1.2.1 dX5_takeIn_40 rfl (lv_at hl 0 rfl) ?_
    refine sx_get X hP in_X5_takeIn_X5 h1 (by decide) rfl 2 (by decide) lk_X5_takeIn_fieldLink_RX5_23_RaceWatch_World_ofThreads_LRaceWatch_Clocks rfl dX5_takeIn_41 ?_
    refine lv_iload_n X.1.1 X.1.2.1 dX5_takeIn_44 rfl (lv_at hl 1 rfl) ?_
    refine lv_aload_n X.1.1 X.1.2.1 dX5_takeIn_45 rfl (lv_at hl 0 rfl) ?_
    refine sx_get X hP in_X5_takeIn_X5 h1 (by decide) rfl 3 (by decide) lk_X5_takeIn_fieldLink_RX5_27_RaceWatch_World_ofLocks_LRaceWatch_Clocks rfl dX5_takeIn_46 ?_
    refine lv_iload_n X.1.1 X.1.2.1 dX5_takeIn_49 rfl (lv_at hl 3 rfl) ?_
    refine sx_cvV (As := [.int (nI (t)), rf G 6, .int (nI (x))]) (rest := []) X (mX1_join l (ci := 4) (cj := 5) (ck := 6) (cl := 7) (L := 16) (M := 12) (row := t) (orow := x) (by decide) (by decide) (by decide) (by decide) (by decide) (by decide) (by decide) (by decide) (by decide) (by decide) (by omega) (by omega) h4 h5 h6 h7) gX5_takeIn_X1_join rfl yv_X1_join ⟨Nat.le_of_ble_eq_true rfl, Nat.le_of_ble_eq_true rfl⟩ h4 (by decide) rfl rfl hl.1 rfl (Nat.le_of_ble_eq_true rfl) dX5_takeIn_50 ⟨Nat.le_of_ble_eq_true rfl, Nat.le_of_ble_eq_true rfl⟩ hs rfl hP (fun F1 H1 l1 hp hP => ?_)
    obtain ⟨e1, o1⟩ := hp
    obtain ⟨w1, hw1⟩ : ∃ z, z = joinR ct (4 * t) cl (4 * x) := ⟨_, rfl⟩
    rw [← hw1] at e1
    have h5 : F1 (5) = rI G (16) (w1) := e1
    have h1 := (o1 (1) (by decide)).trans h1
    have h2 := (o1 (2) (by decide)).trans h2
    have h3 := (o1 (3) (by decide)).trans h3
    have h4 := (o1 (4) (by decide)).trans h4
    have h6 := (o1 (6) (by decide)).trans h6
    have h7 := (o1 (7) (by decide)).trans h7
    have h8 := (o1 (8) (by decide)).trans h8
    have h9 := (o1 (9) (by decide)).trans h9
    have hO : ∀ j, j ≠ 2 ∧ j ≠ 3 ∧ j ≠ 5 → F1 j = F j := fun j hj => (o1 j (by omega)).trans (hO j hj)
    refine lv_aload_n X.1.1 X.1.2.1 dX5_takeIn_53 rfl (lv_at hl 0 rfl) ?_
    refine sx_get X hP in_X5_takeIn_X5 h1 (by decide) rfl 1 (by decide) lk_X5_takeIn_fieldLink_RX5_15_RaceWatch_World_holders_I rfl dX5_takeIn_54 ?_
    refine lv_iload_n X.1.1 X.1.2.1 dX5_takeIn_57 rfl (lv_at hl 3 rfl) ?_
    refine lv_iload_n X.1.1 X.1.2.1 dX5_takeIn_58 rfl (lv_at hl 1 rfl) ?_
    refine sx_ast X hP h3 (by decide) (x) (by omega) (by decide) dX5_takeIn_59 (fun F2 H2 l2 e2 o2 hP => ?_)
    obtain ⟨w2, hw2⟩ : ∃ z, z = upd ho (x) (nI (t)) := ⟨_, rfl⟩
    rw [← hw2] at e2
    have h3 : F2 (3) = rI G (3) (w2) := e2
    have h1 := (o2 (1) (by decide)).trans h1
    have h2 := (o2 (2) (by decide)).trans h2
    have h4 := (o2 (4) (by decide)).trans h4
    have h5 := (o2 (5) (by decide)).trans h5
    have h6 := (o2 (6) (by decide)).trans h6
    have h7 := (o2 (7) (by decide)).trans h7
    have h8 := (o2 (8) (by decide)).trans h8
    have h9 := (o2 (9) (by decide)).trans h9
    have hO : ∀ j, j ≠ 2 ∧ j ≠ 3 ∧ j ≠ 5 → F2 j = F j := fun j hj => (o2 j (by omega)).trans (hO j hj)
    refine lv_goto (tgt := 112) X.1.1 X.1.2.1 dX5_takeIn_60 (by decide) ?_
    rw [hQ]
    exact sx_vret X rfl hs rfl hP dX5_takeIn_112 (⟨h2, h3.trans (by rw [hw2]; (try rw [hw1]); rfl), h5.trans (by rw [hw1]; rfl), hO⟩)
  · have hx : x < 3 := hx
    refine lv_iload_n X.1.1 X.1.2.1 dX5_takeIn_0 rfl (lv_at hl 2 rfl) ?_
    refine lv_tableIn (off := 62) (tgt := 63) X.1.1 X.1.2.1 dX5_takeIn_1 (by decide) (by decide) (by decide) (by decide) ?_
    refine lv_aload_n X.1.1 X.1.2.1 dX5_takeIn_63 rfl (lv_at hl 0 rfl) ?_
    refine sx_get X hP in_X5_takeIn_X5 h1 (by decide) rfl 1 (by decide) lk_X5_takeIn_fieldLink_RX5_15_RaceWatch_World_holders_I rfl dX5_takeIn_64 ?_
    refine lv_iload_n X.1.1 X.1.2.1 dX5_takeIn_67 rfl (lv_at hl 3 rfl) ?_
    refine lv_iconst (v := (-1)) X.1.1 X.1.2.1 dX5_takeIn_68 (by decide) ?_
    refine sx_ast X hP h3 (by decide) (x) (by omega) (by decide) dX5_takeIn_69 (fun F3 H3 l3 e3 o3 hP => ?_)
    obtain ⟨w3, hw3⟩ : ∃ z, z = upd ho (x) (-1) := ⟨_, rfl⟩
    rw [← hw3] at e3
    have h3 : F3 (3) = rI G (3) (w3) := e3
    have h1 := (o3 (1) (by decide)).trans h1
    have h2 := (o3 (2) (by decide)).trans h2
    have h4 := (o3 (4) (by decide)).trans h4
    have h5 := (o3 (5) (by decide)).trans h5
    have h6 := (o3 (6) (by decide)).trans h6
    have h7 := (o3 (7) (by decide)).trans h7
    have h8 := (o3 (8) (by decide)).trans h8
    have h9 := (o3 (9) (by decide)).trans h9
    have hO : ∀ j, j ≠ 2 ∧ j ≠ 3 ∧ j ≠ 5 → F3 j = F j := fun j hj => (o3 j (by omega)).trans (hO j hj)
    refine lv_goto (tgt := 112) X.1.1 X.1.2.1 dX5_takeIn_70 (by decide) ?_
    rw [hQ]
    exact sx_vret X rfl hs rfl hP dX5_takeIn_112 (⟨h2, h3.trans (by rw [hw3]; rfl), h5, hO⟩)
  · have hx : x < 2 := hx
    refine lv_iload_n X.1.1 X.1.2.1 dX5_takeIn_0 rfl (lv_at hl 2 rfl) ?_
    refine lv_tableIn (off := 111) (tgt := 112) X.1.1 X.1.2.1 dX5_takeIn_1 (by decide) (by decide) (by decide) (by decide) ?_
    rw [hQ]
    exact sx_vret X rfl hs rfl hP dX5_takeIn_112 (⟨h2, h3, h5, hO⟩)
  · have hx : x < 2 := hx
    refine lv_iload_n X.1.1 X.1.2.1 dX5_takeIn_0 rfl (lv_at hl 2 rfl) ?_
    refine lv_tableIn (off := 72) (tgt := 73) X.1.1 X.1.2.1 dX5_takeIn_1 (by decide) (by decide) (by decide) (by decide) ?_
    refine lv_aload_n X.1.1 X.1.2.1 dX5_takeIn_73 rfl (lv_at hl 0 rfl) ?_
    refine sx_get X hP in_X5_takeIn_X5 h1 (by decide) rfl 2 (by decide) lk_X5_takeIn_fieldLink_RX5_23_RaceWatch_World_ofThreads_LRaceWatch_Clocks rfl dX5_takeIn_74 ?_
    refine lv_iload_n X.1.1 X.1.2.1 dX5_takeIn_77 rfl (lv_at hl 1 rfl) ?_
    refine lv_aload_n X.1.1 X.1.2.1 dX5_takeIn_78 rfl (lv_at hl 0 rfl) ?_
    refine sx_get X hP in_X5_takeIn_X5 h1 (by decide) rfl 4 (by decide) lk_X5_takeIn_fieldLink_RX5_30_RaceWatch_World_ofSeenCells_LRaceWatch_Clocks rfl dX5_takeIn_79 ?_
    refine lv_iload_n X.1.1 X.1.2.1 dX5_takeIn_82 rfl (lv_at hl 3 rfl) ?_
    refine sx_cvV (As := [.int (nI (t)), rf G 8, .int (nI (x))]) (rest := []) X (mX1_join l (ci := 4) (cj := 5) (ck := 8) (cl := 9) (L := 16) (M := 8) (row := t) (orow := x) (by decide) (by decide) (by decide) (by decide) (by decide) (by decide) (by decide) (by decide) (by decide) (by decide) (by omega) (by omega) h4 h5 h8 h9) gX5_takeIn_X1_join rfl yv_X1_join ⟨Nat.le_of_ble_eq_true rfl, Nat.le_of_ble_eq_true rfl⟩ h4 (by decide) rfl rfl hl.1 rfl (Nat.le_of_ble_eq_true rfl) dX5_takeIn_83 ⟨Nat.le_of_ble_eq_true rfl, Nat.le_of_ble_eq_true rfl⟩ hs rfl hP (fun F4 H4 l4 hp hP => ?_)
    obtain ⟨e4, o4⟩ := hp
    obtain ⟨w4, hw4⟩ : ∃ z, z = joinR ct (4 * t) cs (4 * x) := ⟨_, rfl⟩
    rw [← hw4] at e4
    have h5 : F4 (5) = rI G (16) (w4) := e4
    have h1 := (o4 (1) (by decide)).trans h1
    have h2 := (o4 (2) (by decide)).trans h2
    have h3 := (o4 (3) (by decide)).trans h3
    have h4 := (o4 (4) (by decide)).trans h4
    have h6 := (o4 (6) (by decide)).trans h6
    have h7 := (o4 (7) (by decide)).trans h7
    have h8 := (o4 (8) (by decide)).trans h8
    have h9 := (o4 (9) (by decide)).trans h9
    have hO : ∀ j, j ≠ 2 ∧ j ≠ 3 ∧ j ≠ 5 → F4 j = F j := fun j hj => (o4 j (by omega)).trans (hO j hj)
    refine lv_goto (tgt := 112) X.1.1 X.1.2.1 dX5_takeIn_86 (by decide) ?_
    rw [hQ]
    exact sx_vret X rfl hs rfl hP dX5_takeIn_112 (⟨h2, h3, h5.trans (by rw [hw4]; rfl), hO⟩)
  · have hx : x < 4 := hx
    refine lv_iload_n X.1.1 X.1.2.1 dX5_takeIn_0 rfl (lv_at hl 2 rfl) ?_
    refine lv_tableIn (off := 111) (tgt := 112) X.1.1 X.1.2.1 dX5_takeIn_1 (by decide) (by decide) (by decide) (by decide) ?_
    rw [hQ]
    exact sx_vret X rfl hs rfl hP dX5_takeIn_112 (⟨h2, h3, h5, hO⟩)
  · have hx : x < 4 := hx
    refine lv_iload_n X.1.1 X.1.2.1 dX5_takeIn_0 rfl (lv_at hl 2 rfl) ?_
    refine lv_tableIn (off := 88) (tgt := 89) X.1.1 X.1.2.1 dX5_takeIn_1 (by decide) (by decide) (by decide) (by decide) ?_
    refine lv_aload_n X.1.1 X.1.2.1 dX5_takeIn_89 rfl (lv_at hl 0 rfl) ?_
    refine sx_get X hP in_X5_takeIn_X5 h1 (by decide) rfl 2 (by decide) lk_X5_takeIn_fieldLink_RX5_23_RaceWatch_World_ofThreads_LRaceWatch_Clocks rfl dX5_takeIn_90 ?_
    refine lv_iload_n X.1.1 X.1.2.1 dX5_takeIn_93 rfl (lv_at hl 1 rfl) ?_
    refine lv_aload_n X.1.1 X.1.2.1 dX5_takeIn_94 rfl (lv_at hl 0 rfl) ?_
    refine sx_get X hP in_X5_takeIn_X5 h1 (by decide) rfl 2 (by decide) lk_X5_takeIn_fieldLink_RX5_23_RaceWatch_World_ofThreads_LRaceWatch_Clocks rfl dX5_takeIn_95 ?_
    refine lv_iload_n X.1.1 X.1.2.1 dX5_takeIn_98 rfl (lv_at hl 3 rfl) ?_
    refine sx_cvV (As := [.int (nI (t)), rf G 4, .int (nI (x))]) (rest := []) X (mX1_joinA l (ci := 4) (cj := 5) (L := 16) (row := t) (orow := x) (by decide) (by decide) (by decide) (by decide) (by omega) (by omega) h4 h5) gX5_takeIn_X1_join rfl yv_X1_join ⟨Nat.le_of_ble_eq_true rfl, Nat.le_of_ble_eq_true rfl⟩ h4 (by decide) rfl rfl hl.1 rfl (Nat.le_of_ble_eq_true rfl) dX5_takeIn_99 ⟨Nat.le_of_ble_eq_true rfl, Nat.le_of_ble_eq_true rfl⟩ hs rfl hP (fun F5 H5 l5 hp hP => ?_)
    obtain ⟨e5, o5⟩ := hp
    obtain ⟨w5, hw5⟩ : ∃ z, z = joinA ct (4 * t) (4 * x) := ⟨_, rfl⟩
    rw [← hw5] at e5
    have h5 : F5 (5) = rI G (16) (w5) := e5
    have h1 := (o5 (1) (by decide)).trans h1
    have h2 := (o5 (2) (by decide)).trans h2
    have h3 := (o5 (3) (by decide)).trans h3
    have h4 := (o5 (4) (by decide)).trans h4
    have h6 := (o5 (6) (by decide)).trans h6
    have h7 := (o5 (7) (by decide)).trans h7
    have h8 := (o5 (8) (by decide)).trans h8
    have h9 := (o5 (9) (by decide)).trans h9
    have hO : ∀ j, j ≠ 2 ∧ j ≠ 3 ∧ j ≠ 5 → F5 j = F j := fun j hj => (o5 j (by omega)).trans (hO j hj)
    refine lv_aload_n X.1.1 X.1.2.1 dX5_takeIn_102 rfl (lv_at hl 0 rfl) ?_
    refine sx_get X hP in_X5_takeIn_X5 h1 (by decide) rfl 0 (by decide) lk_X5_takeIn_fieldLink_RX5_9_RaceWatch_World_states_I rfl dX5_takeIn_103 ?_
    refine lv_iload_n X.1.1 X.1.2.1 dX5_takeIn_106 rfl (lv_at hl 3 rfl) ?_
    refine lv_iconst (v := nI 2) X.1.1 X.1.2.1 dX5_takeIn_107 (by decide) ?_
    refine sx_ast X hP h2 (by decide) (x) (by omega) (by decide) dX5_takeIn_108 (fun F6 H6 l6 e6 o6 hP => ?_)
    obtain ⟨w6, hw6⟩ : ∃ z, z = upd st (x) (nI (2)) := ⟨_, rfl⟩
    rw [← hw6] at e6
    have h2 : F6 (2) = rI G (4) (w6) := e6
    have h1 := (o6 (1) (by decide)).trans h1
    have h3 := (o6 (3) (by decide)).trans h3
    have h4 := (o6 (4) (by decide)).trans h4
    have h5 := (o6 (5) (by decide)).trans h5
    have h6 := (o6 (6) (by decide)).trans h6
    have h7 := (o6 (7) (by decide)).trans h7
    have h8 := (o6 (8) (by decide)).trans h8
    have h9 := (o6 (9) (by decide)).trans h9
    have hO : ∀ j, j ≠ 2 ∧ j ≠ 3 ∧ j ≠ 5 → F6 j = F j := fun j hj => (o6 j (by omega)).trans (hO j hj)
    refine lv_goto (tgt := 112) X.1.1 X.1.2.1 dX5_takeIn_109 (by decide) ?_
    rw [hQ]
    exact sx_vret X rfl hs rfl hP dX5_takeIn_112 (⟨h2.trans (by rw [hw6]; (try rw [hw5]); rfl), h3, h5.trans (by rw [hw5]; rfl), hO⟩)
theorem ys_X5_handOn : yX5_handOn.cls ≠ "java/lang/invoke/MethodHandle" ∧ yX5_handOn.cls ≠ "java/lang/invoke/VarHandle" ∧ (parseMethodDescriptor yX5_handOn.desc).map (fun d => d.parameters.length) = some 3 := by decide +kernel
theorem yv_X5_handOn : yX5_handOn.cls = RX5 ∧ yX5_handOn.cls ≠ "java/lang/invoke/MethodHandle" ∧ yX5_handOn.cls ≠ "java/lang/invoke/VarHandle" ∧ (parseMethodDescriptor yX5_handOn.desc).map (fun d => d.parameters.length) = some 3 := ⟨rfl, ys_X5_handOn⟩
theorem in_X5_handOn_X5 : ∀ w ∈ wsX50, w ∈ wsX5_handOn := fun _ h => List.mem_cons_of_mem _ (List.mem_append_left _ (List.mem_append_right _ (h)))
theorem lk_X5_handOn_fieldLink_RX5_27_RaceWatch_World_ofLocks_LRaceWatch_Clocks : (.fieldLink RX5 27 "RaceWatch$World" "ofLocks" "LRaceWatch$Clocks;" : Cond) ∈ wsX5_handOn := List.mem_cons_of_mem _ (List.mem_append_left _ (List.mem_append_left _ (List.mem_append_left _ (List.mem_of_getElem? (i := 0) rfl))))
theorem lk_X5_handOn_fieldLink_RX5_23_RaceWatch_World_ofThreads_LRaceWatch_Clocks : (.fieldLink RX5 23 "RaceWatch$World" "ofThreads" "LRaceWatch$Clocks;" : Cond) ∈ wsX5_handOn := List.mem_cons_of_mem _ (List.mem_append_left _ (List.mem_append_left _ (List.mem_append_left _ (List.mem_of_getElem? (i := 1) rfl))))
theorem lk_X5_handOn_fieldLink_RX5_30_RaceWatch_World_ofSeenCells_LRaceWatch_Clocks : (.fieldLink RX5 30 "RaceWatch$World" "ofSeenCells" "LRaceWatch$Clocks;" : Cond) ∈ wsX5_handOn := List.mem_cons_of_mem _ (List.mem_append_left _ (List.mem_append_left _ (List.mem_append_left _ (List.mem_of_getElem? (i := 2) rfl))))
theorem lk_X5_handOn_fieldLink_RX5_9_RaceWatch_World_states_I : (.fieldLink RX5 9 "RaceWatch$World" "states" "[I" : Cond) ∈ wsX5_handOn := List.mem_cons_of_mem _ (List.mem_append_left _ (List.mem_append_left _ (List.mem_append_left _ (List.mem_of_getElem? (i := 3) rfl))))
abbrev rmX5_handOn : Room := { frames := 2, cells := 0, slots := 0, locals := 83 }
set_option maxHeartbeats 800000 in
set_option maxRecDepth 100000 in
theorem mX5_handOn {G : sx_G} (l : Launch) {F : Nat → va_E} {st ho ct cl cs : Nat → Int32} {r4 r6 r8 : Value} {t s x : Nat}  (ht : t < 4) (hs8 : s < 8) (hx : x < boundF s) (h1 : F (1) = ob 5 ([rf G 2, rf G 3, rf G 4, rf G 6, rf G 8, rf G 10, rf G 19])) (h2 : F (2) = rI G (4) (st)) (h4 : F (4) = ob 1 ([r4, rf G 5])) (h5 : F (5) = rI G (16) (ct)) (h6 : F (6) = ob 1 ([r6, rf G 7])) (h7 : F (7) = rI G (12) (cl)) (h8 : F (8) = ob 1 ([r8, rf G 9])) (h9 : F (9) = rI G (8) (cs)) : sx_V G l yX5_handOn wsX5_handOn rmX5_handOn [rf G 1, .int (nI (t)), .int (nI (s)), .int (nI (x))] (97) F (97) (fun F1 => F1 2 = rI G 4 (haS s st x) ∧ F1 5 = rI G 16 (haC s ct t x) ∧ F1 7 = rI G 12 (haL s cl ct t x) ∧ F1 9 = rI G 8 (haE s cs ct t x) ∧ ∀ j, j ≠ 2 ∧ j ≠ 5 ∧ j ≠ 7 ∧ j ≠ 9 → F1 j = F j) := by
  refine sx_enter (cc := cX5_handOn) (maxL := 4) (ret := none) (own := RX5) (nm := "handOn") (by decide) rfl rfl rfl (Nat.le_of_ble_eq_true rfl) ?_
  intro pp ee ss mm args below meth kc ls Q hQ X hs hP hl
  have hl : lv_has ls 4 [(0, rf G 1), (1, .int (nI (t))), (2, .int (nI (s))), (3, .int (nI (x)))] := hl
  have hO : ∀ j, j ≠ 2 ∧ j ≠ 5 ∧ j ≠ 7 ∧ j ≠ 9 → F j = F j := fun _ _ => rfl
  rcases (show s = 0 ∨ s = 1 ∨ s = 2 ∨ s = 3 ∨ s = 4 ∨ s = 5 ∨ s = 6 ∨ s = 7 by omega) with rfl | rfl | rfl | rfl | rfl | rfl | rfl | rfl
  · have hx : x < 4 := hx
    refine lv_iload_n X.1.1 X.1.2.1 dX5_handOn_0 rfl (lv_at hl 2 rfl) ?_
    refine lv_tableOut (tgt := 102) X.1.1 X.1.2.1 dX5_handOn_1 (by decide) (by decide) ?_
    rw [hQ]
    exact sx_vret X rfl hs rfl hP dX5_handOn_102 (⟨h2, h5, h7, h9, hO⟩)
  · have hx : x < 4 := hx
    refine lv_iload_n X.1.1 X.1.2.1 dX5_handOn_0 rfl (lv_at hl 2 rfl) ?_
    refine lv_tableOut (tgt := 102) X.1.1 X.1.2.1 dX5_handOn_1 (by decide) (by decide) ?_
    rw [hQ]
    exact sx_vret X rfl hs rfl hP dX5_handOn_102 (⟨h2, h5, h7, h9, hO⟩)
  · have hx : x < 3 := hx
    refine lv_iload_n X.1.1 X.1.2.1 dX5_handOn_0 rfl (lv_at hl 2 rfl) ?_
    refine lv_tableOut (tgt := 102) X.1.1 X.1.2.1 dX5_handOn_1 (by decide) (by decide) ?_
    rw [hQ]
    exact sx_vret X rfl hs rfl hP dX5_handOn_102 (⟨h2, h5, h7, h9, hO⟩)
  · have hx : x < 3 := hx
    refine lv_iload_n X.1.1 X.1.2.1 dX5_handOn_0 rfl (lv_at hl 2 rfl) ?_
    refine lv_tableIn (off := 31) (tgt := 32) X.1.1 X.1.2.1 dX5_handOn_1 (by decide) (by decide) (by decide) (by decide) ?_
    refine lv_aload_n X.1.1 X.1.2.1 dX5_handOn_32 rfl (lv_at hl 0 rfl) ?_
    refine sx_get X hP in_X5_handOn_X5 h1 (by decide) rfl 3 (by decide) lk_X5_handOn_fieldLink_RX5_27_RaceWatch_World_ofLocks_LRaceWatch_Clocks rfl dX5_handOn_33 ?_
    refine lv_iload_n X.1.1 X.1.2.1 dX5_handOn_36 rfl (lv_at hl 3 rfl) ?_
    refine lv_aload_n X.1.1 X.1.2.1 dX5_handOn_37 rfl (lv_at hl 0 rfl) ?_
    refine sx_get X hP in_X5_handOn_X5 h1 (by decide) rfl 2 (by decide) lk_X5_handOn_fieldLink_RX5_23_RaceWatch_World_ofThreads_LRaceWatch_Clocks rfl dX5_handOn_38 ?_
    refine lv_iload_n X.1.1 X.1.2.1 dX5_handOn_41 rfl (lv_at hl 1 rfl) ?_
    refine sx_cvV (As := [.int (nI (x)), rf G 4, .int (nI (t))]) (rest := []) X (mX1_copyRow l (ci := 6) (cj := 7) (ck := 4) (cl := 5) (L := 12) (M := 16) (row := x) (orow := t) (by decide) (by decide) (by decide) (by decide) (by decide) (by decide) (by decide) (by decide) (by decide) (by decide) (by omega) (by omega) h6 h7 h4 h5) gX5_handOn_X1_copyRow rfl yv_X1_copyRow ⟨Nat.le_of_ble_eq_true rfl, Nat.le_of_ble_eq_true rfl⟩ h6 (by decide) rfl rfl hl.1 rfl (Nat.le_of_ble_eq_true rfl) dX5_handOn_42 ⟨Nat.le_of_ble_eq_true rfl, Nat.le_of_ble_eq_true rfl⟩ hs rfl hP (fun F1 H1 l1 hp hP => ?_)
    obtain ⟨e1, o1⟩ := hp
    obtain ⟨w1, hw1⟩ : ∃ z, z = va_cpy ct cl (4 * t) (4 * x) 4 := ⟨_, rfl⟩
    rw [← hw1] at e1
    have h7 : F1 (7) = rI G (12) (w1) := e1
    have h1 := (o1 (1) (by decide)).trans h1
    have h2 := (o1 (2) (by decide)).trans h2
    have h4 := (o1 (4) (by decide)).trans h4
    have h5 := (o1 (5) (by decide)).trans h5
    have h6 := (o1 (6) (by decide)).trans h6
    have h8 := (o1 (8) (by decide)).trans h8
    have h9 := (o1 (9) (by decide)).trans h9
    have hO : ∀ j, j ≠ 2 ∧ j ≠ 5 ∧ j ≠ 7 ∧ j ≠ 9 → F1 j = F j := fun j hj => (o1 j (by omega)).trans (hO j hj)
    refine lv_aload_n X.1.1 X.1.2.1 dX5_handOn_45 rfl (lv_at hl 0 rfl) ?_
    refine lv_iload_n X.1.1 X.1.2.1 dX5_handOn_46 rfl (lv_at hl 1 rfl) ?_
    refine sx_cvV (As := [.int (nI (t))]) (rest := []) X (mX5_makeStep l (t := t) (by omega) h1 h4 h5) gX5_handOn_X5_makeStep rfl yv_X5_makeStep ⟨Nat.le_of_ble_eq_true rfl, Nat.le_of_ble_eq_true rfl⟩ h1 (by decide) rfl rfl hl.1 rfl (Nat.le_of_ble_eq_true rfl) dX5_handOn_47 ⟨Nat.le_of_ble_eq_true rfl, Nat.le_of_ble_eq_true rfl⟩ hs rfl hP (fun F2 H2 l2 hp hP => ?_)
    obtain ⟨e2, o2⟩ := hp
    obtain ⟨w2, hw2⟩ : ∃ z, z = mstep ct t := ⟨_, rfl⟩
    rw [← hw2] at e2
    have h5 : F2 (5) = rI G (16) (w2) := e2
    have h1 := (o2 (1) (by decide)).trans h1
    have h2 := (o2 (2) (by decide)).trans h2
    have h4 := (o2 (4) (by decide)).trans h4
    have h6 := (o2 (6) (by decide)).trans h6
    have h7 := (o2 (7) (by decide)).trans h7
    have h8 := (o2 (8) (by decide)).trans h8
    have h9 := (o2 (9) (by decide)).trans h9
    have hO : ∀ j, j ≠ 2 ∧ j ≠ 5 ∧ j ≠ 7 ∧ j ≠ 9 → F2 j = F j := fun j hj => (o2 j (by omega)).trans (hO j hj)
    refine lv_goto (tgt := 102) X.1.1 X.1.2.1 dX5_handOn_50 (by decide) ?_
    rw [hQ]
    exact sx_vret X rfl hs rfl hP dX5_handOn_102 (⟨h2, h5.trans (by rw [hw2]; (try rw [hw1]); rfl), h7.trans (by rw [hw1]; rfl), h9, hO⟩)
  · have hx : x < 2 := hx
    refine lv_iload_n X.1.1 X.1.2.1 dX5_handOn_0 rfl (lv_at hl 2 rfl) ?_
    refine lv_tableIn (off := 52) (tgt := 53) X.1.1 X.1.2.1 dX5_handOn_1 (by decide) (by decide) (by decide) (by decide) ?_
    refine lv_aload_n X.1.1 X.1.2.1 dX5_handOn_53 rfl (lv_at hl 0 rfl) ?_
    refine sx_get X hP in_X5_handOn_X5 h1 (by decide) rfl 4 (by decide) lk_X5_handOn_fieldLink_RX5_30_RaceWatch_World_ofSeenCells_LRaceWatch_Clocks rfl dX5_handOn_54 ?_
    refine lv_iload_n X.1.1 X.1.2.1 dX5_handOn_57 rfl (lv_at hl 3 rfl) ?_
    refine lv_aload_n X.1.1 X.1.2.1 dX5_handOn_58 rfl (lv_at hl 0 rfl) ?_
    refine sx_get X hP in_X5_handOn_X5 h1 (by decide) rfl 2 (by decide) lk_X5_handOn_fieldLink_RX5_23_RaceWatch_World_ofThreads_LRaceWatch_Clocks rfl dX5_handOn_59 ?_
    refine lv_iload_n X.1.1 X.1.2.1 dX5_handOn_62 rfl (lv_at hl 1 rfl) ?_
    refine sx_cvV (As := [.int (nI (x)), rf G 4, .int (nI (t))]) (rest := []) X (mX1_join l (ci := 8) (cj := 9) (ck := 4) (cl := 5) (L := 8) (M := 16) (row := x) (orow := t) (by decide) (by decide) (by decide) (by decide) (by decide) (by decide) (by decide) (by decide) (by decide) (by decide) (by omega) (by omega) h8 h9 h4 h5) gX5_handOn_X1_join rfl yv_X1_join ⟨Nat.le_of_ble_eq_true rfl, Nat.le_of_ble_eq_true rfl⟩ h8 (by decide) rfl rfl hl.1 rfl (Nat.le_of_ble_eq_true rfl) dX5_handOn_63 ⟨Nat.le_of_ble_eq_true rfl, Nat.le_of_ble_eq_true rfl⟩ hs rfl hP (fun F3 H3 l3 hp hP => ?_)
    obtain ⟨e3, o3⟩ := hp
    obtain ⟨w3, hw3⟩ : ∃ z, z = joinR cs (4 * x) ct (4 * t) := ⟨_, rfl⟩
    rw [← hw3] at e3
    have h9 : F3 (9) = rI G (8) (w3) := e3
    have h1 := (o3 (1) (by decide)).trans h1
    have h2 := (o3 (2) (by decide)).trans h2
    have h4 := (o3 (4) (by decide)).trans h4
    have h5 := (o3 (5) (by decide)).trans h5
    have h6 := (o3 (6) (by decide)).trans h6
    have h7 := (o3 (7) (by decide)).trans h7
    have h8 := (o3 (8) (by decide)).trans h8
    have hO : ∀ j, j ≠ 2 ∧ j ≠ 5 ∧ j ≠ 7 ∧ j ≠ 9 → F3 j = F j := fun j hj => (o3 j (by omega)).trans (hO j hj)
    refine lv_aload_n X.1.1 X.1.2.1 dX5_handOn_66 rfl (lv_at hl 0 rfl) ?_
    refine lv_iload_n X.1.1 X.1.2.1 dX5_handOn_67 rfl (lv_at hl 1 rfl) ?_
    refine sx_cvV (As := [.int (nI (t))]) (rest := []) X (mX5_makeStep l (t := t) (by omega) h1 h4 h5) gX5_handOn_X5_makeStep rfl yv_X5_makeStep ⟨Nat.le_of_ble_eq_true rfl, Nat.le_of_ble_eq_true rfl⟩ h1 (by decide) rfl rfl hl.1 rfl (Nat.le_of_ble_eq_true rfl) dX5_handOn_68 ⟨Nat.le_of_ble_eq_true rfl, Nat.le_of_ble_eq_true rfl⟩ hs rfl hP (fun F4 H4 l4 hp hP => ?_)
    obtain ⟨e4, o4⟩ := hp
    obtain ⟨w4, hw4⟩ : ∃ z, z = mstep ct t := ⟨_, rfl⟩
    rw [← hw4] at e4
    have h5 : F4 (5) = rI G (16) (w4) := e4
    have h1 := (o4 (1) (by decide)).trans h1
    have h2 := (o4 (2) (by decide)).trans h2
    have h4 := (o4 (4) (by decide)).trans h4
    have h6 := (o4 (6) (by decide)).trans h6
    have h7 := (o4 (7) (by decide)).trans h7
    have h8 := (o4 (8) (by decide)).trans h8
    have h9 := (o4 (9) (by decide)).trans h9
    have hO : ∀ j, j ≠ 2 ∧ j ≠ 5 ∧ j ≠ 7 ∧ j ≠ 9 → F4 j = F j := fun j hj => (o4 j (by omega)).trans (hO j hj)
    refine lv_goto (tgt := 102) X.1.1 X.1.2.1 dX5_handOn_71 (by decide) ?_
    rw [hQ]
    exact sx_vret X rfl hs rfl hP dX5_handOn_102 (⟨h2, h5.trans (by rw [hw4]; (try rw [hw3]); rfl), h7, h9.trans (by rw [hw3]; rfl), hO⟩)
  · have hx : x < 2 := hx
    refine lv_iload_n X.1.1 X.1.2.1 dX5_handOn_0 rfl (lv_at hl 2 rfl) ?_
    refine lv_tableIn (off := 101) (tgt := 102) X.1.1 X.1.2.1 dX5_handOn_1 (by decide) (by decide) (by decide) (by decide) ?_
    rw [hQ]
    exact sx_vret X rfl hs rfl hP dX5_handOn_102 (⟨h2, h5, h7, h9, hO⟩)
  · have hx : x < 4 := hx
    refine lv_iload_n X.1.1 X.1.2.1 dX5_handOn_0 rfl (lv_at hl 2 rfl) ?_
    refine lv_tableIn (off := 73) (tgt := 74) X.1.1 X.1.2.1 dX5_handOn_1 (by decide) (by decide) (by decide) (by decide) ?_
    refine lv_aload_n X.1.1 X.1.2.1 dX5_handOn_74 rfl (lv_at hl 0 rfl) ?_
    refine sx_get X hP in_X5_handOn_X5 h1 (by decide) rfl 2 (by decide) lk_X5_handOn_fieldLink_RX5_23_RaceWatch_World_ofThreads_LRaceWatch_Clocks rfl dX5_handOn_75 ?_
    refine lv_iload_n X.1.1 X.1.2.1 dX5_handOn_78 rfl (lv_at hl 3 rfl) ?_
    refine lv_aload_n X.1.1 X.1.2.1 dX5_handOn_79 rfl (lv_at hl 0 rfl) ?_
    refine sx_get X hP in_X5_handOn_X5 h1 (by decide) rfl 2 (by decide) lk_X5_handOn_fieldLink_RX5_23_RaceWatch_World_ofThreads_LRaceWatch_Clocks rfl dX5_handOn_80 ?_
    refine lv_iload_n X.1.1 X.1.2.1 dX5_handOn_83 rfl (lv_at hl 1 rfl) ?_
    refine sx_cvV (As := [.int (nI (x)), rf G 4, .int (nI (t))]) (rest := []) X (mX1_joinA l (ci := 4) (cj := 5) (L := 16) (row := x) (orow := t) (by decide) (by decide) (by decide) (by decide) (by omega) (by omega) h4 h5) gX5_handOn_X1_join rfl yv_X1_join ⟨Nat.le_of_ble_eq_true rfl, Nat.le_of_ble_eq_true rfl⟩ h4 (by decide) rfl rfl hl.1 rfl (Nat.le_of_ble_eq_true rfl) dX5_handOn_84 ⟨Nat.le_of_ble_eq_true rfl, Nat.le_of_ble_eq_true rfl⟩ hs rfl hP (fun F5 H5 l5 hp hP => ?_)
    obtain ⟨e5, o5⟩ := hp
    obtain ⟨w5, hw5⟩ : ∃ z, z = joinA ct (4 * x) (4 * t) := ⟨_, rfl⟩
    rw [← hw5] at e5
    have h5 : F5 (5) = rI G (16) (w5) := e5
    have h1 := (o5 (1) (by decide)).trans h1
    have h2 := (o5 (2) (by decide)).trans h2
    have h4 := (o5 (4) (by decide)).trans h4
    have h6 := (o5 (6) (by decide)).trans h6
    have h7 := (o5 (7) (by decide)).trans h7
    have h8 := (o5 (8) (by decide)).trans h8
    have h9 := (o5 (9) (by decide)).trans h9
    have hO : ∀ j, j ≠ 2 ∧ j ≠ 5 ∧ j ≠ 7 ∧ j ≠ 9 → F5 j = F j := fun j hj => (o5 j (by omega)).trans (hO j hj)
    refine lv_aload_n X.1.1 X.1.2.1 dX5_handOn_87 rfl (lv_at hl 0 rfl) ?_
    refine sx_get X hP in_X5_handOn_X5 h1 (by decide) rfl 0 (by decide) lk_X5_handOn_fieldLink_RX5_9_RaceWatch_World_states_I rfl dX5_handOn_88 ?_
    refine lv_iload_n X.1.1 X.1.2.1 dX5_handOn_91 rfl (lv_at hl 3 rfl) ?_
    refine lv_iconst (v := nI 1) X.1.1 X.1.2.1 dX5_handOn_92 (by decide) ?_
    refine sx_ast X hP h2 (by decide) (x) (by omega) (by decide) dX5_handOn_93 (fun F6 H6 l6 e6 o6 hP => ?_)
    obtain ⟨w6, hw6⟩ : ∃ z, z = upd st (x) (nI (1)) := ⟨_, rfl⟩
    rw [← hw6] at e6
    have h2 : F6 (2) = rI G (4) (w6) := e6
    have h1 := (o6 (1) (by decide)).trans h1
    have h4 := (o6 (4) (by decide)).trans h4
    have h5 := (o6 (5) (by decide)).trans h5
    have h6 := (o6 (6) (by decide)).trans h6
    have h7 := (o6 (7) (by decide)).trans h7
    have h8 := (o6 (8) (by decide)).trans h8
    have h9 := (o6 (9) (by decide)).trans h9
    have hO : ∀ j, j ≠ 2 ∧ j ≠ 5 ∧ j ≠ 7 ∧ j ≠ 9 → F6 j = F j := fun j hj => (o6 j (by omega)).trans (hO j hj)
    refine lv_aload_n X.1.1 X.1.2.1 dX5_handOn_94 rfl (lv_at hl 0 rfl) ?_
    refine lv_iload_n X.1.1 X.1.2.1 dX5_handOn_95 rfl (lv_at hl 1 rfl) ?_
    refine sx_cvV (As := [.int (nI (t))]) (rest := []) X (mX5_makeStep l (t := t) (by omega) h1 h4 h5) gX5_handOn_X5_makeStep rfl yv_X5_makeStep ⟨Nat.le_of_ble_eq_true rfl, Nat.le_of_ble_eq_true rfl⟩ h1 (by decide) rfl rfl hl.1 rfl (Nat.le_of_ble_eq_true rfl) dX5_handOn_96 ⟨Nat.le_of_ble_eq_true rfl, Nat.le_of_ble_eq_true rfl⟩ hs rfl hP (fun F7 H7 l7 hp hP => ?_)
    obtain ⟨e7, o7⟩ := hp
    obtain ⟨w7, hw7⟩ : ∃ z, z = mstep w5 t := ⟨_, rfl⟩
    rw [← hw7] at e7
    have h5 : F7 (5) = rI G (16) (w7) := e7
    have h1 := (o7 (1) (by decide)).trans h1
    have h2 := (o7 (2) (by decide)).trans h2
    have h4 := (o7 (4) (by decide)).trans h4
    have h6 := (o7 (6) (by decide)).trans h6
    have h7 := (o7 (7) (by decide)).trans h7
    have h8 := (o7 (8) (by decide)).trans h8
    have h9 := (o7 (9) (by decide)).trans h9
    have hO : ∀ j, j ≠ 2 ∧ j ≠ 5 ∧ j ≠ 7 ∧ j ≠ 9 → F7 j = F j := fun j hj => (o7 j (by omega)).trans (hO j hj)
    refine lv_goto (tgt := 102) X.1.1 X.1.2.1 dX5_handOn_99 (by decide) ?_
    rw [hQ]
    exact sx_vret X rfl hs rfl hP dX5_handOn_102 (⟨h2.trans (by rw [hw6]; (try rw [hw5]); rfl), h5.trans (by rw [hw7]; (try rw [hw6]); (try rw [hw5]); rfl), h7, h9, hO⟩)
  · have hx : x < 4 := hx
    refine lv_iload_n X.1.1 X.1.2.1 dX5_handOn_0 rfl (lv_at hl 2 rfl) ?_
    refine lv_tableOut (tgt := 102) X.1.1 X.1.2.1 dX5_handOn_1 (by decide) (by decide) ?_
    rw [hQ]
    exact sx_vret X rfl hs rfl hP dX5_handOn_102 (⟨h2, h5, h7, h9, hO⟩)
