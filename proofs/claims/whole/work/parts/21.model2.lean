theorem ys_X7_hasStep : yX7_hasStep.cls ≠ "java/lang/invoke/MethodHandle" ∧ yX7_hasStep.cls ≠ "java/lang/invoke/VarHandle" ∧ (parseMethodDescriptor yX7_hasStep.desc).map (fun d => d.parameters.length) = some 1 := by decide +kernel
theorem yv_X7_hasStep : yX7_hasStep.cls = RX7 ∧ yX7_hasStep.cls ≠ "java/lang/invoke/MethodHandle" ∧ yX7_hasStep.cls ≠ "java/lang/invoke/VarHandle" ∧ (parseMethodDescriptor yX7_hasStep.desc).map (fun d => d.parameters.length) = some 1 := ⟨rfl, ys_X7_hasStep⟩
abbrev rmX7_hasStep : Room := { frames := 0, cells := 0, slots := 0, locals := 0 }
set_option maxHeartbeats 4000000 in
set_option maxRecDepth 100000 in
theorem mX7_hasStep {G : sx_G} (l : Launch) {F : Nat → va_E} {n s : Nat} (hs8 : s < 8) : sx_I G l yX7_hasStep wsX7_hasStep rmX7_hasStep [.int (nI (s))] (n) F (n) (fun r F1 => F = F1 ∧ ((hasS s) ∧ nI 1 = r ∨ ¬ (hasS s) ∧ nI 0 = r)) := by
  refine sx_enter (cc := cX7_hasStep) (maxL := 1) (ret := some .boolean) (own := RX7) (nm := "hasStep") (by decide) rfl rfl rfl (Nat.le_of_ble_eq_true rfl) ?_
  intro pp ee ss mm args below meth kc ls Q hQ X hs hP hl
  have hl : lv_has ls 1 [(0, .int (nI (s)))] := hl
  refine lv_iload_n X.1.1 X.1.2.1 dX7_hasStep_0 rfl (lv_at hl 0 rfl) ?_
  refine lv_iconst (v := nI 3) X.1.1 X.1.2.1 dX7_hasStep_1 (by decide) ?_
  refine sx_icmp_eq X (by omega) (by decide) (tgt := 16) dX7_hasStep_2 (by decide) (fun c2 => ?_) (fun c2 => ?_)
  · refine lv_iconst (v := nI 1) X.1.1 X.1.2.1 dX7_hasStep_16 (by decide) ?_
    refine lv_goto (tgt := 21) X.1.1 X.1.2.1 dX7_hasStep_17 (by decide) ?_
    rw [hQ]
    exact sx_zret X rfl (by decide) hs rfl hP dX7_hasStep_21 (⟨rfl, Or.inl ⟨by unfold hasS; omega, rfl⟩⟩)
  · refine lv_iload_n X.1.1 X.1.2.1 dX7_hasStep_5 rfl (lv_at hl 0 rfl) ?_
    refine lv_iconst (v := nI 4) X.1.1 X.1.2.1 dX7_hasStep_6 (by decide) ?_
    refine sx_icmp_eq X (by omega) (by decide) (tgt := 16) dX7_hasStep_7 (by decide) (fun c7 => ?_) (fun c7 => ?_)
    · refine lv_iconst (v := nI 1) X.1.1 X.1.2.1 dX7_hasStep_16 (by decide) ?_
      refine lv_goto (tgt := 21) X.1.1 X.1.2.1 dX7_hasStep_17 (by decide) ?_
      rw [hQ]
      exact sx_zret X rfl (by decide) hs rfl hP dX7_hasStep_21 (⟨rfl, Or.inl ⟨by unfold hasS; omega, rfl⟩⟩)
    · refine lv_iload_n X.1.1 X.1.2.1 dX7_hasStep_10 rfl (lv_at hl 0 rfl) ?_
      refine lv_bipush (v := nI 6) X.1.1 X.1.2.1 dX7_hasStep_11 (by decide) ?_
      refine sx_icmp_ne X (by omega) (by decide) (tgt := 20) dX7_hasStep_13 (by decide) (fun c13 => ?_) (fun c13 => ?_)
      · refine lv_iconst (v := nI 0) X.1.1 X.1.2.1 dX7_hasStep_20 (by decide) ?_
        rw [hQ]
        exact sx_zret X rfl (by decide) hs rfl hP dX7_hasStep_21 (⟨rfl, Or.inr ⟨by unfold hasS; omega, rfl⟩⟩)
      · refine lv_iconst (v := nI 1) X.1.1 X.1.2.1 dX7_hasStep_16 (by decide) ?_
        refine lv_goto (tgt := 21) X.1.1 X.1.2.1 dX7_hasStep_17 (by decide) ?_
        rw [hQ]
        exact sx_zret X rfl (by decide) hs rfl hP dX7_hasStep_21 (⟨rfl, Or.inl ⟨by unfold hasS; omega, rfl⟩⟩)
theorem ys_X7_isMuch : yX7_isMuch.cls ≠ "java/lang/invoke/MethodHandle" ∧ yX7_isMuch.cls ≠ "java/lang/invoke/VarHandle" ∧ (parseMethodDescriptor yX7_isMuch.desc).map (fun d => d.parameters.length) = some 1 := by decide +kernel
theorem yv_X7_isMuch : yX7_isMuch.cls = RX7 ∧ yX7_isMuch.cls ≠ "java/lang/invoke/MethodHandle" ∧ yX7_isMuch.cls ≠ "java/lang/invoke/VarHandle" ∧ (parseMethodDescriptor yX7_isMuch.desc).map (fun d => d.parameters.length) = some 1 := ⟨rfl, ys_X7_isMuch⟩
theorem lk_X7_isMuch_constant_RX7_45_2147483647 : (.constant RX7 45 (2147483647) : Cond) ∈ wsX7_isMuch := List.mem_cons_of_mem _ (List.mem_append_left _ (List.mem_of_getElem? (i := 0) rfl))
abbrev rmX7_isMuch : Room := { frames := 1, cells := 0, slots := 0, locals := 22 }
set_option maxHeartbeats 4000000 in
set_option maxRecDepth 100000 in
theorem mX7_isMuch {G : sx_G} (l : Launch) {F : Nat → va_E} {w : Nat → Int32} {of : List Value} {t : Nat} (ht : t < 4) (h91 : F (91) = ob 7 (rf G 92 :: of)) (h92 : F (92) = rI G (4358) (w)) : sx_I G l yX7_isMuch wsX7_isMuch rmX7_isMuch [rf G 91, .int (nI (t))] (97) F (97) (fun r F1 => F = F1 ∧ ((w (4 + 5 * t) = 2147483647) ∧ nI 1 = r ∨ ¬ (w (4 + 5 * t) = 2147483647) ∧ nI 0 = r)) := by
  refine sx_enter (cc := cX7_isMuch) (maxL := 2) (ret := some .boolean) (own := RX7) (nm := "isMuch") (by decide) rfl rfl rfl (Nat.le_of_ble_eq_true rfl) ?_
  intro pp ee ss mm args below meth kc ls Q hQ X hs hP hl
  have hl : lv_has ls 2 [(0, rf G 91), (1, .int (nI (t)))] := hl
  refine lv_aload_n X.1.1 X.1.2.1 dX7_isMuch_0 rfl (lv_at hl 0 rfl) ?_
  refine lv_iload_n X.1.1 X.1.2.1 dX7_isMuch_1 rfl (lv_at hl 1 rfl) ?_
  refine lv_iload_n X.1.1 X.1.2.1 dX7_isMuch_2 rfl (lv_at hl 1 rfl) ?_
  refine sx_cvI (As := [.int (nI (t)), .int (nI (t))]) (rest := []) X (mX7_number l (t := t) (u := t) (by omega) (by omega) h91 h92) gX7_isMuch_X7_number rfl yv_X7_number ⟨Nat.le_of_ble_eq_true rfl, Nat.le_of_ble_eq_true rfl⟩ h91 (by decide) rfl rfl hl.1 rfl (Nat.le_of_ble_eq_true rfl) dX7_isMuch_3 ⟨Nat.le_of_ble_eq_true rfl, Nat.le_of_ble_eq_true rfl⟩ hs rfl hP (fun r1 F1 H1 l1 hp hP => ?_)
  obtain ⟨rfl, rfl⟩ := hp
  rw [show w (4 + 4 * t + t) = w (4 + 5 * t) from congrArg _ (by omega)]
  refine lv_ldc (v := 2147483647) X.1.1 X.1.2.1 X.1.2.2.2.1 (X.1.2.2.2.2 _ lk_X7_isMuch_constant_RX7_45_2147483647) dX7_isMuch_6 ?_
  refine lv_icmp_ne X.1.1 X.1.2.1 (tgt := 15) dX7_isMuch_8 (by decide) (fun c8 => ?_) (fun c8 => ?_)
  · refine lv_iconst (v := nI 0) X.1.1 X.1.2.1 dX7_isMuch_15 (by decide) ?_
    rw [hQ]
    exact sx_zret X rfl (by decide) hs rfl hP dX7_isMuch_16 (⟨rfl, Or.inr ⟨c8, rfl⟩⟩)
  · refine lv_iconst (v := nI 1) X.1.1 X.1.2.1 dX7_isMuch_11 (by decide) ?_
    refine lv_goto (tgt := 16) X.1.1 X.1.2.1 dX7_isMuch_12 (by decide) ?_
    rw [hQ]
    exact sx_zret X rfl (by decide) hs rfl hP dX7_isMuch_16 (⟨rfl, Or.inl ⟨c8, rfl⟩⟩)
theorem ys_X7_steps : yX7_steps.cls ≠ "java/lang/invoke/MethodHandle" ∧ yX7_steps.cls ≠ "java/lang/invoke/VarHandle" ∧ (parseMethodDescriptor yX7_steps.desc).map (fun d => d.parameters.length) = some 1 := by decide +kernel
theorem yv_X7_steps : yX7_steps.cls = RX7 ∧ yX7_steps.cls ≠ "java/lang/invoke/MethodHandle" ∧ yX7_steps.cls ≠ "java/lang/invoke/VarHandle" ∧ (parseMethodDescriptor yX7_steps.desc).map (fun d => d.parameters.length) = some 1 := ⟨rfl, ys_X7_steps⟩
theorem in_X7_steps_X7 : ∀ w ∈ wsX70, w ∈ wsX7_steps := fun _ h => List.mem_cons_of_mem _ (List.mem_append_right _ (h))
theorem lk_X7_steps_fieldLink_RX7_7_RaceWatchModel_w_I : (.fieldLink RX7 7 "RaceWatchModel" "w" "[I" : Cond) ∈ wsX7_steps := List.mem_cons_of_mem _ (List.mem_append_left _ (List.mem_of_getElem? (i := 0) rfl))
abbrev rmX7_steps : Room := { frames := 0, cells := 0, slots := 0, locals := 0 }
set_option maxHeartbeats 4000000 in
set_option maxRecDepth 100000 in
theorem mX7_steps {G : sx_G} (l : Launch) {F : Nat → va_E} {w : Nat → Int32} {of : List Value} {t : Nat} (ht : t < 4) (h91 : F (91) = ob 7 (rf G 92 :: of)) (h92 : F (92) = rI G (4358) (w)) : sx_V G l yX7_steps wsX7_steps rmX7_steps [rf G 91, .int (nI (t))] (97) F (97) (fun F1 => F1 92 = rI G 4358 (stepF w t) ∧ ∀ j, j ≠ 92 → F1 j = F j) := by
  refine sx_enter (cc := cX7_steps) (maxL := 2) (ret := none) (own := RX7) (nm := "steps") (by decide) rfl rfl rfl (Nat.le_of_ble_eq_true rfl) ?_
  intro pp ee ss mm args below meth kc ls Q hQ X hs hP hl
  have hl : lv_has ls 2 [(0, rf G 91), (1, .int (nI (t)))] := hl
  have hO : ∀ j, j ≠ 92 → F j = F j := fun _ _ => rfl
  refine lv_aload_n X.1.1 X.1.2.1 dX7_steps_0 rfl (lv_at hl 0 rfl) ?_
  refine sx_get X hP in_X7_steps_X7 h91 (by decide) rfl 0 (by decide) lk_X7_steps_fieldLink_RX7_7_RaceWatchModel_w_I rfl dX7_steps_1 ?_
  refine lv_iconst (v := nI 4) X.1.1 X.1.2.1 dX7_steps_4 (by decide) ?_
  refine lv_iconst (v := nI 5) X.1.1 X.1.2.1 dX7_steps_5 (by decide) ?_
  refine lv_iload_n X.1.1 X.1.2.1 dX7_steps_6 rfl (lv_at hl 1 rfl) ?_
  refine sx_mulN X (5 * t) (by omega) dX7_steps_7 ?_
  refine sx_addN X (4 + 5 * t) (by omega) dX7_steps_8 ?_
  refine lv_dup2_11 X.1.1 X.1.2.1 dX7_steps_9 rfl rfl ?_
  refine sx_ald X hP h92 (by decide) (4 + 5 * t) (by omega) (by decide) dX7_steps_10 ?_
  refine lv_iconst (v := nI 1) X.1.1 X.1.2.1 dX7_steps_11 (by decide) ?_
  refine lv_iadd X.1.1 X.1.2.1 dX7_steps_12 ?_
  refine sx_ast X hP h92 (by decide) (4 + 5 * t) (by omega) (by decide) dX7_steps_13 (fun F1 H1 l1 e1 o1 hP => ?_)
  obtain ⟨w1, hw1⟩ : ∃ z, z = upd w (4 + 5 * t) ((w (4 + 5 * t)) + (nI (1))) := ⟨_, rfl⟩
  rw [← hw1] at e1
  have h92 : F1 (92) = rI G (4358) (w1) := e1
  have h91 := (o1 (91) (by decide)).trans h91
  have hO : ∀ j, j ≠ 92 → F1 j = F j := fun j hj => (o1 j (by omega)).trans (hO j hj)
  rw [hQ]
  exact sx_vret X rfl hs rfl hP dX7_steps_14 (⟨h92.trans (by rw [hw1]; rfl), hO⟩)
theorem ys_X7_isWith : yX7_isWith.cls ≠ "java/lang/invoke/MethodHandle" ∧ yX7_isWith.cls ≠ "java/lang/invoke/VarHandle" ∧ (parseMethodDescriptor yX7_isWith.desc).map (fun d => d.parameters.length) = some 3 := by decide +kernel
theorem yv_X7_isWith : yX7_isWith.cls = RX7 ∧ yX7_isWith.cls ≠ "java/lang/invoke/MethodHandle" ∧ yX7_isWith.cls ≠ "java/lang/invoke/VarHandle" ∧ (parseMethodDescriptor yX7_isWith.desc).map (fun d => d.parameters.length) = some 3 := ⟨rfl, ys_X7_isWith⟩
abbrev rmX7_isWith : Room := { frames := 2, cells := 0, slots := 0, locals := 45 }
set_option maxHeartbeats 4000000 in
set_option maxRecDepth 100000 in
theorem mX7_isWith {G : sx_G} (l : Launch) {F : Nat → va_E} {n t s : Nat} {x : Int32} (ht : t < 4) (hs8 : s < 8) : sx_I G l yX7_isWith wsX7_isWith rmX7_isWith [.int (nI (t)), .int (nI (s)), .int (x)] (n) F (n) (fun r F1 => F = F1 ∧ ((∃ j, j < boundF s ∧ x = nI j ∧ (6 ≤ s → j ≠ t)) ∧ nI 1 = r ∨ ¬ (∃ j, j < boundF s ∧ x = nI j ∧ (6 ≤ s → j ≠ t)) ∧ nI 0 = r)) := by
  refine sx_enter (cc := cX7_isWith) (maxL := 3) (ret := some .boolean) (own := RX7) (nm := "isWith") (by decide) rfl rfl rfl (Nat.le_of_ble_eq_true rfl) ?_
  intro pp ee ss mm args below meth kc ls Q hQ X hs hP hl
  have hl : lv_has ls 3 [(0, .int (nI (t))), (1, .int (nI (s))), (2, .int (x))] := hl
  rcases (show s = 0 ∨ s = 1 ∨ s = 2 ∨ s = 3 ∨ s = 4 ∨ s = 5 ∨ s = 6 ∨ s = 7 by omega) with rfl | rfl | rfl | rfl | rfl | rfl | rfl | rfl
  · refine lv_iload_n X.1.1 X.1.2.1 dX7_isWith_0 rfl (lv_at hl 1 rfl) ?_
    refine lv_tableIn (off := 39) (tgt := 40) X.1.1 X.1.2.1 dX7_isWith_1 (by decide) (by decide) (by decide) (by decide) ?_
    refine lv_iload_n X.1.1 X.1.2.1 dX7_isWith_40 rfl (lv_at hl 2 rfl) ?_
    refine sx_csI (As := [.int (x)]) (rest := []) X (mX7_isCell l (x := (x))) gX7_isWith_X7_isCell rfl ys_X7_isCell ⟨Nat.le_of_ble_eq_true rfl, Nat.le_of_ble_eq_true rfl⟩ hl.1 rfl (Nat.le_of_ble_eq_true rfl) dX7_isWith_41 ⟨Nat.le_of_ble_eq_true rfl, Nat.le_of_ble_eq_true rfl⟩ hs rfl hP (fun r1 F1 H1 l1 hp hP => ?_)
    obtain ⟨rfl, ⟨b2, rfl⟩ | ⟨b2, rfl⟩⟩ := hp
    · rw [hQ]
      exact sx_zret X rfl (by decide) hs rfl hP dX7_isWith_44 (⟨rfl, Or.inl ⟨by obtain ⟨j, hj, e⟩ := b2; exact ⟨j, hj, e, fun q => absurd q (by decide)⟩, rfl⟩⟩)
    · rw [hQ]
      exact sx_zret X rfl (by decide) hs rfl hP dX7_isWith_44 (⟨rfl, Or.inr ⟨fun ⟨j, hj, e, _⟩ => b2 ⟨j, hj, e⟩, rfl⟩⟩)
  · refine lv_iload_n X.1.1 X.1.2.1 dX7_isWith_0 rfl (lv_at hl 1 rfl) ?_
    refine lv_tableIn (off := 39) (tgt := 40) X.1.1 X.1.2.1 dX7_isWith_1 (by decide) (by decide) (by decide) (by decide) ?_
    refine lv_iload_n X.1.1 X.1.2.1 dX7_isWith_40 rfl (lv_at hl 2 rfl) ?_
    refine sx_csI (As := [.int (x)]) (rest := []) X (mX7_isCell l (x := (x))) gX7_isWith_X7_isCell rfl ys_X7_isCell ⟨Nat.le_of_ble_eq_true rfl, Nat.le_of_ble_eq_true rfl⟩ hl.1 rfl (Nat.le_of_ble_eq_true rfl) dX7_isWith_41 ⟨Nat.le_of_ble_eq_true rfl, Nat.le_of_ble_eq_true rfl⟩ hs rfl hP (fun r3 F3 H3 l3 hp hP => ?_)
    obtain ⟨rfl, ⟨b4, rfl⟩ | ⟨b4, rfl⟩⟩ := hp
    · rw [hQ]
      exact sx_zret X rfl (by decide) hs rfl hP dX7_isWith_44 (⟨rfl, Or.inl ⟨by obtain ⟨j, hj, e⟩ := b4; exact ⟨j, hj, e, fun q => absurd q (by decide)⟩, rfl⟩⟩)
    · rw [hQ]
      exact sx_zret X rfl (by decide) hs rfl hP dX7_isWith_44 (⟨rfl, Or.inr ⟨fun ⟨j, hj, e, _⟩ => b4 ⟨j, hj, e⟩, rfl⟩⟩)
  · refine lv_iload_n X.1.1 X.1.2.1 dX7_isWith_0 rfl (lv_at hl 1 rfl) ?_
    refine lv_tableIn (off := 44) (tgt := 45) X.1.1 X.1.2.1 dX7_isWith_1 (by decide) (by decide) (by decide) (by decide) ?_
    refine lv_iload_n X.1.1 X.1.2.1 dX7_isWith_45 rfl (lv_at hl 2 rfl) ?_
    refine sx_csI (As := [.int (x)]) (rest := []) X (mX7_isLock l (x := (x))) gX7_isWith_X7_isLock rfl ys_X7_isLock ⟨Nat.le_of_ble_eq_true rfl, Nat.le_of_ble_eq_true rfl⟩ hl.1 rfl (Nat.le_of_ble_eq_true rfl) dX7_isWith_46 ⟨Nat.le_of_ble_eq_true rfl, Nat.le_of_ble_eq_true rfl⟩ hs rfl hP (fun r5 F5 H5 l5 hp hP => ?_)
    obtain ⟨rfl, ⟨b6, rfl⟩ | ⟨b6, rfl⟩⟩ := hp
    · rw [hQ]
      exact sx_zret X rfl (by decide) hs rfl hP dX7_isWith_49 (⟨rfl, Or.inl ⟨by obtain ⟨j, hj, e⟩ := b6; exact ⟨j, hj, e, fun q => absurd q (by decide)⟩, rfl⟩⟩)
    · rw [hQ]
      exact sx_zret X rfl (by decide) hs rfl hP dX7_isWith_49 (⟨rfl, Or.inr ⟨fun ⟨j, hj, e, _⟩ => b6 ⟨j, hj, e⟩, rfl⟩⟩)
  · refine lv_iload_n X.1.1 X.1.2.1 dX7_isWith_0 rfl (lv_at hl 1 rfl) ?_
    refine lv_tableIn (off := 44) (tgt := 45) X.1.1 X.1.2.1 dX7_isWith_1 (by decide) (by decide) (by decide) (by decide) ?_
    refine lv_iload_n X.1.1 X.1.2.1 dX7_isWith_45 rfl (lv_at hl 2 rfl) ?_
    refine sx_csI (As := [.int (x)]) (rest := []) X (mX7_isLock l (x := (x))) gX7_isWith_X7_isLock rfl ys_X7_isLock ⟨Nat.le_of_ble_eq_true rfl, Nat.le_of_ble_eq_true rfl⟩ hl.1 rfl (Nat.le_of_ble_eq_true rfl) dX7_isWith_46 ⟨Nat.le_of_ble_eq_true rfl, Nat.le_of_ble_eq_true rfl⟩ hs rfl hP (fun r7 F7 H7 l7 hp hP => ?_)
    obtain ⟨rfl, ⟨b8, rfl⟩ | ⟨b8, rfl⟩⟩ := hp
    · rw [hQ]
      exact sx_zret X rfl (by decide) hs rfl hP dX7_isWith_49 (⟨rfl, Or.inl ⟨by obtain ⟨j, hj, e⟩ := b8; exact ⟨j, hj, e, fun q => absurd q (by decide)⟩, rfl⟩⟩)
    · rw [hQ]
      exact sx_zret X rfl (by decide) hs rfl hP dX7_isWith_49 (⟨rfl, Or.inr ⟨fun ⟨j, hj, e, _⟩ => b8 ⟨j, hj, e⟩, rfl⟩⟩)
  · refine lv_iload_n X.1.1 X.1.2.1 dX7_isWith_0 rfl (lv_at hl 1 rfl) ?_
    refine lv_tableIn (off := 49) (tgt := 50) X.1.1 X.1.2.1 dX7_isWith_1 (by decide) (by decide) (by decide) (by decide) ?_
    refine lv_iload_n X.1.1 X.1.2.1 dX7_isWith_50 rfl (lv_at hl 2 rfl) ?_
    refine sx_csI (As := [.int (x)]) (rest := []) X (mX7_isSeen l (x := (x))) gX7_isWith_X7_isSeen rfl ys_X7_isSeen ⟨Nat.le_of_ble_eq_true rfl, Nat.le_of_ble_eq_true rfl⟩ hl.1 rfl (Nat.le_of_ble_eq_true rfl) dX7_isWith_51 ⟨Nat.le_of_ble_eq_true rfl, Nat.le_of_ble_eq_true rfl⟩ hs rfl hP (fun r9 F9 H9 l9 hp hP => ?_)
    obtain ⟨rfl, ⟨b10, rfl⟩ | ⟨b10, rfl⟩⟩ := hp
    · rw [hQ]
      exact sx_zret X rfl (by decide) hs rfl hP dX7_isWith_54 (⟨rfl, Or.inl ⟨by obtain ⟨j, hj, e⟩ := b10; exact ⟨j, hj, e, fun q => absurd q (by decide)⟩, rfl⟩⟩)
    · rw [hQ]
      exact sx_zret X rfl (by decide) hs rfl hP dX7_isWith_54 (⟨rfl, Or.inr ⟨fun ⟨j, hj, e, _⟩ => b10 ⟨j, hj, e⟩, rfl⟩⟩)
  · refine lv_iload_n X.1.1 X.1.2.1 dX7_isWith_0 rfl (lv_at hl 1 rfl) ?_
    refine lv_tableIn (off := 49) (tgt := 50) X.1.1 X.1.2.1 dX7_isWith_1 (by decide) (by decide) (by decide) (by decide) ?_
    refine lv_iload_n X.1.1 X.1.2.1 dX7_isWith_50 rfl (lv_at hl 2 rfl) ?_
    refine sx_csI (As := [.int (x)]) (rest := []) X (mX7_isSeen l (x := (x))) gX7_isWith_X7_isSeen rfl ys_X7_isSeen ⟨Nat.le_of_ble_eq_true rfl, Nat.le_of_ble_eq_true rfl⟩ hl.1 rfl (Nat.le_of_ble_eq_true rfl) dX7_isWith_51 ⟨Nat.le_of_ble_eq_true rfl, Nat.le_of_ble_eq_true rfl⟩ hs rfl hP (fun r11 F11 H11 l11 hp hP => ?_)
    obtain ⟨rfl, ⟨b12, rfl⟩ | ⟨b12, rfl⟩⟩ := hp
    · rw [hQ]
      exact sx_zret X rfl (by decide) hs rfl hP dX7_isWith_54 (⟨rfl, Or.inl ⟨by obtain ⟨j, hj, e⟩ := b12; exact ⟨j, hj, e, fun q => absurd q (by decide)⟩, rfl⟩⟩)
    · rw [hQ]
      exact sx_zret X rfl (by decide) hs rfl hP dX7_isWith_54 (⟨rfl, Or.inr ⟨fun ⟨j, hj, e, _⟩ => b12 ⟨j, hj, e⟩, rfl⟩⟩)
  · refine lv_iload_n X.1.1 X.1.2.1 dX7_isWith_0 rfl (lv_at hl 1 rfl) ?_
    refine lv_tableOut (tgt := 55) X.1.1 X.1.2.1 dX7_isWith_1 (by decide) (by decide) ?_
    refine lv_iload_n X.1.1 X.1.2.1 dX7_isWith_55 rfl (lv_at hl 2 rfl) ?_
    refine sx_csI (As := [.int (x)]) (rest := []) X (mX7_isThread l (x := (x))) gX7_isWith_X7_isThread rfl ys_X7_isThread ⟨Nat.le_of_ble_eq_true rfl, Nat.le_of_ble_eq_true rfl⟩ hl.1 rfl (Nat.le_of_ble_eq_true rfl) dX7_isWith_56 ⟨Nat.le_of_ble_eq_true rfl, Nat.le_of_ble_eq_true rfl⟩ hs rfl hP (fun r13 F13 H13 l13 hp hP => ?_)
    obtain ⟨rfl, ⟨b14, rfl⟩ | ⟨b14, rfl⟩⟩ := hp
    · refine sx_if_eq X (by decide) (tgt := 71) dX7_isWith_59 (by decide) (fun h => absurd h (by decide)) (fun _ => ?_)
      refine lv_iload_n X.1.1 X.1.2.1 dX7_isWith_62 rfl (lv_at hl 2 rfl) ?_
      refine lv_iload_n X.1.1 X.1.2.1 dX7_isWith_63 rfl (lv_at hl 0 rfl) ?_
      refine lv_icmp_eq X.1.1 X.1.2.1 (tgt := 71) dX7_isWith_64 (by decide) (fun c64 => ?_) (fun c64 => ?_)
      · refine lv_iconst (v := nI 0) X.1.1 X.1.2.1 dX7_isWith_71 (by decide) ?_
        rw [hQ]
        exact sx_zret X rfl (by decide) hs rfl hP dX7_isWith_72 (⟨rfl, Or.inr ⟨fun ⟨j, hj, e, h6⟩ => h6 (by decide) ((nI_eq (by have : j < 4 := hj; omega) (by omega)).mp (e.symm.trans c64)), rfl⟩⟩)
      · refine lv_iconst (v := nI 1) X.1.1 X.1.2.1 dX7_isWith_67 (by decide) ?_
        refine lv_goto (tgt := 72) X.1.1 X.1.2.1 dX7_isWith_68 (by decide) ?_
        rw [hQ]
        exact sx_zret X rfl (by decide) hs rfl hP dX7_isWith_72 (⟨rfl, Or.inl ⟨by obtain ⟨j, hj, e⟩ := b14; exact ⟨j, hj, e, fun _ q => c64 (by rw [e, q])⟩, rfl⟩⟩)
    · refine sx_if_eq X (by decide) (tgt := 71) dX7_isWith_59 (by decide) (fun _ => ?_) (fun h => absurd h (by decide))
      refine lv_iconst (v := nI 0) X.1.1 X.1.2.1 dX7_isWith_71 (by decide) ?_
      rw [hQ]
      exact sx_zret X rfl (by decide) hs rfl hP dX7_isWith_72 (⟨rfl, Or.inr ⟨fun ⟨j, hj, e, _⟩ => b14 ⟨j, hj, e⟩, rfl⟩⟩)
  · refine lv_iload_n X.1.1 X.1.2.1 dX7_isWith_0 rfl (lv_at hl 1 rfl) ?_
    refine lv_tableOut (tgt := 55) X.1.1 X.1.2.1 dX7_isWith_1 (by decide) (by decide) ?_
    refine lv_iload_n X.1.1 X.1.2.1 dX7_isWith_55 rfl (lv_at hl 2 rfl) ?_
    refine sx_csI (As := [.int (x)]) (rest := []) X (mX7_isThread l (x := (x))) gX7_isWith_X7_isThread rfl ys_X7_isThread ⟨Nat.le_of_ble_eq_true rfl, Nat.le_of_ble_eq_true rfl⟩ hl.1 rfl (Nat.le_of_ble_eq_true rfl) dX7_isWith_56 ⟨Nat.le_of_ble_eq_true rfl, Nat.le_of_ble_eq_true rfl⟩ hs rfl hP (fun r15 F15 H15 l15 hp hP => ?_)
    obtain ⟨rfl, ⟨b16, rfl⟩ | ⟨b16, rfl⟩⟩ := hp
    · refine sx_if_eq X (by decide) (tgt := 71) dX7_isWith_59 (by decide) (fun h => absurd h (by decide)) (fun _ => ?_)
      refine lv_iload_n X.1.1 X.1.2.1 dX7_isWith_62 rfl (lv_at hl 2 rfl) ?_
      refine lv_iload_n X.1.1 X.1.2.1 dX7_isWith_63 rfl (lv_at hl 0 rfl) ?_
      refine lv_icmp_eq X.1.1 X.1.2.1 (tgt := 71) dX7_isWith_64 (by decide) (fun c64 => ?_) (fun c64 => ?_)
      · refine lv_iconst (v := nI 0) X.1.1 X.1.2.1 dX7_isWith_71 (by decide) ?_
        rw [hQ]
        exact sx_zret X rfl (by decide) hs rfl hP dX7_isWith_72 (⟨rfl, Or.inr ⟨fun ⟨j, hj, e, h6⟩ => h6 (by decide) ((nI_eq (by have : j < 4 := hj; omega) (by omega)).mp (e.symm.trans c64)), rfl⟩⟩)
      · refine lv_iconst (v := nI 1) X.1.1 X.1.2.1 dX7_isWith_67 (by decide) ?_
        refine lv_goto (tgt := 72) X.1.1 X.1.2.1 dX7_isWith_68 (by decide) ?_
        rw [hQ]
        exact sx_zret X rfl (by decide) hs rfl hP dX7_isWith_72 (⟨rfl, Or.inl ⟨by obtain ⟨j, hj, e⟩ := b16; exact ⟨j, hj, e, fun _ q => c64 (by rw [e, q])⟩, rfl⟩⟩)
    · refine sx_if_eq X (by decide) (tgt := 71) dX7_isWith_59 (by decide) (fun _ => ?_) (fun h => absurd h (by decide))
      refine lv_iconst (v := nI 0) X.1.1 X.1.2.1 dX7_isWith_71 (by decide) ?_
      rw [hQ]
      exact sx_zret X rfl (by decide) hs rfl hP dX7_isWith_72 (⟨rfl, Or.inr ⟨fun ⟨j, hj, e, _⟩ => b16 ⟨j, hj, e⟩, rfl⟩⟩)
theorem ys_X7_can : yX7_can.cls ≠ "java/lang/invoke/MethodHandle" ∧ yX7_can.cls ≠ "java/lang/invoke/VarHandle" ∧ (parseMethodDescriptor yX7_can.desc).map (fun d => d.parameters.length) = some 3 := by decide +kernel
theorem yv_X7_can : yX7_can.cls = RX7 ∧ yX7_can.cls ≠ "java/lang/invoke/MethodHandle" ∧ yX7_can.cls ≠ "java/lang/invoke/VarHandle" ∧ (parseMethodDescriptor yX7_can.desc).map (fun d => d.parameters.length) = some 3 := ⟨rfl, ys_X7_can⟩
theorem in_X7_can_X7 : ∀ w ∈ wsX70, w ∈ wsX7_can := fun _ h => List.mem_cons_of_mem _ (List.mem_append_right _ (h))
theorem lk_X7_can_fieldLink_RX7_7_RaceWatchModel_w_I : (.fieldLink RX7 7 "RaceWatchModel" "w" "[I" : Cond) ∈ wsX7_can := List.mem_cons_of_mem _ (List.mem_append_left _ (List.mem_of_getElem? (i := 0) rfl))
abbrev rmX7_can : Room := { frames := 1, cells := 0, slots := 0, locals := 23 }
set_option maxHeartbeats 4000000 in
set_option maxRecDepth 100000 in
theorem mX7_can {G : sx_G} (l : Launch) {F : Nat → va_E} {w : Nat → Int32} {of : List Value} {t s x : Nat} (ht : t < 4) (hs8 : s < 8) (hx4 : x < 4) (h91 : F (91) = ob 7 (rf G 92 :: of)) (h92 : F (92) = rI G (4358) (w)) : sx_I G l yX7_can wsX7_can rmX7_can [rf G 91, .int (nI (t)), .int (nI (s)), .int (nI (x))] (97) F (97) (fun r F1 => F = F1 ∧ ((canF w t s x) ∧ nI 1 = r ∨ ¬ (canF w t s x) ∧ nI 0 = r)) := by
  refine sx_enter (cc := cX7_can) (maxL := 4) (ret := some .boolean) (own := RX7) (nm := "can") (by decide) rfl rfl rfl (Nat.le_of_ble_eq_true rfl) ?_
  intro pp ee ss mm args below meth kc ls Q hQ X hs hP hl
  have hl : lv_has ls 4 [(0, rf G 91), (1, .int (nI (t))), (2, .int (nI (s))), (3, .int (nI (x)))] := hl
  rcases (show s = 0 ∨ s = 1 ∨ s = 2 ∨ s = 3 ∨ s = 4 ∨ s = 5 ∨ s = 6 ∨ s = 7 by omega) with rfl | rfl | rfl | rfl | rfl | rfl | rfl | rfl
  · refine lv_aload_n X.1.1 X.1.2.1 dX7_can_0 rfl (lv_at hl 0 rfl) ?_
    refine sx_get X hP in_X7_can_X7 h91 (by decide) rfl 0 (by decide) lk_X7_can_fieldLink_RX7_7_RaceWatchModel_w_I rfl dX7_can_1 ?_
    refine lv_iconst (v := nI 0) X.1.1 X.1.2.1 dX7_can_4 (by decide) ?_
    refine lv_iload_n X.1.1 X.1.2.1 dX7_can_5 rfl (lv_at hl 1 rfl) ?_
    refine sx_addN X (t) (by omega) dX7_can_6 ?_
    refine sx_ald X hP h92 (by decide) (t) (by omega) (by decide) dX7_can_7 ?_
    refine lv_iconst (v := nI 1) X.1.1 X.1.2.1 dX7_can_8 (by decide) ?_
    refine lv_icmp_eq X.1.1 X.1.2.1 (tgt := 14) dX7_can_9 (by decide) (fun c9 => ?_) (fun c9 => ?_)
    · refine lv_iload_n X.1.1 X.1.2.1 dX7_can_14 rfl (lv_at hl 2 rfl) ?_
      refine lv_tableOut (tgt := 133) X.1.1 X.1.2.1 dX7_can_15 (by decide) (by decide) ?_
      refine lv_iconst (v := nI 1) X.1.1 X.1.2.1 dX7_can_133 (by decide) ?_
      rw [hQ]
      exact sx_zret X rfl (by decide) hs rfl hP dX7_can_134 (⟨rfl, Or.inl ⟨⟨c9, fun q => absurd q (by decide), fun q => absurd q (by decide), fun q => absurd q (by decide), fun q => absurd q (by decide)⟩, rfl⟩⟩)
    · refine lv_iconst (v := nI 0) X.1.1 X.1.2.1 dX7_can_12 (by decide) ?_
      rw [hQ]
      exact sx_zret X rfl (by decide) hs rfl hP dX7_can_13 (⟨rfl, Or.inr ⟨fun q => c9 q.1, rfl⟩⟩)
  · refine lv_aload_n X.1.1 X.1.2.1 dX7_can_0 rfl (lv_at hl 0 rfl) ?_
    refine sx_get X hP in_X7_can_X7 h91 (by decide) rfl 0 (by decide) lk_X7_can_fieldLink_RX7_7_RaceWatchModel_w_I rfl dX7_can_1 ?_
    refine lv_iconst (v := nI 0) X.1.1 X.1.2.1 dX7_can_4 (by decide) ?_
    refine lv_iload_n X.1.1 X.1.2.1 dX7_can_5 rfl (lv_at hl 1 rfl) ?_
    refine sx_addN X (t) (by omega) dX7_can_6 ?_
    refine sx_ald X hP h92 (by decide) (t) (by omega) (by decide) dX7_can_7 ?_
    refine lv_iconst (v := nI 1) X.1.1 X.1.2.1 dX7_can_8 (by decide) ?_
    refine lv_icmp_eq X.1.1 X.1.2.1 (tgt := 14) dX7_can_9 (by decide) (fun c9 => ?_) (fun c9 => ?_)
    · refine lv_iload_n X.1.1 X.1.2.1 dX7_can_14 rfl (lv_at hl 2 rfl) ?_
      refine lv_tableOut (tgt := 133) X.1.1 X.1.2.1 dX7_can_15 (by decide) (by decide) ?_
      refine lv_iconst (v := nI 1) X.1.1 X.1.2.1 dX7_can_133 (by decide) ?_
      rw [hQ]
      exact sx_zret X rfl (by decide) hs rfl hP dX7_can_134 (⟨rfl, Or.inl ⟨⟨c9, fun q => absurd q (by decide), fun q => absurd q (by decide), fun q => absurd q (by decide), fun q => absurd q (by decide)⟩, rfl⟩⟩)
    · refine lv_iconst (v := nI 0) X.1.1 X.1.2.1 dX7_can_12 (by decide) ?_
      rw [hQ]
      exact sx_zret X rfl (by decide) hs rfl hP dX7_can_13 (⟨rfl, Or.inr ⟨fun q => c9 q.1, rfl⟩⟩)
  · refine lv_aload_n X.1.1 X.1.2.1 dX7_can_0 rfl (lv_at hl 0 rfl) ?_
    refine sx_get X hP in_X7_can_X7 h91 (by decide) rfl 0 (by decide) lk_X7_can_fieldLink_RX7_7_RaceWatchModel_w_I rfl dX7_can_1 ?_
    refine lv_iconst (v := nI 0) X.1.1 X.1.2.1 dX7_can_4 (by decide) ?_
    refine lv_iload_n X.1.1 X.1.2.1 dX7_can_5 rfl (lv_at hl 1 rfl) ?_
    refine sx_addN X (t) (by omega) dX7_can_6 ?_
    refine sx_ald X hP h92 (by decide) (t) (by omega) (by decide) dX7_can_7 ?_
    refine lv_iconst (v := nI 1) X.1.1 X.1.2.1 dX7_can_8 (by decide) ?_
    refine lv_icmp_eq X.1.1 X.1.2.1 (tgt := 14) dX7_can_9 (by decide) (fun c9 => ?_) (fun c9 => ?_)
    · refine lv_iload_n X.1.1 X.1.2.1 dX7_can_14 rfl (lv_at hl 2 rfl) ?_
      refine lv_tableIn (off := 37) (tgt := 52) X.1.1 X.1.2.1 dX7_can_15 (by decide) (by decide) (by decide) (by decide) ?_
      refine lv_aload_n X.1.1 X.1.2.1 dX7_can_52 rfl (lv_at hl 0 rfl) ?_
      refine sx_get X hP in_X7_can_X7 h91 (by decide) rfl 0 (by decide) lk_X7_can_fieldLink_RX7_7_RaceWatchModel_w_I rfl dX7_can_53 ?_
      refine lv_bipush (v := nI 40) X.1.1 X.1.2.1 dX7_can_56 (by decide) ?_
      refine lv_iload_n X.1.1 X.1.2.1 dX7_can_58 rfl (lv_at hl 3 rfl) ?_
      refine sx_addN X (40 + x) (by omega) dX7_can_59 ?_
      refine sx_ald X hP h92 (by decide) (40 + x) (by omega) (by decide) dX7_can_60 ?_
      refine lv_iconst (v := (-1)) X.1.1 X.1.2.1 dX7_can_61 (by decide) ?_
      refine lv_icmp_ne X.1.1 X.1.2.1 (tgt := 69) dX7_can_62 (by decide) (fun c62 => ?_) (fun c62 => ?_)
      · refine lv_iconst (v := nI 0) X.1.1 X.1.2.1 dX7_can_69 (by decide) ?_
        rw [hQ]
        exact sx_zret X rfl (by decide) hs rfl hP dX7_can_70 (⟨rfl, Or.inr ⟨fun q => c62 (q.2.1 rfl), rfl⟩⟩)
      · refine lv_iconst (v := nI 1) X.1.1 X.1.2.1 dX7_can_65 (by decide) ?_
        refine lv_goto (tgt := 70) X.1.1 X.1.2.1 dX7_can_66 (by decide) ?_
        rw [hQ]
        exact sx_zret X rfl (by decide) hs rfl hP dX7_can_70 (⟨rfl, Or.inl ⟨⟨c9, fun _ => c62, fun q => absurd q (by decide), fun q => absurd q (by decide), fun q => absurd q (by decide)⟩, rfl⟩⟩)
    · refine lv_iconst (v := nI 0) X.1.1 X.1.2.1 dX7_can_12 (by decide) ?_
      rw [hQ]
      exact sx_zret X rfl (by decide) hs rfl hP dX7_can_13 (⟨rfl, Or.inr ⟨fun q => c9 q.1, rfl⟩⟩)
  · refine lv_aload_n X.1.1 X.1.2.1 dX7_can_0 rfl (lv_at hl 0 rfl) ?_
    refine sx_get X hP in_X7_can_X7 h91 (by decide) rfl 0 (by decide) lk_X7_can_fieldLink_RX7_7_RaceWatchModel_w_I rfl dX7_can_1 ?_
    refine lv_iconst (v := nI 0) X.1.1 X.1.2.1 dX7_can_4 (by decide) ?_
    refine lv_iload_n X.1.1 X.1.2.1 dX7_can_5 rfl (lv_at hl 1 rfl) ?_
    refine sx_addN X (t) (by omega) dX7_can_6 ?_
    refine sx_ald X hP h92 (by decide) (t) (by omega) (by decide) dX7_can_7 ?_
    refine lv_iconst (v := nI 1) X.1.1 X.1.2.1 dX7_can_8 (by decide) ?_
    refine lv_icmp_eq X.1.1 X.1.2.1 (tgt := 14) dX7_can_9 (by decide) (fun c9 => ?_) (fun c9 => ?_)
    · refine lv_iload_n X.1.1 X.1.2.1 dX7_can_14 rfl (lv_at hl 2 rfl) ?_
      refine lv_tableIn (off := 56) (tgt := 71) X.1.1 X.1.2.1 dX7_can_15 (by decide) (by decide) (by decide) (by decide) ?_
      refine lv_aload_n X.1.1 X.1.2.1 dX7_can_71 rfl (lv_at hl 0 rfl) ?_
      refine sx_get X hP in_X7_can_X7 h91 (by decide) rfl 0 (by decide) lk_X7_can_fieldLink_RX7_7_RaceWatchModel_w_I rfl dX7_can_72 ?_
      refine lv_bipush (v := nI 40) X.1.1 X.1.2.1 dX7_can_75 (by decide) ?_
      refine lv_iload_n X.1.1 X.1.2.1 dX7_can_77 rfl (lv_at hl 3 rfl) ?_
      refine sx_addN X (40 + x) (by omega) dX7_can_78 ?_
      refine sx_ald X hP h92 (by decide) (40 + x) (by omega) (by decide) dX7_can_79 ?_
      refine lv_iload_n X.1.1 X.1.2.1 dX7_can_80 rfl (lv_at hl 1 rfl) ?_
      refine lv_icmp_ne X.1.1 X.1.2.1 (tgt := 88) dX7_can_81 (by decide) (fun c81 => ?_) (fun c81 => ?_)
      · refine lv_iconst (v := nI 0) X.1.1 X.1.2.1 dX7_can_88 (by decide) ?_
        rw [hQ]
        exact sx_zret X rfl (by decide) hs rfl hP dX7_can_89 (⟨rfl, Or.inr ⟨fun q => c81 (q.2.2.1 rfl), rfl⟩⟩)
      · refine lv_iconst (v := nI 1) X.1.1 X.1.2.1 dX7_can_84 (by decide) ?_
        refine lv_goto (tgt := 89) X.1.1 X.1.2.1 dX7_can_85 (by decide) ?_
        rw [hQ]
        exact sx_zret X rfl (by decide) hs rfl hP dX7_can_89 (⟨rfl, Or.inl ⟨⟨c9, fun q => absurd q (by decide), fun _ => c81, fun q => absurd q (by decide), fun q => absurd q (by decide)⟩, rfl⟩⟩)
    · refine lv_iconst (v := nI 0) X.1.1 X.1.2.1 dX7_can_12 (by decide) ?_
      rw [hQ]
      exact sx_zret X rfl (by decide) hs rfl hP dX7_can_13 (⟨rfl, Or.inr ⟨fun q => c9 q.1, rfl⟩⟩)
  · refine lv_aload_n X.1.1 X.1.2.1 dX7_can_0 rfl (lv_at hl 0 rfl) ?_
    refine sx_get X hP in_X7_can_X7 h91 (by decide) rfl 0 (by decide) lk_X7_can_fieldLink_RX7_7_RaceWatchModel_w_I rfl dX7_can_1 ?_
    refine lv_iconst (v := nI 0) X.1.1 X.1.2.1 dX7_can_4 (by decide) ?_
    refine lv_iload_n X.1.1 X.1.2.1 dX7_can_5 rfl (lv_at hl 1 rfl) ?_
    refine sx_addN X (t) (by omega) dX7_can_6 ?_
    refine sx_ald X hP h92 (by decide) (t) (by omega) (by decide) dX7_can_7 ?_
    refine lv_iconst (v := nI 1) X.1.1 X.1.2.1 dX7_can_8 (by decide) ?_
    refine lv_icmp_eq X.1.1 X.1.2.1 (tgt := 14) dX7_can_9 (by decide) (fun c9 => ?_) (fun c9 => ?_)
    · refine lv_iload_n X.1.1 X.1.2.1 dX7_can_14 rfl (lv_at hl 2 rfl) ?_
      refine lv_tableIn (off := 118) (tgt := 133) X.1.1 X.1.2.1 dX7_can_15 (by decide) (by decide) (by decide) (by decide) ?_
      refine lv_iconst (v := nI 1) X.1.1 X.1.2.1 dX7_can_133 (by decide) ?_
      rw [hQ]
      exact sx_zret X rfl (by decide) hs rfl hP dX7_can_134 (⟨rfl, Or.inl ⟨⟨c9, fun q => absurd q (by decide), fun q => absurd q (by decide), fun q => absurd q (by decide), fun q => absurd q (by decide)⟩, rfl⟩⟩)
    · refine lv_iconst (v := nI 0) X.1.1 X.1.2.1 dX7_can_12 (by decide) ?_
      rw [hQ]
      exact sx_zret X rfl (by decide) hs rfl hP dX7_can_13 (⟨rfl, Or.inr ⟨fun q => c9 q.1, rfl⟩⟩)
  · refine lv_aload_n X.1.1 X.1.2.1 dX7_can_0 rfl (lv_at hl 0 rfl) ?_
    refine sx_get X hP in_X7_can_X7 h91 (by decide) rfl 0 (by decide) lk_X7_can_fieldLink_RX7_7_RaceWatchModel_w_I rfl dX7_can_1 ?_
    refine lv_iconst (v := nI 0) X.1.1 X.1.2.1 dX7_can_4 (by decide) ?_
    refine lv_iload_n X.1.1 X.1.2.1 dX7_can_5 rfl (lv_at hl 1 rfl) ?_
    refine sx_addN X (t) (by omega) dX7_can_6 ?_
    refine sx_ald X hP h92 (by decide) (t) (by omega) (by decide) dX7_can_7 ?_
    refine lv_iconst (v := nI 1) X.1.1 X.1.2.1 dX7_can_8 (by decide) ?_
    refine lv_icmp_eq X.1.1 X.1.2.1 (tgt := 14) dX7_can_9 (by decide) (fun c9 => ?_) (fun c9 => ?_)
    · refine lv_iload_n X.1.1 X.1.2.1 dX7_can_14 rfl (lv_at hl 2 rfl) ?_
      refine lv_tableIn (off := 118) (tgt := 133) X.1.1 X.1.2.1 dX7_can_15 (by decide) (by decide) (by decide) (by decide) ?_
      refine lv_iconst (v := nI 1) X.1.1 X.1.2.1 dX7_can_133 (by decide) ?_
      rw [hQ]
      exact sx_zret X rfl (by decide) hs rfl hP dX7_can_134 (⟨rfl, Or.inl ⟨⟨c9, fun q => absurd q (by decide), fun q => absurd q (by decide), fun q => absurd q (by decide), fun q => absurd q (by decide)⟩, rfl⟩⟩)
    · refine lv_iconst (v := nI 0) X.1.1 X.1.2.1 dX7_can_12 (by decide) ?_
      rw [hQ]
      exact sx_zret X rfl (by decide) hs rfl hP dX7_can_13 (⟨rfl, Or.inr ⟨fun q => c9 q.1, rfl⟩⟩)
  · refine lv_aload_n X.1.1 X.1.2.1 dX7_can_0 rfl (lv_at hl 0 rfl) ?_
    refine sx_get X hP in_X7_can_X7 h91 (by decide) rfl 0 (by decide) lk_X7_can_fieldLink_RX7_7_RaceWatchModel_w_I rfl dX7_can_1 ?_
    refine lv_iconst (v := nI 0) X.1.1 X.1.2.1 dX7_can_4 (by decide) ?_
    refine lv_iload_n X.1.1 X.1.2.1 dX7_can_5 rfl (lv_at hl 1 rfl) ?_
    refine sx_addN X (t) (by omega) dX7_can_6 ?_
    refine sx_ald X hP h92 (by decide) (t) (by omega) (by decide) dX7_can_7 ?_
    refine lv_iconst (v := nI 1) X.1.1 X.1.2.1 dX7_can_8 (by decide) ?_
    refine lv_icmp_eq X.1.1 X.1.2.1 (tgt := 14) dX7_can_9 (by decide) (fun c9 => ?_) (fun c9 => ?_)
    · refine lv_iload_n X.1.1 X.1.2.1 dX7_can_14 rfl (lv_at hl 2 rfl) ?_
      refine lv_tableIn (off := 75) (tgt := 90) X.1.1 X.1.2.1 dX7_can_15 (by decide) (by decide) (by decide) (by decide) ?_
      refine lv_aload_n X.1.1 X.1.2.1 dX7_can_90 rfl (lv_at hl 0 rfl) ?_
      refine sx_get X hP in_X7_can_X7 h91 (by decide) rfl 0 (by decide) lk_X7_can_fieldLink_RX7_7_RaceWatchModel_w_I rfl dX7_can_91 ?_
      refine lv_iconst (v := nI 0) X.1.1 X.1.2.1 dX7_can_94 (by decide) ?_
      refine lv_iload_n X.1.1 X.1.2.1 dX7_can_95 rfl (lv_at hl 3 rfl) ?_
      refine sx_addN X (x) (by omega) dX7_can_96 ?_
      refine sx_ald X hP h92 (by decide) (x) (by omega) (by decide) dX7_can_97 ?_
      refine lv_if_ne X.1.1 X.1.2.1 (tgt := 105) dX7_can_98 (by decide) (fun c98 => ?_) (fun c98 => ?_)
      · refine lv_iconst (v := nI 0) X.1.1 X.1.2.1 dX7_can_105 (by decide) ?_
        rw [hQ]
        exact sx_zret X rfl (by decide) hs rfl hP dX7_can_106 (⟨rfl, Or.inr ⟨fun q => c98 (q.2.2.2.1 rfl), rfl⟩⟩)
      · refine lv_iconst (v := nI 1) X.1.1 X.1.2.1 dX7_can_101 (by decide) ?_
        refine lv_goto (tgt := 106) X.1.1 X.1.2.1 dX7_can_102 (by decide) ?_
        rw [hQ]
        exact sx_zret X rfl (by decide) hs rfl hP dX7_can_106 (⟨rfl, Or.inl ⟨⟨c9, fun q => absurd q (by decide), fun q => absurd q (by decide), fun _ => c98, fun q => absurd q (by decide)⟩, rfl⟩⟩)
    · refine lv_iconst (v := nI 0) X.1.1 X.1.2.1 dX7_can_12 (by decide) ?_
      rw [hQ]
      exact sx_zret X rfl (by decide) hs rfl hP dX7_can_13 (⟨rfl, Or.inr ⟨fun q => c9 q.1, rfl⟩⟩)
  · refine lv_aload_n X.1.1 X.1.2.1 dX7_can_0 rfl (lv_at hl 0 rfl) ?_
    refine sx_get X hP in_X7_can_X7 h91 (by decide) rfl 0 (by decide) lk_X7_can_fieldLink_RX7_7_RaceWatchModel_w_I rfl dX7_can_1 ?_
    refine lv_iconst (v := nI 0) X.1.1 X.1.2.1 dX7_can_4 (by decide) ?_
    refine lv_iload_n X.1.1 X.1.2.1 dX7_can_5 rfl (lv_at hl 1 rfl) ?_
    refine sx_addN X (t) (by omega) dX7_can_6 ?_
    refine sx_ald X hP h92 (by decide) (t) (by omega) (by decide) dX7_can_7 ?_
    refine lv_iconst (v := nI 1) X.1.1 X.1.2.1 dX7_can_8 (by decide) ?_
    refine lv_icmp_eq X.1.1 X.1.2.1 (tgt := 14) dX7_can_9 (by decide) (fun c9 => ?_) (fun c9 => ?_)
    · refine lv_iload_n X.1.1 X.1.2.1 dX7_can_14 rfl (lv_at hl 2 rfl) ?_
      refine lv_tableIn (off := 92) (tgt := 107) X.1.1 X.1.2.1 dX7_can_15 (by decide) (by decide) (by decide) (by decide) ?_
      refine lv_aload_n X.1.1 X.1.2.1 dX7_can_107 rfl (lv_at hl 0 rfl) ?_
      refine sx_get X hP in_X7_can_X7 h91 (by decide) rfl 0 (by decide) lk_X7_can_fieldLink_RX7_7_RaceWatchModel_w_I rfl dX7_can_108 ?_
      refine lv_iconst (v := nI 0) X.1.1 X.1.2.1 dX7_can_111 (by decide) ?_
      refine lv_iload_n X.1.1 X.1.2.1 dX7_can_112 rfl (lv_at hl 3 rfl) ?_
      refine sx_addN X (x) (by omega) dX7_can_113 ?_
      refine sx_ald X hP h92 (by decide) (x) (by omega) (by decide) dX7_can_114 ?_
      refine lv_iconst (v := nI 1) X.1.1 X.1.2.1 dX7_can_115 (by decide) ?_
      refine lv_icmp_ne X.1.1 X.1.2.1 (tgt := 131) dX7_can_116 (by decide) (fun c116 => ?_) (fun c116 => ?_)
      · refine lv_iconst (v := nI 0) X.1.1 X.1.2.1 dX7_can_131 (by decide) ?_
        rw [hQ]
        exact sx_zret X rfl (by decide) hs rfl hP dX7_can_132 (⟨rfl, Or.inr ⟨fun q => c116 (q.2.2.2.2 rfl).1, rfl⟩⟩)
      · refine lv_aload_n X.1.1 X.1.2.1 dX7_can_119 rfl (lv_at hl 0 rfl) ?_
        refine lv_iload_n X.1.1 X.1.2.1 dX7_can_120 rfl (lv_at hl 3 rfl) ?_
        refine sx_cvI (As := [.int (nI (x))]) (rest := []) X (mX7_held l (t := (nI (x))) h91 h92) gX7_can_X7_held rfl yv_X7_held ⟨Nat.le_of_ble_eq_true rfl, Nat.le_of_ble_eq_true rfl⟩ h91 (by decide) rfl rfl hl.1 rfl (Nat.le_of_ble_eq_true rfl) dX7_can_121 ⟨Nat.le_of_ble_eq_true rfl, Nat.le_of_ble_eq_true rfl⟩ hs rfl hP (fun r1 F1 H1 l1 hp hP => ?_)
        obtain ⟨rfl, rfl⟩ := hp
        refine lv_if_ne X.1.1 X.1.2.1 (tgt := 131) dX7_can_124 (by decide) (fun c124 => ?_) (fun c124 => ?_)
        · refine lv_iconst (v := nI 0) X.1.1 X.1.2.1 dX7_can_131 (by decide) ?_
          rw [hQ]
          exact sx_zret X rfl (by decide) hs rfl hP dX7_can_132 (⟨rfl, Or.inr ⟨fun q => c124 (q.2.2.2.2 rfl).2, rfl⟩⟩)
        · refine lv_iconst (v := nI 1) X.1.1 X.1.2.1 dX7_can_127 (by decide) ?_
          refine lv_goto (tgt := 132) X.1.1 X.1.2.1 dX7_can_128 (by decide) ?_
          rw [hQ]
          exact sx_zret X rfl (by decide) hs rfl hP dX7_can_132 (⟨rfl, Or.inl ⟨⟨c9, fun q => absurd q (by decide), fun q => absurd q (by decide), fun q => absurd q (by decide), fun _ => ⟨c116, c124⟩⟩, rfl⟩⟩)
    · refine lv_iconst (v := nI 0) X.1.1 X.1.2.1 dX7_can_12 (by decide) ?_
      rw [hQ]
      exact sx_zret X rfl (by decide) hs rfl hP dX7_can_13 (⟨rfl, Or.inr ⟨fun q => c9 q.1, rfl⟩⟩)
theorem ys_X7_writes : yX7_writes.cls ≠ "java/lang/invoke/MethodHandle" ∧ yX7_writes.cls ≠ "java/lang/invoke/VarHandle" ∧ (parseMethodDescriptor yX7_writes.desc).map (fun d => d.parameters.length) = some 3 := by decide +kernel
theorem yv_X7_writes : yX7_writes.cls = RX7 ∧ yX7_writes.cls ≠ "java/lang/invoke/MethodHandle" ∧ yX7_writes.cls ≠ "java/lang/invoke/VarHandle" ∧ (parseMethodDescriptor yX7_writes.desc).map (fun d => d.parameters.length) = some 3 := ⟨rfl, ys_X7_writes⟩
theorem in_X7_writes_X7 : ∀ w ∈ wsX70, w ∈ wsX7_writes := fun _ h => List.mem_cons_of_mem _ (List.mem_append_right _ (h))
theorem lk_X7_writes_fieldLink_RX7_7_RaceWatchModel_w_I : (.fieldLink RX7 7 "RaceWatchModel" "w" "[I" : Cond) ∈ wsX7_writes := List.mem_cons_of_mem _ (List.mem_append_left _ (List.mem_of_getElem? (i := 0) rfl))
abbrev rmX7_writes : Room := { frames := 1, cells := 0, slots := 0, locals := 23 }
set_option maxHeartbeats 4000000 in
set_option maxRecDepth 100000 in
theorem mX7_writes {G : sx_G} (l : Launch) {F : Nat → va_E} {w : Nat → Int32} {of : List Value} {n t s x : Nat} (ht : t < 4) (hs8 : s < 8) (hx4 : x < 4) (hn : n < 160) (h91n : w 91 = nI n) (h91 : F (91) = ob 7 (rf G 92 :: of)) (h92 : F (92) = rI G (4358) (w)) : sx_V G l yX7_writes wsX7_writes rmX7_writes [rf G 91, .int (nI (t)), .int (nI (s)), .int (nI (x))] (97) F (97) (fun F1 => F1 92 = rI G 4358 (wriF w n t s x) ∧ ∀ j, j ≠ 92 → F1 j = F j) := by
  refine sx_enter (cc := cX7_writes) (maxL := 6) (ret := none) (own := RX7) (nm := "writes") (by decide) rfl rfl rfl (Nat.le_of_ble_eq_true rfl) ?_
  intro pp ee ss mm args below meth kc ls Q hQ X hs hP hl
  have hl : lv_has ls 6 [(0, rf G 91), (1, .int (nI (t))), (2, .int (nI (s))), (3, .int (nI (x)))] := hl
  have hO : ∀ j, j ≠ 92 → F j = F j := fun _ _ => rfl
  refine lv_bipush (v := nI 92) X.1.1 X.1.2.1 dX7_writes_0 (by decide) ?_
  refine lv_bipush (v := nI 8) X.1.1 X.1.2.1 dX7_writes_2 (by decide) ?_
  refine lv_aload_n X.1.1 X.1.2.1 dX7_writes_4 rfl (lv_at hl 0 rfl) ?_
  refine sx_get X hP in_X7_writes_X7 h91 (by decide) rfl 0 (by decide) lk_X7_writes_fieldLink_RX7_7_RaceWatchModel_w_I rfl dX7_writes_5 ?_
  refine lv_bipush (v := nI 91) X.1.1 X.1.2.1 dX7_writes_8 (by decide) ?_
  refine sx_ald X hP h92 (by decide) (91) (by decide) (by decide) dX7_writes_10 ?_
  rw [h91n]
  refine sx_mulN X (8 * n) (by omega) dX7_writes_11 ?_
  refine sx_addN X (92 + 8 * n) (by omega) dX7_writes_12 ?_
  refine lv_istore (lv' := [(4, .int (nI (92 + 8 * n))), (0, rf G 91), (1, .int (nI (t))), (2, .int (nI (s))), (3, .int (nI (x)))]) X.1.1 X.1.2.1 dX7_writes_13 hl (by decide) rfl (fun ls hl => ?_)
  refine lv_aload_n X.1.1 X.1.2.1 dX7_writes_15 rfl (lv_at hl 1 rfl) ?_
  refine sx_get X hP in_X7_writes_X7 h91 (by decide) rfl 0 (by decide) lk_X7_writes_fieldLink_RX7_7_RaceWatchModel_w_I rfl dX7_writes_16 ?_
  refine lv_iload X.1.1 X.1.2.1 dX7_writes_19 (lv_at hl 0 rfl) ?_
  refine lv_iload_n X.1.1 X.1.2.1 dX7_writes_21 rfl (lv_at hl 2 rfl) ?_
  refine sx_ast X hP h92 (by decide) (92 + 8 * n) (by omega) (by decide) dX7_writes_22 (fun F1 H1 l1 e1 o1 hP => ?_)
  obtain ⟨w1, hw1⟩ : ∃ z, z = upd w (92 + 8 * n) (nI (t)) := ⟨_, rfl⟩
  rw [← hw1] at e1
  have h91n_1 : w1 (91) = (nI (n)) := by rw [hw1]; exact (pk_un (by omega)).trans h91n
  have h92 : F1 (92) = rI G (4358) (w1) := e1
  have h91 := (o1 (91) (by decide)).trans h91
  have hO : ∀ j, j ≠ 92 → F1 j = F j := fun j hj => (o1 j (by omega)).trans (hO j hj)
  refine lv_aload_n X.1.1 X.1.2.1 dX7_writes_23 rfl (lv_at hl 1 rfl) ?_
  refine sx_get X hP in_X7_writes_X7 h91 (by decide) rfl 0 (by decide) lk_X7_writes_fieldLink_RX7_7_RaceWatchModel_w_I rfl dX7_writes_24 ?_
  refine lv_iload X.1.1 X.1.2.1 dX7_writes_27 (lv_at hl 0 rfl) ?_
  refine lv_iconst (v := nI 1) X.1.1 X.1.2.1 dX7_writes_29 (by decide) ?_
  refine sx_addN X (93 + 8 * n) (by omega) dX7_writes_30 ?_
  refine lv_iload_n X.1.1 X.1.2.1 dX7_writes_31 rfl (lv_at hl 3 rfl) ?_
  refine sx_ast X hP h92 (by decide) (93 + 8 * n) (by omega) (by decide) dX7_writes_32 (fun F2 H2 l2 e2 o2 hP => ?_)
  obtain ⟨w2, hw2⟩ : ∃ z, z = upd w1 (93 + 8 * n) (nI (s)) := ⟨_, rfl⟩
  rw [← hw2] at e2
  have h91n_1_2 : w2 (91) = (nI (n)) := by rw [hw2]; exact (pk_un (by omega)).trans h91n_1
  have h92 : F2 (92) = rI G (4358) (w2) := e2
  have h91 := (o2 (91) (by decide)).trans h91
  have hO : ∀ j, j ≠ 92 → F2 j = F j := fun j hj => (o2 j (by omega)).trans (hO j hj)
  refine lv_aload_n X.1.1 X.1.2.1 dX7_writes_33 rfl (lv_at hl 1 rfl) ?_
  refine sx_get X hP in_X7_writes_X7 h91 (by decide) rfl 0 (by decide) lk_X7_writes_fieldLink_RX7_7_RaceWatchModel_w_I rfl dX7_writes_34 ?_
  refine lv_iload X.1.1 X.1.2.1 dX7_writes_37 (lv_at hl 0 rfl) ?_
  refine lv_iconst (v := nI 2) X.1.1 X.1.2.1 dX7_writes_39 (by decide) ?_
  refine sx_addN X (94 + 8 * n) (by omega) dX7_writes_40 ?_
  refine lv_iload_n X.1.1 X.1.2.1 dX7_writes_41 rfl (lv_at hl 4 rfl) ?_
  refine sx_ast X hP h92 (by decide) (94 + 8 * n) (by omega) (by decide) dX7_writes_42 (fun F3 H3 l3 e3 o3 hP => ?_)
  obtain ⟨w3, hw3⟩ : ∃ z, z = upd w2 (94 + 8 * n) (nI (x)) := ⟨_, rfl⟩
  rw [← hw3] at e3
  have h91n_1_2_3 : w3 (91) = (nI (n)) := by rw [hw3]; exact (pk_un (by omega)).trans h91n_1_2
  have h92 : F3 (92) = rI G (4358) (w3) := e3
  have h91 := (o3 (91) (by decide)).trans h91
  have hO : ∀ j, j ≠ 92 → F3 j = F j := fun j hj => (o3 j (by omega)).trans (hO j hj)
  refine lv_iconst (v := nI 0) X.1.1 X.1.2.1 dX7_writes_43 (by decide) ?_
  refine lv_istore (lv' := [(5, .int (nI 0)), (4, .int (nI (92 + 8 * n))), (0, rf G 91), (1, .int (nI (t))), (2, .int (nI (s))), (3, .int (nI (x)))]) X.1.1 X.1.2.1 dX7_writes_44 hl (by decide) rfl (fun ls hl => ?_)
  refine lv_iload X.1.1 X.1.2.1 dX7_writes_46 (lv_at hl 0 rfl) ?_
  refine lv_iconst (v := nI 4) X.1.1 X.1.2.1 dX7_writes_48 (by decide) ?_
  refine sx_icmp_ge X (by decide) (by decide) (tgt := 77) dX7_writes_49 (by decide) (fun h => absurd h (by decide)) (fun _ => ?_)
  refine lv_aload_n X.1.1 X.1.2.1 dX7_writes_52 rfl (lv_at hl 2 rfl) ?_
  refine sx_get X hP in_X7_writes_X7 h91 (by decide) rfl 0 (by decide) lk_X7_writes_fieldLink_RX7_7_RaceWatchModel_w_I rfl dX7_writes_53 ?_
  refine lv_iload X.1.1 X.1.2.1 dX7_writes_56 (lv_at hl 1 rfl) ?_
  refine lv_iconst (v := nI 3) X.1.1 X.1.2.1 dX7_writes_58 (by decide) ?_
  refine sx_addN X (95 + 8 * n) (by omega) dX7_writes_59 ?_
  refine lv_iload X.1.1 X.1.2.1 dX7_writes_60 (lv_at hl 0 rfl) ?_
  refine sx_addN X (95 + 8 * n) (by omega) dX7_writes_62 ?_
  refine lv_aload_n X.1.1 X.1.2.1 dX7_writes_63 rfl (lv_at hl 2 rfl) ?_
  refine lv_iload_n X.1.1 X.1.2.1 dX7_writes_64 rfl (lv_at hl 3 rfl) ?_
  refine lv_iload X.1.1 X.1.2.1 dX7_writes_65 (lv_at hl 0 rfl) ?_
  refine sx_cvI (As := [.int (nI (t)), .int (nI 0)]) (rest := .int (nI (95 + 8 * n)) :: rf G 92 :: []) X (mX7_number l (t := t) (u := 0) (by omega) (by omega) h91 h92) gX7_writes_X7_number rfl yv_X7_number ⟨Nat.le_of_ble_eq_true rfl, Nat.le_of_ble_eq_true rfl⟩ h91 (by decide) rfl rfl hl.1 rfl (Nat.le_of_ble_eq_true rfl) dX7_writes_67 ⟨Nat.le_of_ble_eq_true rfl, Nat.le_of_ble_eq_true rfl⟩ hs rfl hP (fun r4 F4 H4 l4 hp hP => ?_)
  obtain ⟨rfl, rfl⟩ := hp
  rw [show w3 (4 + 4 * t + 0) = w3 (4 + 4 * t) from congrArg _ (by omega)]
  refine sx_ast X hP h92 (by decide) (95 + 8 * n) (by omega) (by decide) dX7_writes_70 (fun F5 H5 l5 e5 o5 hP => ?_)
  obtain ⟨w5, hw5⟩ : ∃ z, z = upd w3 (95 + 8 * n) (w3 (4 + 4 * t)) := ⟨_, rfl⟩
  rw [← hw5] at e5
  have h91n_1_2_3_5 : w5 (91) = (nI (n)) := by rw [hw5]; exact (pk_un (by omega)).trans h91n_1_2_3
  have h92 : F5 (92) = rI G (4358) (w5) := e5
  have h91 := (o5 (91) (by decide)).trans h91
  have hO : ∀ j, j ≠ 92 → F5 j = F j := fun j hj => (o5 j (by omega)).trans (hO j hj)
  refine lv_iinc (v := (nI (1))) (lv' := [(5, .int (nI 1)), (4, .int (nI (92 + 8 * n))), (0, rf G 91), (1, .int (nI (t))), (2, .int (nI (s))), (3, .int (nI (x)))]) X.1.1 X.1.2.1 dX7_writes_71 hl (k := 0) rfl (by decide) (by decide) rfl (fun ls hl => ?_)
  refine lv_goto (tgt := 46) X.1.1 X.1.2.1 dX7_writes_74 (by decide) ?_
  refine lv_iload X.1.1 X.1.2.1 dX7_writes_46 (lv_at hl 0 rfl) ?_
  refine lv_iconst (v := nI 4) X.1.1 X.1.2.1 dX7_writes_48 (by decide) ?_
  refine sx_icmp_ge X (by decide) (by decide) (tgt := 77) dX7_writes_49 (by decide) (fun h => absurd h (by decide)) (fun _ => ?_)
  refine lv_aload_n X.1.1 X.1.2.1 dX7_writes_52 rfl (lv_at hl 2 rfl) ?_
  refine sx_get X hP in_X7_writes_X7 h91 (by decide) rfl 0 (by decide) lk_X7_writes_fieldLink_RX7_7_RaceWatchModel_w_I rfl dX7_writes_53 ?_
  refine lv_iload X.1.1 X.1.2.1 dX7_writes_56 (lv_at hl 1 rfl) ?_
  refine lv_iconst (v := nI 3) X.1.1 X.1.2.1 dX7_writes_58 (by decide) ?_
  refine sx_addN X (95 + 8 * n) (by omega) dX7_writes_59 ?_
  refine lv_iload X.1.1 X.1.2.1 dX7_writes_60 (lv_at hl 0 rfl) ?_
  refine sx_addN X (96 + 8 * n) (by omega) dX7_writes_62 ?_
  refine lv_aload_n X.1.1 X.1.2.1 dX7_writes_63 rfl (lv_at hl 2 rfl) ?_
  refine lv_iload_n X.1.1 X.1.2.1 dX7_writes_64 rfl (lv_at hl 3 rfl) ?_
  refine lv_iload X.1.1 X.1.2.1 dX7_writes_65 (lv_at hl 0 rfl) ?_
  refine sx_cvI (As := [.int (nI (t)), .int (nI 1)]) (rest := .int (nI (96 + 8 * n)) :: rf G 92 :: []) X (mX7_number l (t := t) (u := 1) (by omega) (by omega) h91 h92) gX7_writes_X7_number rfl yv_X7_number ⟨Nat.le_of_ble_eq_true rfl, Nat.le_of_ble_eq_true rfl⟩ h91 (by decide) rfl rfl hl.1 rfl (Nat.le_of_ble_eq_true rfl) dX7_writes_67 ⟨Nat.le_of_ble_eq_true rfl, Nat.le_of_ble_eq_true rfl⟩ hs rfl hP (fun r6 F6 H6 l6 hp hP => ?_)
  obtain ⟨rfl, rfl⟩ := hp
  rw [show w5 (4 + 4 * t + 1) = w5 (5 + 4 * t) from congrArg _ (by omega)]
  refine sx_ast X hP h92 (by decide) (96 + 8 * n) (by omega) (by decide) dX7_writes_70 (fun F7 H7 l7 e7 o7 hP => ?_)
  obtain ⟨w7, hw7⟩ : ∃ z, z = upd w5 (96 + 8 * n) (w5 (5 + 4 * t)) := ⟨_, rfl⟩
  rw [← hw7] at e7
  have h91n_1_2_3_5_7 : w7 (91) = (nI (n)) := by rw [hw7]; exact (pk_un (by omega)).trans h91n_1_2_3_5
  have h92 : F7 (92) = rI G (4358) (w7) := e7
  have h91 := (o7 (91) (by decide)).trans h91
  have hO : ∀ j, j ≠ 92 → F7 j = F j := fun j hj => (o7 j (by omega)).trans (hO j hj)
  refine lv_iinc (v := (nI (2))) (lv' := [(5, .int (nI 2)), (4, .int (nI (92 + 8 * n))), (0, rf G 91), (1, .int (nI (t))), (2, .int (nI (s))), (3, .int (nI (x)))]) X.1.1 X.1.2.1 dX7_writes_71 hl (k := 0) rfl (by decide) (by decide) rfl (fun ls hl => ?_)
  refine lv_goto (tgt := 46) X.1.1 X.1.2.1 dX7_writes_74 (by decide) ?_
  refine lv_iload X.1.1 X.1.2.1 dX7_writes_46 (lv_at hl 0 rfl) ?_
  refine lv_iconst (v := nI 4) X.1.1 X.1.2.1 dX7_writes_48 (by decide) ?_
  refine sx_icmp_ge X (by decide) (by decide) (tgt := 77) dX7_writes_49 (by decide) (fun h => absurd h (by decide)) (fun _ => ?_)
  refine lv_aload_n X.1.1 X.1.2.1 dX7_writes_52 rfl (lv_at hl 2 rfl) ?_
  refine sx_get X hP in_X7_writes_X7 h91 (by decide) rfl 0 (by decide) lk_X7_writes_fieldLink_RX7_7_RaceWatchModel_w_I rfl dX7_writes_53 ?_
  refine lv_iload X.1.1 X.1.2.1 dX7_writes_56 (lv_at hl 1 rfl) ?_
  refine lv_iconst (v := nI 3) X.1.1 X.1.2.1 dX7_writes_58 (by decide) ?_
  refine sx_addN X (95 + 8 * n) (by omega) dX7_writes_59 ?_
  refine lv_iload X.1.1 X.1.2.1 dX7_writes_60 (lv_at hl 0 rfl) ?_
  refine sx_addN X (97 + 8 * n) (by omega) dX7_writes_62 ?_
  refine lv_aload_n X.1.1 X.1.2.1 dX7_writes_63 rfl (lv_at hl 2 rfl) ?_
  refine lv_iload_n X.1.1 X.1.2.1 dX7_writes_64 rfl (lv_at hl 3 rfl) ?_
  refine lv_iload X.1.1 X.1.2.1 dX7_writes_65 (lv_at hl 0 rfl) ?_
  refine sx_cvI (As := [.int (nI (t)), .int (nI 2)]) (rest := .int (nI (97 + 8 * n)) :: rf G 92 :: []) X (mX7_number l (t := t) (u := 2) (by omega) (by omega) h91 h92) gX7_writes_X7_number rfl yv_X7_number ⟨Nat.le_of_ble_eq_true rfl, Nat.le_of_ble_eq_true rfl⟩ h91 (by decide) rfl rfl hl.1 rfl (Nat.le_of_ble_eq_true rfl) dX7_writes_67 ⟨Nat.le_of_ble_eq_true rfl, Nat.le_of_ble_eq_true rfl⟩ hs rfl hP (fun r8 F8 H8 l8 hp hP => ?_)
  obtain ⟨rfl, rfl⟩ := hp
  rw [show w7 (4 + 4 * t + 2) = w7 (6 + 4 * t) from congrArg _ (by omega)]
  refine sx_ast X hP h92 (by decide) (97 + 8 * n) (by omega) (by decide) dX7_writes_70 (fun F9 H9 l9 e9 o9 hP => ?_)
  obtain ⟨w9, hw9⟩ : ∃ z, z = upd w7 (97 + 8 * n) (w7 (6 + 4 * t)) := ⟨_, rfl⟩
  rw [← hw9] at e9
  have h91n_1_2_3_5_7_9 : w9 (91) = (nI (n)) := by rw [hw9]; exact (pk_un (by omega)).trans h91n_1_2_3_5_7
  have h92 : F9 (92) = rI G (4358) (w9) := e9
  have h91 := (o9 (91) (by decide)).trans h91
  have hO : ∀ j, j ≠ 92 → F9 j = F j := fun j hj => (o9 j (by omega)).trans (hO j hj)
  refine lv_iinc (v := (nI (3))) (lv' := [(5, .int (nI 3)), (4, .int (nI (92 + 8 * n))), (0, rf G 91), (1, .int (nI (t))), (2, .int (nI (s))), (3, .int (nI (x)))]) X.1.1 X.1.2.1 dX7_writes_71 hl (k := 0) rfl (by decide) (by decide) rfl (fun ls hl => ?_)
  refine lv_goto (tgt := 46) X.1.1 X.1.2.1 dX7_writes_74 (by decide) ?_
  refine lv_iload X.1.1 X.1.2.1 dX7_writes_46 (lv_at hl 0 rfl) ?_
  refine lv_iconst (v := nI 4) X.1.1 X.1.2.1 dX7_writes_48 (by decide) ?_
  refine sx_icmp_ge X (by decide) (by decide) (tgt := 77) dX7_writes_49 (by decide) (fun h => absurd h (by decide)) (fun _ => ?_)
  refine lv_aload_n X.1.1 X.1.2.1 dX7_writes_52 rfl (lv_at hl 2 rfl) ?_
  refine sx_get X hP in_X7_writes_X7 h91 (by decide) rfl 0 (by decide) lk_X7_writes_fieldLink_RX7_7_RaceWatchModel_w_I rfl dX7_writes_53 ?_
  refine lv_iload X.1.1 X.1.2.1 dX7_writes_56 (lv_at hl 1 rfl) ?_
  refine lv_iconst (v := nI 3) X.1.1 X.1.2.1 dX7_writes_58 (by decide) ?_
  refine sx_addN X (95 + 8 * n) (by omega) dX7_writes_59 ?_
  refine lv_iload X.1.1 X.1.2.1 dX7_writes_60 (lv_at hl 0 rfl) ?_
  refine sx_addN X (98 + 8 * n) (by omega) dX7_writes_62 ?_
  refine lv_aload_n X.1.1 X.1.2.1 dX7_writes_63 rfl (lv_at hl 2 rfl) ?_
  refine lv_iload_n X.1.1 X.1.2.1 dX7_writes_64 rfl (lv_at hl 3 rfl) ?_
  refine lv_iload X.1.1 X.1.2.1 dX7_writes_65 (lv_at hl 0 rfl) ?_
  refine sx_cvI (As := [.int (nI (t)), .int (nI 3)]) (rest := .int (nI (98 + 8 * n)) :: rf G 92 :: []) X (mX7_number l (t := t) (u := 3) (by omega) (by omega) h91 h92) gX7_writes_X7_number rfl yv_X7_number ⟨Nat.le_of_ble_eq_true rfl, Nat.le_of_ble_eq_true rfl⟩ h91 (by decide) rfl rfl hl.1 rfl (Nat.le_of_ble_eq_true rfl) dX7_writes_67 ⟨Nat.le_of_ble_eq_true rfl, Nat.le_of_ble_eq_true rfl⟩ hs rfl hP (fun r10 F10 H10 l10 hp hP => ?_)
  obtain ⟨rfl, rfl⟩ := hp
  rw [show w9 (4 + 4 * t + 3) = w9 (7 + 4 * t) from congrArg _ (by omega)]
  refine sx_ast X hP h92 (by decide) (98 + 8 * n) (by omega) (by decide) dX7_writes_70 (fun F11 H11 l11 e11 o11 hP => ?_)
  obtain ⟨w11, hw11⟩ : ∃ z, z = upd w9 (98 + 8 * n) (w9 (7 + 4 * t)) := ⟨_, rfl⟩
  rw [← hw11] at e11
  have h91n_1_2_3_5_7_9_11 : w11 (91) = (nI (n)) := by rw [hw11]; exact (pk_un (by omega)).trans h91n_1_2_3_5_7_9
  have h92 : F11 (92) = rI G (4358) (w11) := e11
  have h91 := (o11 (91) (by decide)).trans h91
  have hO : ∀ j, j ≠ 92 → F11 j = F j := fun j hj => (o11 j (by omega)).trans (hO j hj)
  refine lv_iinc (v := (nI (4))) (lv' := [(5, .int (nI 4)), (4, .int (nI (92 + 8 * n))), (0, rf G 91), (1, .int (nI (t))), (2, .int (nI (s))), (3, .int (nI (x)))]) X.1.1 X.1.2.1 dX7_writes_71 hl (k := 0) rfl (by decide) (by decide) rfl (fun ls hl => ?_)
  refine lv_goto (tgt := 46) X.1.1 X.1.2.1 dX7_writes_74 (by decide) ?_
  refine lv_iload X.1.1 X.1.2.1 dX7_writes_46 (lv_at hl 0 rfl) ?_
  refine lv_iconst (v := nI 4) X.1.1 X.1.2.1 dX7_writes_48 (by decide) ?_
  refine sx_icmp_ge X (by decide) (by decide) (tgt := 77) dX7_writes_49 (by decide) (fun _ => ?_) (fun h => absurd h (by decide))
  refine lv_aload_n X.1.1 X.1.2.1 dX7_writes_77 rfl (lv_at hl 2 rfl) ?_
  refine sx_get X hP in_X7_writes_X7 h91 (by decide) rfl 0 (by decide) lk_X7_writes_fieldLink_RX7_7_RaceWatchModel_w_I rfl dX7_writes_78 ?_
  refine lv_iload X.1.1 X.1.2.1 dX7_writes_81 (lv_at hl 1 rfl) ?_
  refine lv_bipush (v := nI 7) X.1.1 X.1.2.1 dX7_writes_83 (by decide) ?_
  refine sx_addN X (99 + 8 * n) (by omega) dX7_writes_85 ?_
  refine lv_aload_n X.1.1 X.1.2.1 dX7_writes_86 rfl (lv_at hl 2 rfl) ?_
  refine lv_iload_n X.1.1 X.1.2.1 dX7_writes_87 rfl (lv_at hl 3 rfl) ?_
  refine sx_cvI (As := [.int (nI (t))]) (rest := .int (nI (99 + 8 * n)) :: rf G 92 :: []) X (mX7_held l (t := (nI (t))) h91 h92) gX7_writes_X7_held rfl yv_X7_held ⟨Nat.le_of_ble_eq_true rfl, Nat.le_of_ble_eq_true rfl⟩ h91 (by decide) rfl rfl hl.1 rfl (Nat.le_of_ble_eq_true rfl) dX7_writes_88 ⟨Nat.le_of_ble_eq_true rfl, Nat.le_of_ble_eq_true rfl⟩ hs rfl hP (fun r12 F12 H12 l12 hp hP => ?_)
  obtain ⟨rfl, rfl⟩ := hp
  refine sx_ast X hP h92 (by decide) (99 + 8 * n) (by omega) (by decide) dX7_writes_91 (fun F13 H13 l13 e13 o13 hP => ?_)
  obtain ⟨w13, hw13⟩ : ∃ z, z = upd w11 (99 + 8 * n) (heldF (fun j => w11 (40 + j)) (nI (t))) := ⟨_, rfl⟩
  rw [← hw13] at e13
  have h91n_1_2_3_5_7_9_11_13 : w13 (91) = (nI (n)) := by rw [hw13]; exact (pk_un (by omega)).trans h91n_1_2_3_5_7_9_11
  have h92 : F13 (92) = rI G (4358) (w13) := e13
  have h91 := (o13 (91) (by decide)).trans h91
  have hO : ∀ j, j ≠ 92 → F13 j = F j := fun j hj => (o13 j (by omega)).trans (hO j hj)
  refine lv_aload_n X.1.1 X.1.2.1 dX7_writes_92 rfl (lv_at hl 2 rfl) ?_
  refine sx_get X hP in_X7_writes_X7 h91 (by decide) rfl 0 (by decide) lk_X7_writes_fieldLink_RX7_7_RaceWatchModel_w_I rfl dX7_writes_93 ?_
  refine lv_bipush (v := nI 91) X.1.1 X.1.2.1 dX7_writes_96 (by decide) ?_
  refine lv_dup2_11 X.1.1 X.1.2.1 dX7_writes_98 rfl rfl ?_
  refine sx_ald X hP h92 (by decide) (91) (by decide) (by decide) dX7_writes_99 ?_
  rw [h91n_1_2_3_5_7_9_11_13]
  refine lv_iconst (v := nI 1) X.1.1 X.1.2.1 dX7_writes_100 (by decide) ?_
  refine sx_addN X (1 + n) (by omega) dX7_writes_101 ?_
  refine sx_ast X hP h92 (by decide) (91) (by decide) (by decide) dX7_writes_102 (fun F14 H14 l14 e14 o14 hP => ?_)
  obtain ⟨w14, hw14⟩ : ∃ z, z = upd w13 (91) (nI (1 + n)) := ⟨_, rfl⟩
  rw [← hw14] at e14
  have h91n_1_2_3_5_7_9_11_13_14 : w14 (91) = (nI (1 + n)) := by rw [hw14]; exact pk_us
  have h92 : F14 (92) = rI G (4358) (w14) := e14
  have h91 := (o14 (91) (by decide)).trans h91
  have hO : ∀ j, j ≠ 92 → F14 j = F j := fun j hj => (o14 j (by omega)).trans (hO j hj)
  rw [hQ]
  exact sx_vret X rfl hs rfl hP dX7_writes_103 (⟨h92.trans (by rw [hw14, hw13, hw11, hw9, hw7, hw5, hw3, hw2, hw1]; rfl), hO⟩)
theorem ys_X7_kindOf : yX7_kindOf.cls ≠ "java/lang/invoke/MethodHandle" ∧ yX7_kindOf.cls ≠ "java/lang/invoke/VarHandle" ∧ (parseMethodDescriptor yX7_kindOf.desc).map (fun d => d.parameters.length) = some 3 := by decide +kernel
theorem yv_X7_kindOf : yX7_kindOf.cls = RX7 ∧ yX7_kindOf.cls ≠ "java/lang/invoke/MethodHandle" ∧ yX7_kindOf.cls ≠ "java/lang/invoke/VarHandle" ∧ (parseMethodDescriptor yX7_kindOf.desc).map (fun d => d.parameters.length) = some 3 := ⟨rfl, ys_X7_kindOf⟩
theorem in_X7_kindOf_X7 : ∀ w ∈ wsX70, w ∈ wsX7_kindOf := fun _ h => List.mem_cons_of_mem _ (List.mem_append_right _ (h))
theorem lk_X7_kindOf_fieldLink_RX7_7_RaceWatchModel_w_I : (.fieldLink RX7 7 "RaceWatchModel" "w" "[I" : Cond) ∈ wsX7_kindOf := List.mem_cons_of_mem _ (List.mem_append_left _ (List.mem_of_getElem? (i := 0) rfl))
abbrev rmX7_kindOf : Room := { frames := 1, cells := 0, slots := 0, locals := 22 }
set_option maxHeartbeats 4000000 in
set_option maxRecDepth 100000 in
theorem mX7_kindOf {G : sx_G} (l : Launch) {F : Nat → va_E} {w : Nat → Int32} {of : List Value} {t c wr : Nat} (ht : t < 4) (hc : c < 4) (hwr : wr < 2) (hok : okC w c) (h91 : F (91) = ob 7 (rf G 92 :: of)) (h92 : F (92) = rI G (4358) (w)) : sx_I G l yX7_kindOf wsX7_kindOf rmX7_kindOf [rf G 91, .int (nI (t)), .int (nI (c)), .int (nI (wr))] (97) F (97) (fun r F1 => F = F1 ∧ kindF w t c wr = r) := by
  refine sx_enter (cc := cX7_kindOf) (maxL := 9) (ret := some .int) (own := RX7) (nm := "kindOf") (by decide) rfl rfl rfl (Nat.le_of_ble_eq_true rfl) ?_
  intro pp ee ss mm args below meth kc ls Q hQ X hs hP hl
  have hl : lv_has ls 9 [(0, rf G 91), (1, .int (nI (t))), (2, .int (nI (c))), (3, .int (nI (wr)))] := hl
  rcases (show wr = 0 ∨ wr = 1 by omega) with rfl | rfl
  · rcases hok.1 with hW | ⟨u, hu, hW⟩
    · rcases hok.2.2 with hSh | ⟨hSh, hDd⟩
      · refine lv_iload_n X.1.1 X.1.2.1 dX7_kindOf_0 rfl (lv_at hl 2 rfl) ?_
        refine sx_csI (As := [.int (nI (c))]) (rest := []) X (mX7_of l (c := c)) gX7_kindOf_X7_of rfl ys_X7_of ⟨Nat.le_of_ble_eq_true rfl, Nat.le_of_ble_eq_true rfl⟩ hl.1 rfl (Nat.le_of_ble_eq_true rfl) dX7_kindOf_1 ⟨Nat.le_of_ble_eq_true rfl, Nat.le_of_ble_eq_true rfl⟩ hs rfl hP (fun r1 F1 H1 l1 hp hP => ?_)
        obtain ⟨rfl, rfl⟩ := hp
        refine lv_istore (lv' := [(4, .int (nI (43 + 12 * c))), (0, rf G 91), (1, .int (nI (t))), (2, .int (nI (c))), (3, .int (nI 0))]) X.1.1 X.1.2.1 dX7_kindOf_4 hl (by decide) rfl (fun ls hl => ?_)
        refine lv_aload_n X.1.1 X.1.2.1 dX7_kindOf_6 rfl (lv_at hl 1 rfl) ?_
        refine sx_get X hP in_X7_kindOf_X7 h91 (by decide) rfl 0 (by decide) lk_X7_kindOf_fieldLink_RX7_7_RaceWatchModel_w_I rfl dX7_kindOf_7 ?_
        refine lv_iload X.1.1 X.1.2.1 dX7_kindOf_10 (lv_at hl 0 rfl) ?_
        refine lv_iconst (v := nI 0) X.1.1 X.1.2.1 dX7_kindOf_12 (by decide) ?_
        refine sx_addN X (43 + 12 * c) (by omega) dX7_kindOf_13 ?_
        refine sx_ald X hP h92 (by decide) (43 + 12 * c) (by omega) (by decide) dX7_kindOf_14 ?_
        rw [hW]
        refine lv_istore (lv' := [(5, .int (-1)), (4, .int (nI (43 + 12 * c))), (0, rf G 91), (1, .int (nI (t))), (2, .int (nI (c))), (3, .int (nI 0))]) X.1.1 X.1.2.1 dX7_kindOf_15 hl (by decide) rfl (fun ls hl => ?_)
        refine lv_iload X.1.1 X.1.2.1 dX7_kindOf_17 (lv_at hl 0 rfl) ?_
        refine lv_iconst (v := (-1)) X.1.1 X.1.2.1 dX7_kindOf_19 (by decide) ?_
        refine lv_icmp_eq X.1.1 X.1.2.1 (tgt := 52) dX7_kindOf_20 (by decide) (fun _ => ?_) (fun h => absurd rfl h)
        refine lv_iload_n X.1.1 X.1.2.1 dX7_kindOf_52 rfl (lv_at hl 5 rfl) ?_
        refine sx_if_ne X (by decide) (tgt := 58) dX7_kindOf_53 (by decide) (fun h => absurd h (by decide)) (fun _ => ?_)
        refine lv_iconst (v := (-1)) X.1.1 X.1.2.1 dX7_kindOf_56 (by decide) ?_
        rw [hQ]
        exact sx_iret X rfl hs rfl hP dX7_kindOf_57 (⟨rfl, by unfold kindF; rw [hW, cif_f notA_no]; rw [cif_t (show (0 : Nat) = 0 from rfl)]⟩)
      · refine lv_iload_n X.1.1 X.1.2.1 dX7_kindOf_0 rfl (lv_at hl 2 rfl) ?_
        refine sx_csI (As := [.int (nI (c))]) (rest := []) X (mX7_of l (c := c)) gX7_kindOf_X7_of rfl ys_X7_of ⟨Nat.le_of_ble_eq_true rfl, Nat.le_of_ble_eq_true rfl⟩ hl.1 rfl (Nat.le_of_ble_eq_true rfl) dX7_kindOf_1 ⟨Nat.le_of_ble_eq_true rfl, Nat.le_of_ble_eq_true rfl⟩ hs rfl hP (fun r2 F2 H2 l2 hp hP => ?_)
        obtain ⟨rfl, rfl⟩ := hp
        refine lv_istore (lv' := [(4, .int (nI (43 + 12 * c))), (0, rf G 91), (1, .int (nI (t))), (2, .int (nI (c))), (3, .int (nI 0))]) X.1.1 X.1.2.1 dX7_kindOf_4 hl (by decide) rfl (fun ls hl => ?_)
        refine lv_aload_n X.1.1 X.1.2.1 dX7_kindOf_6 rfl (lv_at hl 1 rfl) ?_
        refine sx_get X hP in_X7_kindOf_X7 h91 (by decide) rfl 0 (by decide) lk_X7_kindOf_fieldLink_RX7_7_RaceWatchModel_w_I rfl dX7_kindOf_7 ?_
        refine lv_iload X.1.1 X.1.2.1 dX7_kindOf_10 (lv_at hl 0 rfl) ?_
        refine lv_iconst (v := nI 0) X.1.1 X.1.2.1 dX7_kindOf_12 (by decide) ?_
        refine sx_addN X (43 + 12 * c) (by omega) dX7_kindOf_13 ?_
        refine sx_ald X hP h92 (by decide) (43 + 12 * c) (by omega) (by decide) dX7_kindOf_14 ?_
        rw [hW]
        refine lv_istore (lv' := [(5, .int (-1)), (4, .int (nI (43 + 12 * c))), (0, rf G 91), (1, .int (nI (t))), (2, .int (nI (c))), (3, .int (nI 0))]) X.1.1 X.1.2.1 dX7_kindOf_15 hl (by decide) rfl (fun ls hl => ?_)
        refine lv_iload X.1.1 X.1.2.1 dX7_kindOf_17 (lv_at hl 0 rfl) ?_
        refine lv_iconst (v := (-1)) X.1.1 X.1.2.1 dX7_kindOf_19 (by decide) ?_
        refine lv_icmp_eq X.1.1 X.1.2.1 (tgt := 52) dX7_kindOf_20 (by decide) (fun _ => ?_) (fun h => absurd rfl h)
        refine lv_iload_n X.1.1 X.1.2.1 dX7_kindOf_52 rfl (lv_at hl 5 rfl) ?_
        refine sx_if_ne X (by decide) (tgt := 58) dX7_kindOf_53 (by decide) (fun h => absurd h (by decide)) (fun _ => ?_)
        refine lv_iconst (v := (-1)) X.1.1 X.1.2.1 dX7_kindOf_56 (by decide) ?_
        rw [hQ]
        exact sx_iret X rfl hs rfl hP dX7_kindOf_57 (⟨rfl, by unfold kindF; rw [hW, cif_f notA_no]; rw [cif_t (show (0 : Nat) = 0 from rfl)]⟩)
    · rcases hok.2.2 with hSh | ⟨hSh, hDd⟩
      · refine lv_iload_n X.1.1 X.1.2.1 dX7_kindOf_0 rfl (lv_at hl 2 rfl) ?_
        refine sx_csI (As := [.int (nI (c))]) (rest := []) X (mX7_of l (c := c)) gX7_kindOf_X7_of rfl ys_X7_of ⟨Nat.le_of_ble_eq_true rfl, Nat.le_of_ble_eq_true rfl⟩ hl.1 rfl (Nat.le_of_ble_eq_true rfl) dX7_kindOf_1 ⟨Nat.le_of_ble_eq_true rfl, Nat.le_of_ble_eq_true rfl⟩ hs rfl hP (fun r3 F3 H3 l3 hp hP => ?_)
        obtain ⟨rfl, rfl⟩ := hp
        refine lv_istore (lv' := [(4, .int (nI (43 + 12 * c))), (0, rf G 91), (1, .int (nI (t))), (2, .int (nI (c))), (3, .int (nI 0))]) X.1.1 X.1.2.1 dX7_kindOf_4 hl (by decide) rfl (fun ls hl => ?_)
        refine lv_aload_n X.1.1 X.1.2.1 dX7_kindOf_6 rfl (lv_at hl 1 rfl) ?_
        refine sx_get X hP in_X7_kindOf_X7 h91 (by decide) rfl 0 (by decide) lk_X7_kindOf_fieldLink_RX7_7_RaceWatchModel_w_I rfl dX7_kindOf_7 ?_
        refine lv_iload X.1.1 X.1.2.1 dX7_kindOf_10 (lv_at hl 0 rfl) ?_
        refine lv_iconst (v := nI 0) X.1.1 X.1.2.1 dX7_kindOf_12 (by decide) ?_
        refine sx_addN X (43 + 12 * c) (by omega) dX7_kindOf_13 ?_
        refine sx_ald X hP h92 (by decide) (43 + 12 * c) (by omega) (by decide) dX7_kindOf_14 ?_
        rw [hW]
        refine lv_istore (lv' := [(5, .int (nI (u))), (4, .int (nI (43 + 12 * c))), (0, rf G 91), (1, .int (nI (t))), (2, .int (nI (c))), (3, .int (nI 0))]) X.1.1 X.1.2.1 dX7_kindOf_15 hl (by decide) rfl (fun ls hl => ?_)
        refine lv_iload X.1.1 X.1.2.1 dX7_kindOf_17 (lv_at hl 0 rfl) ?_
        refine lv_iconst (v := (-1)) X.1.1 X.1.2.1 dX7_kindOf_19 (by decide) ?_
        refine lv_icmp_eq X.1.1 X.1.2.1 (tgt := 52) dX7_kindOf_20 (by decide) (fun h => absurd h (sx_m1 (by omega))) (fun _ => ?_)
        refine lv_aload_n X.1.1 X.1.2.1 dX7_kindOf_23 rfl (lv_at hl 2 rfl) ?_
        refine lv_iload_n X.1.1 X.1.2.1 dX7_kindOf_24 rfl (lv_at hl 3 rfl) ?_
        refine lv_iload X.1.1 X.1.2.1 dX7_kindOf_25 (lv_at hl 0 rfl) ?_
        refine sx_cvI (As := [.int (nI (t)), .int (nI (u))]) (rest := []) X (mX7_number l (t := t) (u := u) (by omega) (by omega) h91 h92) gX7_kindOf_X7_number rfl yv_X7_number ⟨Nat.le_of_ble_eq_true rfl, Nat.le_of_ble_eq_true rfl⟩ h91 (by decide) rfl rfl hl.1 rfl (Nat.le_of_ble_eq_true rfl) dX7_kindOf_27 ⟨Nat.le_of_ble_eq_true rfl, Nat.le_of_ble_eq_true rfl⟩ hs rfl hP (fun r4 F4 H4 l4 hp hP => ?_)
        obtain ⟨rfl, rfl⟩ := hp
        refine lv_aload_n X.1.1 X.1.2.1 dX7_kindOf_30 rfl (lv_at hl 2 rfl) ?_
        refine sx_get X hP in_X7_kindOf_X7 h91 (by decide) rfl 0 (by decide) lk_X7_kindOf_fieldLink_RX7_7_RaceWatchModel_w_I rfl dX7_kindOf_31 ?_
        refine lv_iload X.1.1 X.1.2.1 dX7_kindOf_34 (lv_at hl 1 rfl) ?_
        refine lv_iconst (v := nI 1) X.1.1 X.1.2.1 dX7_kindOf_36 (by decide) ?_
        refine sx_addN X (44 + 12 * c) (by omega) dX7_kindOf_37 ?_
        refine sx_ald X hP h92 (by decide) (44 + 12 * c) (by omega) (by decide) dX7_kindOf_38 ?_
        refine lv_icmp_ge X.1.1 X.1.2.1 (tgt := 52) dX7_kindOf_39 (by decide) (fun c39 => ?_) (fun c39 => ?_)
        · refine lv_iload_n X.1.1 X.1.2.1 dX7_kindOf_52 rfl (lv_at hl 5 rfl) ?_
          refine sx_if_ne X (by decide) (tgt := 58) dX7_kindOf_53 (by decide) (fun h => absurd h (by decide)) (fun _ => ?_)
          refine lv_iconst (v := (-1)) X.1.1 X.1.2.1 dX7_kindOf_56 (by decide) ?_
          rw [hQ]
          exact sx_iret X rfl hs rfl hP dX7_kindOf_57 (⟨rfl, by unfold kindF; rw [hW, cif_f (fun q => Int32.not_lt.mpr c39 ((notA_nI hu).mp q))]; rw [cif_t (show (0 : Nat) = 0 from rfl)]⟩)
        · refine lv_iload_n X.1.1 X.1.2.1 dX7_kindOf_42 rfl (lv_at hl 5 rfl) ?_
          refine sx_if_eq X (by decide) (tgt := 50) dX7_kindOf_43 (by decide) (fun _ => ?_) (fun h => absurd h (by decide))
          refine lv_iconst (v := nI 1) X.1.1 X.1.2.1 dX7_kindOf_50 (by decide) ?_
          rw [hQ]
          exact sx_iret X rfl hs rfl hP dX7_kindOf_51 (⟨rfl, by unfold kindF; rw [hW, cif_t ((notA_nI hu).mpr (Int32.not_le.mp c39))]; rw [cif_t (show (0 : Nat) = 0 from rfl)]⟩)
      · refine lv_iload_n X.1.1 X.1.2.1 dX7_kindOf_0 rfl (lv_at hl 2 rfl) ?_
        refine sx_csI (As := [.int (nI (c))]) (rest := []) X (mX7_of l (c := c)) gX7_kindOf_X7_of rfl ys_X7_of ⟨Nat.le_of_ble_eq_true rfl, Nat.le_of_ble_eq_true rfl⟩ hl.1 rfl (Nat.le_of_ble_eq_true rfl) dX7_kindOf_1 ⟨Nat.le_of_ble_eq_true rfl, Nat.le_of_ble_eq_true rfl⟩ hs rfl hP (fun r5 F5 H5 l5 hp hP => ?_)
        obtain ⟨rfl, rfl⟩ := hp
        refine lv_istore (lv' := [(4, .int (nI (43 + 12 * c))), (0, rf G 91), (1, .int (nI (t))), (2, .int (nI (c))), (3, .int (nI 0))]) X.1.1 X.1.2.1 dX7_kindOf_4 hl (by decide) rfl (fun ls hl => ?_)
        refine lv_aload_n X.1.1 X.1.2.1 dX7_kindOf_6 rfl (lv_at hl 1 rfl) ?_
        refine sx_get X hP in_X7_kindOf_X7 h91 (by decide) rfl 0 (by decide) lk_X7_kindOf_fieldLink_RX7_7_RaceWatchModel_w_I rfl dX7_kindOf_7 ?_
        refine lv_iload X.1.1 X.1.2.1 dX7_kindOf_10 (lv_at hl 0 rfl) ?_
        refine lv_iconst (v := nI 0) X.1.1 X.1.2.1 dX7_kindOf_12 (by decide) ?_
        refine sx_addN X (43 + 12 * c) (by omega) dX7_kindOf_13 ?_
        refine sx_ald X hP h92 (by decide) (43 + 12 * c) (by omega) (by decide) dX7_kindOf_14 ?_
        rw [hW]
        refine lv_istore (lv' := [(5, .int (nI (u))), (4, .int (nI (43 + 12 * c))), (0, rf G 91), (1, .int (nI (t))), (2, .int (nI (c))), (3, .int (nI 0))]) X.1.1 X.1.2.1 dX7_kindOf_15 hl (by decide) rfl (fun ls hl => ?_)
        refine lv_iload X.1.1 X.1.2.1 dX7_kindOf_17 (lv_at hl 0 rfl) ?_
        refine lv_iconst (v := (-1)) X.1.1 X.1.2.1 dX7_kindOf_19 (by decide) ?_
        refine lv_icmp_eq X.1.1 X.1.2.1 (tgt := 52) dX7_kindOf_20 (by decide) (fun h => absurd h (sx_m1 (by omega))) (fun _ => ?_)
        refine lv_aload_n X.1.1 X.1.2.1 dX7_kindOf_23 rfl (lv_at hl 2 rfl) ?_
        refine lv_iload_n X.1.1 X.1.2.1 dX7_kindOf_24 rfl (lv_at hl 3 rfl) ?_
        refine lv_iload X.1.1 X.1.2.1 dX7_kindOf_25 (lv_at hl 0 rfl) ?_
        refine sx_cvI (As := [.int (nI (t)), .int (nI (u))]) (rest := []) X (mX7_number l (t := t) (u := u) (by omega) (by omega) h91 h92) gX7_kindOf_X7_number rfl yv_X7_number ⟨Nat.le_of_ble_eq_true rfl, Nat.le_of_ble_eq_true rfl⟩ h91 (by decide) rfl rfl hl.1 rfl (Nat.le_of_ble_eq_true rfl) dX7_kindOf_27 ⟨Nat.le_of_ble_eq_true rfl, Nat.le_of_ble_eq_true rfl⟩ hs rfl hP (fun r6 F6 H6 l6 hp hP => ?_)
        obtain ⟨rfl, rfl⟩ := hp
        refine lv_aload_n X.1.1 X.1.2.1 dX7_kindOf_30 rfl (lv_at hl 2 rfl) ?_
        refine sx_get X hP in_X7_kindOf_X7 h91 (by decide) rfl 0 (by decide) lk_X7_kindOf_fieldLink_RX7_7_RaceWatchModel_w_I rfl dX7_kindOf_31 ?_
        refine lv_iload X.1.1 X.1.2.1 dX7_kindOf_34 (lv_at hl 1 rfl) ?_
        refine lv_iconst (v := nI 1) X.1.1 X.1.2.1 dX7_kindOf_36 (by decide) ?_
        refine sx_addN X (44 + 12 * c) (by omega) dX7_kindOf_37 ?_
        refine sx_ald X hP h92 (by decide) (44 + 12 * c) (by omega) (by decide) dX7_kindOf_38 ?_
        refine lv_icmp_ge X.1.1 X.1.2.1 (tgt := 52) dX7_kindOf_39 (by decide) (fun c39 => ?_) (fun c39 => ?_)
        · refine lv_iload_n X.1.1 X.1.2.1 dX7_kindOf_52 rfl (lv_at hl 5 rfl) ?_
          refine sx_if_ne X (by decide) (tgt := 58) dX7_kindOf_53 (by decide) (fun h => absurd h (by decide)) (fun _ => ?_)
          refine lv_iconst (v := (-1)) X.1.1 X.1.2.1 dX7_kindOf_56 (by decide) ?_
          rw [hQ]
          exact sx_iret X rfl hs rfl hP dX7_kindOf_57 (⟨rfl, by unfold kindF; rw [hW, cif_f (fun q => Int32.not_lt.mpr c39 ((notA_nI hu).mp q))]; rw [cif_t (show (0 : Nat) = 0 from rfl)]⟩)
        · refine lv_iload_n X.1.1 X.1.2.1 dX7_kindOf_42 rfl (lv_at hl 5 rfl) ?_
          refine sx_if_eq X (by decide) (tgt := 50) dX7_kindOf_43 (by decide) (fun _ => ?_) (fun h => absurd h (by decide))
          refine lv_iconst (v := nI 1) X.1.1 X.1.2.1 dX7_kindOf_50 (by decide) ?_
          rw [hQ]
          exact sx_iret X rfl hs rfl hP dX7_kindOf_51 (⟨rfl, by unfold kindF; rw [hW, cif_t ((notA_nI hu).mpr (Int32.not_le.mp c39))]; rw [cif_t (show (0 : Nat) = 0 from rfl)]⟩)
  · rcases hok.1 with hW | ⟨u, hu, hW⟩
    · rcases hok.2.2 with hSh | ⟨hSh, hDd⟩
      · refine lv_iload_n X.1.1 X.1.2.1 dX7_kindOf_0 rfl (lv_at hl 2 rfl) ?_
        refine sx_csI (As := [.int (nI (c))]) (rest := []) X (mX7_of l (c := c)) gX7_kindOf_X7_of rfl ys_X7_of ⟨Nat.le_of_ble_eq_true rfl, Nat.le_of_ble_eq_true rfl⟩ hl.1 rfl (Nat.le_of_ble_eq_true rfl) dX7_kindOf_1 ⟨Nat.le_of_ble_eq_true rfl, Nat.le_of_ble_eq_true rfl⟩ hs rfl hP (fun r7 F7 H7 l7 hp hP => ?_)
        obtain ⟨rfl, rfl⟩ := hp
        refine lv_istore (lv' := [(4, .int (nI (43 + 12 * c))), (0, rf G 91), (1, .int (nI (t))), (2, .int (nI (c))), (3, .int (nI 1))]) X.1.1 X.1.2.1 dX7_kindOf_4 hl (by decide) rfl (fun ls hl => ?_)
        refine lv_aload_n X.1.1 X.1.2.1 dX7_kindOf_6 rfl (lv_at hl 1 rfl) ?_
        refine sx_get X hP in_X7_kindOf_X7 h91 (by decide) rfl 0 (by decide) lk_X7_kindOf_fieldLink_RX7_7_RaceWatchModel_w_I rfl dX7_kindOf_7 ?_
        refine lv_iload X.1.1 X.1.2.1 dX7_kindOf_10 (lv_at hl 0 rfl) ?_
        refine lv_iconst (v := nI 0) X.1.1 X.1.2.1 dX7_kindOf_12 (by decide) ?_
        refine sx_addN X (43 + 12 * c) (by omega) dX7_kindOf_13 ?_
        refine sx_ald X hP h92 (by decide) (43 + 12 * c) (by omega) (by decide) dX7_kindOf_14 ?_
        rw [hW]
        refine lv_istore (lv' := [(5, .int (-1)), (4, .int (nI (43 + 12 * c))), (0, rf G 91), (1, .int (nI (t))), (2, .int (nI (c))), (3, .int (nI 1))]) X.1.1 X.1.2.1 dX7_kindOf_15 hl (by decide) rfl (fun ls hl => ?_)
        refine lv_iload X.1.1 X.1.2.1 dX7_kindOf_17 (lv_at hl 0 rfl) ?_
        refine lv_iconst (v := (-1)) X.1.1 X.1.2.1 dX7_kindOf_19 (by decide) ?_
        refine lv_icmp_eq X.1.1 X.1.2.1 (tgt := 52) dX7_kindOf_20 (by decide) (fun _ => ?_) (fun h => absurd rfl h)
        refine lv_iload_n X.1.1 X.1.2.1 dX7_kindOf_52 rfl (lv_at hl 5 rfl) ?_
        refine sx_if_ne X (by decide) (tgt := 58) dX7_kindOf_53 (by decide) (fun _ => ?_) (fun h => absurd h (by decide))
        rcases hok.2.1 with hDd | ⟨v, hv, hDd⟩
        · refine lv_aload_n X.1.1 X.1.2.1 dX7_kindOf_58 rfl (lv_at hl 2 rfl) ?_
          refine sx_get X hP in_X7_kindOf_X7 h91 (by decide) rfl 0 (by decide) lk_X7_kindOf_fieldLink_RX7_7_RaceWatchModel_w_I rfl dX7_kindOf_59 ?_
          refine lv_iload X.1.1 X.1.2.1 dX7_kindOf_62 (lv_at hl 1 rfl) ?_
          refine lv_iconst (v := nI 2) X.1.1 X.1.2.1 dX7_kindOf_64 (by decide) ?_
          refine sx_addN X (45 + 12 * c) (by omega) dX7_kindOf_65 ?_
          refine sx_ald X hP h92 (by decide) (45 + 12 * c) (by omega) (by decide) dX7_kindOf_66 ?_
          rw [hDd]
          refine lv_istore (lv' := [(6, .int (-1)), (5, .int (-1)), (4, .int (nI (43 + 12 * c))), (0, rf G 91), (1, .int (nI (t))), (2, .int (nI (c))), (3, .int (nI 1))]) X.1.1 X.1.2.1 dX7_kindOf_67 hl (by decide) rfl (fun ls hl => ?_)
          refine lv_iload X.1.1 X.1.2.1 dX7_kindOf_69 (lv_at hl 0 rfl) ?_
          refine lv_iconst (v := (-1)) X.1.1 X.1.2.1 dX7_kindOf_71 (by decide) ?_
          refine lv_icmp_eq X.1.1 X.1.2.1 (tgt := 98) dX7_kindOf_72 (by decide) (fun _ => ?_) (fun h => absurd rfl h)
          refine lv_iconst (v := nI 0) X.1.1 X.1.2.1 dX7_kindOf_98 (by decide) ?_
          refine lv_istore (lv' := [(7, .int (nI 0)), (6, .int (-1)), (5, .int (-1)), (4, .int (nI (43 + 12 * c))), (0, rf G 91), (1, .int (nI (t))), (2, .int (nI (c))), (3, .int (nI 1))]) X.1.1 X.1.2.1 dX7_kindOf_99 hl (by decide) rfl (fun ls hl => ?_)
          refine lv_iconst (v := nI 0) X.1.1 X.1.2.1 dX7_kindOf_101 (by decide) ?_
          refine lv_istore (lv' := [(8, .int (nI 0)), (7, .int (nI 0)), (6, .int (-1)), (5, .int (-1)), (4, .int (nI (43 + 12 * c))), (0, rf G 91), (1, .int (nI (t))), (2, .int (nI (c))), (3, .int (nI 1))]) X.1.1 X.1.2.1 dX7_kindOf_102 hl (by decide) rfl (fun ls hl => ?_)
          refine lv_iload X.1.1 X.1.2.1 dX7_kindOf_104 (lv_at hl 0 rfl) ?_
          refine lv_iconst (v := nI 4) X.1.1 X.1.2.1 dX7_kindOf_106 (by decide) ?_
          refine sx_icmp_ge X (by decide) (by decide) (tgt := 163) dX7_kindOf_107 (by decide) (fun h => absurd h (by decide)) (fun _ => ?_)
          refine lv_iload X.1.1 X.1.2.1 dX7_kindOf_110 (lv_at hl 1 rfl) ?_
          refine sx_if_ne X (by decide) (tgt := 150) dX7_kindOf_112 (by decide) (fun h => absurd h (by decide)) (fun _ => ?_)
          refine lv_aload_n X.1.1 X.1.2.1 dX7_kindOf_115 rfl (lv_at hl 5 rfl) ?_
          refine sx_get X hP in_X7_kindOf_X7 h91 (by decide) rfl 0 (by decide) lk_X7_kindOf_fieldLink_RX7_7_RaceWatchModel_w_I rfl dX7_kindOf_116 ?_
          refine lv_iload X.1.1 X.1.2.1 dX7_kindOf_119 (lv_at hl 4 rfl) ?_
          refine lv_iconst (v := nI 4) X.1.1 X.1.2.1 dX7_kindOf_121 (by decide) ?_
          refine sx_addN X (47 + 12 * c) (by omega) dX7_kindOf_122 ?_
          refine sx_ald X hP h92 (by decide) (47 + 12 * c) (by omega) (by decide) dX7_kindOf_123 ?_
          rw [hSh]
          refine lv_iconst (v := nI 1) X.1.1 X.1.2.1 dX7_kindOf_124 (by decide) ?_
          refine sx_icmp_ne X (by decide) (by decide) (tgt := 154) dX7_kindOf_125 (by decide) (fun _ => ?_) (fun h => absurd h (by decide))
          refine lv_iconst (v := nI 0) X.1.1 X.1.2.1 dX7_kindOf_154 (by decide) ?_
          refine lv_istore (lv' := [(7, .int (nI 0)), (8, .int (nI 0)), (6, .int (-1)), (5, .int (-1)), (4, .int (nI (43 + 12 * c))), (0, rf G 91), (1, .int (nI (t))), (2, .int (nI (c))), (3, .int (nI 1))]) X.1.1 X.1.2.1 dX7_kindOf_155 hl (by decide) rfl (fun ls hl => ?_)
          refine lv_iinc (v := (nI (1))) (lv' := [(8, .int (nI 1)), (7, .int (nI 0)), (6, .int (-1)), (5, .int (-1)), (4, .int (nI (43 + 12 * c))), (0, rf G 91), (1, .int (nI (t))), (2, .int (nI (c))), (3, .int (nI 1))]) X.1.1 X.1.2.1 dX7_kindOf_157 hl (k := 1) rfl (by decide) (by decide) rfl (fun ls hl => ?_)
          refine lv_goto (tgt := 104) X.1.1 X.1.2.1 dX7_kindOf_160 (by decide) ?_
          refine lv_iload X.1.1 X.1.2.1 dX7_kindOf_104 (lv_at hl 0 rfl) ?_
          refine lv_iconst (v := nI 4) X.1.1 X.1.2.1 dX7_kindOf_106 (by decide) ?_
          refine sx_icmp_ge X (by decide) (by decide) (tgt := 163) dX7_kindOf_107 (by decide) (fun h => absurd h (by decide)) (fun _ => ?_)
          refine lv_iload X.1.1 X.1.2.1 dX7_kindOf_110 (lv_at hl 1 rfl) ?_
          refine sx_if_ne X (by decide) (tgt := 150) dX7_kindOf_112 (by decide) (fun h => absurd h (by decide)) (fun _ => ?_)
          refine lv_aload_n X.1.1 X.1.2.1 dX7_kindOf_115 rfl (lv_at hl 5 rfl) ?_
          refine sx_get X hP in_X7_kindOf_X7 h91 (by decide) rfl 0 (by decide) lk_X7_kindOf_fieldLink_RX7_7_RaceWatchModel_w_I rfl dX7_kindOf_116 ?_
          refine lv_iload X.1.1 X.1.2.1 dX7_kindOf_119 (lv_at hl 4 rfl) ?_
          refine lv_iconst (v := nI 4) X.1.1 X.1.2.1 dX7_kindOf_121 (by decide) ?_
          refine sx_addN X (47 + 12 * c) (by omega) dX7_kindOf_122 ?_
          refine sx_ald X hP h92 (by decide) (47 + 12 * c) (by omega) (by decide) dX7_kindOf_123 ?_
          rw [hSh]
          refine lv_iconst (v := nI 1) X.1.1 X.1.2.1 dX7_kindOf_124 (by decide) ?_
          refine sx_icmp_ne X (by decide) (by decide) (tgt := 154) dX7_kindOf_125 (by decide) (fun _ => ?_) (fun h => absurd h (by decide))
          refine lv_iconst (v := nI 0) X.1.1 X.1.2.1 dX7_kindOf_154 (by decide) ?_
          refine lv_istore (lv' := [(7, .int (nI 0)), (8, .int (nI 1)), (6, .int (-1)), (5, .int (-1)), (4, .int (nI (43 + 12 * c))), (0, rf G 91), (1, .int (nI (t))), (2, .int (nI (c))), (3, .int (nI 1))]) X.1.1 X.1.2.1 dX7_kindOf_155 hl (by decide) rfl (fun ls hl => ?_)
          refine lv_iinc (v := (nI (2))) (lv' := [(8, .int (nI 2)), (7, .int (nI 0)), (6, .int (-1)), (5, .int (-1)), (4, .int (nI (43 + 12 * c))), (0, rf G 91), (1, .int (nI (t))), (2, .int (nI (c))), (3, .int (nI 1))]) X.1.1 X.1.2.1 dX7_kindOf_157 hl (k := 1) rfl (by decide) (by decide) rfl (fun ls hl => ?_)
          refine lv_goto (tgt := 104) X.1.1 X.1.2.1 dX7_kindOf_160 (by decide) ?_
          refine lv_iload X.1.1 X.1.2.1 dX7_kindOf_104 (lv_at hl 0 rfl) ?_
          refine lv_iconst (v := nI 4) X.1.1 X.1.2.1 dX7_kindOf_106 (by decide) ?_
          refine sx_icmp_ge X (by decide) (by decide) (tgt := 163) dX7_kindOf_107 (by decide) (fun h => absurd h (by decide)) (fun _ => ?_)
          refine lv_iload X.1.1 X.1.2.1 dX7_kindOf_110 (lv_at hl 1 rfl) ?_
          refine sx_if_ne X (by decide) (tgt := 150) dX7_kindOf_112 (by decide) (fun h => absurd h (by decide)) (fun _ => ?_)
          refine lv_aload_n X.1.1 X.1.2.1 dX7_kindOf_115 rfl (lv_at hl 5 rfl) ?_
          refine sx_get X hP in_X7_kindOf_X7 h91 (by decide) rfl 0 (by decide) lk_X7_kindOf_fieldLink_RX7_7_RaceWatchModel_w_I rfl dX7_kindOf_116 ?_
          refine lv_iload X.1.1 X.1.2.1 dX7_kindOf_119 (lv_at hl 4 rfl) ?_
          refine lv_iconst (v := nI 4) X.1.1 X.1.2.1 dX7_kindOf_121 (by decide) ?_
          refine sx_addN X (47 + 12 * c) (by omega) dX7_kindOf_122 ?_
          refine sx_ald X hP h92 (by decide) (47 + 12 * c) (by omega) (by decide) dX7_kindOf_123 ?_
          rw [hSh]
          refine lv_iconst (v := nI 1) X.1.1 X.1.2.1 dX7_kindOf_124 (by decide) ?_
          refine sx_icmp_ne X (by decide) (by decide) (tgt := 154) dX7_kindOf_125 (by decide) (fun _ => ?_) (fun h => absurd h (by decide))
          refine lv_iconst (v := nI 0) X.1.1 X.1.2.1 dX7_kindOf_154 (by decide) ?_
          refine lv_istore (lv' := [(7, .int (nI 0)), (8, .int (nI 2)), (6, .int (-1)), (5, .int (-1)), (4, .int (nI (43 + 12 * c))), (0, rf G 91), (1, .int (nI (t))), (2, .int (nI (c))), (3, .int (nI 1))]) X.1.1 X.1.2.1 dX7_kindOf_155 hl (by decide) rfl (fun ls hl => ?_)
          refine lv_iinc (v := (nI (3))) (lv' := [(8, .int (nI 3)), (7, .int (nI 0)), (6, .int (-1)), (5, .int (-1)), (4, .int (nI (43 + 12 * c))), (0, rf G 91), (1, .int (nI (t))), (2, .int (nI (c))), (3, .int (nI 1))]) X.1.1 X.1.2.1 dX7_kindOf_157 hl (k := 1) rfl (by decide) (by decide) rfl (fun ls hl => ?_)
          refine lv_goto (tgt := 104) X.1.1 X.1.2.1 dX7_kindOf_160 (by decide) ?_
          refine lv_iload X.1.1 X.1.2.1 dX7_kindOf_104 (lv_at hl 0 rfl) ?_
          refine lv_iconst (v := nI 4) X.1.1 X.1.2.1 dX7_kindOf_106 (by decide) ?_
          refine sx_icmp_ge X (by decide) (by decide) (tgt := 163) dX7_kindOf_107 (by decide) (fun h => absurd h (by decide)) (fun _ => ?_)
          refine lv_iload X.1.1 X.1.2.1 dX7_kindOf_110 (lv_at hl 1 rfl) ?_
          refine sx_if_ne X (by decide) (tgt := 150) dX7_kindOf_112 (by decide) (fun h => absurd h (by decide)) (fun _ => ?_)
          refine lv_aload_n X.1.1 X.1.2.1 dX7_kindOf_115 rfl (lv_at hl 5 rfl) ?_
          refine sx_get X hP in_X7_kindOf_X7 h91 (by decide) rfl 0 (by decide) lk_X7_kindOf_fieldLink_RX7_7_RaceWatchModel_w_I rfl dX7_kindOf_116 ?_
          refine lv_iload X.1.1 X.1.2.1 dX7_kindOf_119 (lv_at hl 4 rfl) ?_
          refine lv_iconst (v := nI 4) X.1.1 X.1.2.1 dX7_kindOf_121 (by decide) ?_
          refine sx_addN X (47 + 12 * c) (by omega) dX7_kindOf_122 ?_
          refine sx_ald X hP h92 (by decide) (47 + 12 * c) (by omega) (by decide) dX7_kindOf_123 ?_
          rw [hSh]
          refine lv_iconst (v := nI 1) X.1.1 X.1.2.1 dX7_kindOf_124 (by decide) ?_
          refine sx_icmp_ne X (by decide) (by decide) (tgt := 154) dX7_kindOf_125 (by decide) (fun _ => ?_) (fun h => absurd h (by decide))
          refine lv_iconst (v := nI 0) X.1.1 X.1.2.1 dX7_kindOf_154 (by decide) ?_
          refine lv_istore (lv' := [(7, .int (nI 0)), (8, .int (nI 3)), (6, .int (-1)), (5, .int (-1)), (4, .int (nI (43 + 12 * c))), (0, rf G 91), (1, .int (nI (t))), (2, .int (nI (c))), (3, .int (nI 1))]) X.1.1 X.1.2.1 dX7_kindOf_155 hl (by decide) rfl (fun ls hl => ?_)
          refine lv_iinc (v := (nI (4))) (lv' := [(8, .int (nI 4)), (7, .int (nI 0)), (6, .int (-1)), (5, .int (-1)), (4, .int (nI (43 + 12 * c))), (0, rf G 91), (1, .int (nI (t))), (2, .int (nI (c))), (3, .int (nI 1))]) X.1.1 X.1.2.1 dX7_kindOf_157 hl (k := 1) rfl (by decide) (by decide) rfl (fun ls hl => ?_)
          refine lv_goto (tgt := 104) X.1.1 X.1.2.1 dX7_kindOf_160 (by decide) ?_
          refine lv_iload X.1.1 X.1.2.1 dX7_kindOf_104 (lv_at hl 0 rfl) ?_
          refine lv_iconst (v := nI 4) X.1.1 X.1.2.1 dX7_kindOf_106 (by decide) ?_
          refine sx_icmp_ge X (by decide) (by decide) (tgt := 163) dX7_kindOf_107 (by decide) (fun _ => ?_) (fun h => absurd h (by decide))
          refine lv_iload X.1.1 X.1.2.1 dX7_kindOf_163 (lv_at hl 1 rfl) ?_
          refine sx_if_eq X (by decide) (tgt := 172) dX7_kindOf_165 (by decide) (fun _ => ?_) (fun h => absurd h (by decide))
          refine lv_iconst (v := (-1)) X.1.1 X.1.2.1 dX7_kindOf_172 (by decide) ?_
          rw [hQ]
          exact sx_iret X rfl hs rfl hP dX7_kindOf_173 (⟨rfl, by unfold kindF; rw [hW, cif_f notA_no]; rw [cif_f (show ¬ (1 : Nat) = 0 by decide)]; rw [hDd, hSh, cif_f (by rintro (q | ⟨q, _⟩); exact notA_no q; exact absurd q (by decide))]⟩)
        · refine lv_aload_n X.1.1 X.1.2.1 dX7_kindOf_58 rfl (lv_at hl 2 rfl) ?_
          refine sx_get X hP in_X7_kindOf_X7 h91 (by decide) rfl 0 (by decide) lk_X7_kindOf_fieldLink_RX7_7_RaceWatchModel_w_I rfl dX7_kindOf_59 ?_
          refine lv_iload X.1.1 X.1.2.1 dX7_kindOf_62 (lv_at hl 1 rfl) ?_
          refine lv_iconst (v := nI 2) X.1.1 X.1.2.1 dX7_kindOf_64 (by decide) ?_
          refine sx_addN X (45 + 12 * c) (by omega) dX7_kindOf_65 ?_
          refine sx_ald X hP h92 (by decide) (45 + 12 * c) (by omega) (by decide) dX7_kindOf_66 ?_
          rw [hDd]
          refine lv_istore (lv' := [(6, .int (nI (v))), (5, .int (-1)), (4, .int (nI (43 + 12 * c))), (0, rf G 91), (1, .int (nI (t))), (2, .int (nI (c))), (3, .int (nI 1))]) X.1.1 X.1.2.1 dX7_kindOf_67 hl (by decide) rfl (fun ls hl => ?_)
          refine lv_iload X.1.1 X.1.2.1 dX7_kindOf_69 (lv_at hl 0 rfl) ?_
          refine lv_iconst (v := (-1)) X.1.1 X.1.2.1 dX7_kindOf_71 (by decide) ?_
          refine lv_icmp_eq X.1.1 X.1.2.1 (tgt := 98) dX7_kindOf_72 (by decide) (fun h => absurd h (sx_m1 (by omega))) (fun _ => ?_)
          refine lv_aload_n X.1.1 X.1.2.1 dX7_kindOf_75 rfl (lv_at hl 3 rfl) ?_
          refine lv_iload_n X.1.1 X.1.2.1 dX7_kindOf_76 rfl (lv_at hl 4 rfl) ?_
          refine lv_iload X.1.1 X.1.2.1 dX7_kindOf_77 (lv_at hl 0 rfl) ?_
          refine sx_cvI (As := [.int (nI (t)), .int (nI (v))]) (rest := []) X (mX7_number l (t := t) (u := v) (by omega) (by omega) h91 h92) gX7_kindOf_X7_number rfl yv_X7_number ⟨Nat.le_of_ble_eq_true rfl, Nat.le_of_ble_eq_true rfl⟩ h91 (by decide) rfl rfl hl.1 rfl (Nat.le_of_ble_eq_true rfl) dX7_kindOf_79 ⟨Nat.le_of_ble_eq_true rfl, Nat.le_of_ble_eq_true rfl⟩ hs rfl hP (fun r8 F8 H8 l8 hp hP => ?_)
          obtain ⟨rfl, rfl⟩ := hp
          refine lv_aload_n X.1.1 X.1.2.1 dX7_kindOf_82 rfl (lv_at hl 3 rfl) ?_
          refine sx_get X hP in_X7_kindOf_X7 h91 (by decide) rfl 0 (by decide) lk_X7_kindOf_fieldLink_RX7_7_RaceWatchModel_w_I rfl dX7_kindOf_83 ?_
          refine lv_iload X.1.1 X.1.2.1 dX7_kindOf_86 (lv_at hl 2 rfl) ?_
          refine lv_iconst (v := nI 3) X.1.1 X.1.2.1 dX7_kindOf_88 (by decide) ?_
          refine sx_addN X (46 + 12 * c) (by omega) dX7_kindOf_89 ?_
          refine sx_ald X hP h92 (by decide) (46 + 12 * c) (by omega) (by decide) dX7_kindOf_90 ?_
          refine lv_icmp_ge X.1.1 X.1.2.1 (tgt := 98) dX7_kindOf_91 (by decide) (fun c91 => ?_) (fun c91 => ?_)
          · refine lv_iconst (v := nI 0) X.1.1 X.1.2.1 dX7_kindOf_98 (by decide) ?_
            refine lv_istore (lv' := [(7, .int (nI 0)), (6, .int (nI (v))), (5, .int (-1)), (4, .int (nI (43 + 12 * c))), (0, rf G 91), (1, .int (nI (t))), (2, .int (nI (c))), (3, .int (nI 1))]) X.1.1 X.1.2.1 dX7_kindOf_99 hl (by decide) rfl (fun ls hl => ?_)
            refine lv_iconst (v := nI 0) X.1.1 X.1.2.1 dX7_kindOf_101 (by decide) ?_
            refine lv_istore (lv' := [(8, .int (nI 0)), (7, .int (nI 0)), (6, .int (nI (v))), (5, .int (-1)), (4, .int (nI (43 + 12 * c))), (0, rf G 91), (1, .int (nI (t))), (2, .int (nI (c))), (3, .int (nI 1))]) X.1.1 X.1.2.1 dX7_kindOf_102 hl (by decide) rfl (fun ls hl => ?_)
            refine lv_iload X.1.1 X.1.2.1 dX7_kindOf_104 (lv_at hl 0 rfl) ?_
            refine lv_iconst (v := nI 4) X.1.1 X.1.2.1 dX7_kindOf_106 (by decide) ?_
            refine sx_icmp_ge X (by decide) (by decide) (tgt := 163) dX7_kindOf_107 (by decide) (fun h => absurd h (by decide)) (fun _ => ?_)
            refine lv_iload X.1.1 X.1.2.1 dX7_kindOf_110 (lv_at hl 1 rfl) ?_
            refine sx_if_ne X (by decide) (tgt := 150) dX7_kindOf_112 (by decide) (fun h => absurd h (by decide)) (fun _ => ?_)
            refine lv_aload_n X.1.1 X.1.2.1 dX7_kindOf_115 rfl (lv_at hl 5 rfl) ?_
            refine sx_get X hP in_X7_kindOf_X7 h91 (by decide) rfl 0 (by decide) lk_X7_kindOf_fieldLink_RX7_7_RaceWatchModel_w_I rfl dX7_kindOf_116 ?_
            refine lv_iload X.1.1 X.1.2.1 dX7_kindOf_119 (lv_at hl 4 rfl) ?_
            refine lv_iconst (v := nI 4) X.1.1 X.1.2.1 dX7_kindOf_121 (by decide) ?_
            refine sx_addN X (47 + 12 * c) (by omega) dX7_kindOf_122 ?_
            refine sx_ald X hP h92 (by decide) (47 + 12 * c) (by omega) (by decide) dX7_kindOf_123 ?_
            rw [hSh]
            refine lv_iconst (v := nI 1) X.1.1 X.1.2.1 dX7_kindOf_124 (by decide) ?_
            refine sx_icmp_ne X (by decide) (by decide) (tgt := 154) dX7_kindOf_125 (by decide) (fun _ => ?_) (fun h => absurd h (by decide))
            refine lv_iconst (v := nI 0) X.1.1 X.1.2.1 dX7_kindOf_154 (by decide) ?_
            refine lv_istore (lv' := [(7, .int (nI 0)), (8, .int (nI 0)), (6, .int (nI (v))), (5, .int (-1)), (4, .int (nI (43 + 12 * c))), (0, rf G 91), (1, .int (nI (t))), (2, .int (nI (c))), (3, .int (nI 1))]) X.1.1 X.1.2.1 dX7_kindOf_155 hl (by decide) rfl (fun ls hl => ?_)
            refine lv_iinc (v := (nI (1))) (lv' := [(8, .int (nI 1)), (7, .int (nI 0)), (6, .int (nI (v))), (5, .int (-1)), (4, .int (nI (43 + 12 * c))), (0, rf G 91), (1, .int (nI (t))), (2, .int (nI (c))), (3, .int (nI 1))]) X.1.1 X.1.2.1 dX7_kindOf_157 hl (k := 1) rfl (by decide) (by decide) rfl (fun ls hl => ?_)
            refine lv_goto (tgt := 104) X.1.1 X.1.2.1 dX7_kindOf_160 (by decide) ?_
            refine lv_iload X.1.1 X.1.2.1 dX7_kindOf_104 (lv_at hl 0 rfl) ?_
            refine lv_iconst (v := nI 4) X.1.1 X.1.2.1 dX7_kindOf_106 (by decide) ?_
            refine sx_icmp_ge X (by decide) (by decide) (tgt := 163) dX7_kindOf_107 (by decide) (fun h => absurd h (by decide)) (fun _ => ?_)
            refine lv_iload X.1.1 X.1.2.1 dX7_kindOf_110 (lv_at hl 1 rfl) ?_
            refine sx_if_ne X (by decide) (tgt := 150) dX7_kindOf_112 (by decide) (fun h => absurd h (by decide)) (fun _ => ?_)
            refine lv_aload_n X.1.1 X.1.2.1 dX7_kindOf_115 rfl (lv_at hl 5 rfl) ?_
            refine sx_get X hP in_X7_kindOf_X7 h91 (by decide) rfl 0 (by decide) lk_X7_kindOf_fieldLink_RX7_7_RaceWatchModel_w_I rfl dX7_kindOf_116 ?_
            refine lv_iload X.1.1 X.1.2.1 dX7_kindOf_119 (lv_at hl 4 rfl) ?_
            refine lv_iconst (v := nI 4) X.1.1 X.1.2.1 dX7_kindOf_121 (by decide) ?_
            refine sx_addN X (47 + 12 * c) (by omega) dX7_kindOf_122 ?_
            refine sx_ald X hP h92 (by decide) (47 + 12 * c) (by omega) (by decide) dX7_kindOf_123 ?_
            rw [hSh]
            refine lv_iconst (v := nI 1) X.1.1 X.1.2.1 dX7_kindOf_124 (by decide) ?_
            refine sx_icmp_ne X (by decide) (by decide) (tgt := 154) dX7_kindOf_125 (by decide) (fun _ => ?_) (fun h => absurd h (by decide))
            refine lv_iconst (v := nI 0) X.1.1 X.1.2.1 dX7_kindOf_154 (by decide) ?_
            refine lv_istore (lv' := [(7, .int (nI 0)), (8, .int (nI 1)), (6, .int (nI (v))), (5, .int (-1)), (4, .int (nI (43 + 12 * c))), (0, rf G 91), (1, .int (nI (t))), (2, .int (nI (c))), (3, .int (nI 1))]) X.1.1 X.1.2.1 dX7_kindOf_155 hl (by decide) rfl (fun ls hl => ?_)
            refine lv_iinc (v := (nI (2))) (lv' := [(8, .int (nI 2)), (7, .int (nI 0)), (6, .int (nI (v))), (5, .int (-1)), (4, .int (nI (43 + 12 * c))), (0, rf G 91), (1, .int (nI (t))), (2, .int (nI (c))), (3, .int (nI 1))]) X.1.1 X.1.2.1 dX7_kindOf_157 hl (k := 1) rfl (by decide) (by decide) rfl (fun ls hl => ?_)
            refine lv_goto (tgt := 104) X.1.1 X.1.2.1 dX7_kindOf_160 (by decide) ?_
            refine lv_iload X.1.1 X.1.2.1 dX7_kindOf_104 (lv_at hl 0 rfl) ?_
            refine lv_iconst (v := nI 4) X.1.1 X.1.2.1 dX7_kindOf_106 (by decide) ?_
            refine sx_icmp_ge X (by decide) (by decide) (tgt := 163) dX7_kindOf_107 (by decide) (fun h => absurd h (by decide)) (fun _ => ?_)
            refine lv_iload X.1.1 X.1.2.1 dX7_kindOf_110 (lv_at hl 1 rfl) ?_
            refine sx_if_ne X (by decide) (tgt := 150) dX7_kindOf_112 (by decide) (fun h => absurd h (by decide)) (fun _ => ?_)
            refine lv_aload_n X.1.1 X.1.2.1 dX7_kindOf_115 rfl (lv_at hl 5 rfl) ?_
            refine sx_get X hP in_X7_kindOf_X7 h91 (by decide) rfl 0 (by decide) lk_X7_kindOf_fieldLink_RX7_7_RaceWatchModel_w_I rfl dX7_kindOf_116 ?_
            refine lv_iload X.1.1 X.1.2.1 dX7_kindOf_119 (lv_at hl 4 rfl) ?_
            refine lv_iconst (v := nI 4) X.1.1 X.1.2.1 dX7_kindOf_121 (by decide) ?_
            refine sx_addN X (47 + 12 * c) (by omega) dX7_kindOf_122 ?_
            refine sx_ald X hP h92 (by decide) (47 + 12 * c) (by omega) (by decide) dX7_kindOf_123 ?_
            rw [hSh]
            refine lv_iconst (v := nI 1) X.1.1 X.1.2.1 dX7_kindOf_124 (by decide) ?_
            refine sx_icmp_ne X (by decide) (by decide) (tgt := 154) dX7_kindOf_125 (by decide) (fun _ => ?_) (fun h => absurd h (by decide))
            refine lv_iconst (v := nI 0) X.1.1 X.1.2.1 dX7_kindOf_154 (by decide) ?_
            refine lv_istore (lv' := [(7, .int (nI 0)), (8, .int (nI 2)), (6, .int (nI (v))), (5, .int (-1)), (4, .int (nI (43 + 12 * c))), (0, rf G 91), (1, .int (nI (t))), (2, .int (nI (c))), (3, .int (nI 1))]) X.1.1 X.1.2.1 dX7_kindOf_155 hl (by decide) rfl (fun ls hl => ?_)
            refine lv_iinc (v := (nI (3))) (lv' := [(8, .int (nI 3)), (7, .int (nI 0)), (6, .int (nI (v))), (5, .int (-1)), (4, .int (nI (43 + 12 * c))), (0, rf G 91), (1, .int (nI (t))), (2, .int (nI (c))), (3, .int (nI 1))]) X.1.1 X.1.2.1 dX7_kindOf_157 hl (k := 1) rfl (by decide) (by decide) rfl (fun ls hl => ?_)
            refine lv_goto (tgt := 104) X.1.1 X.1.2.1 dX7_kindOf_160 (by decide) ?_
            refine lv_iload X.1.1 X.1.2.1 dX7_kindOf_104 (lv_at hl 0 rfl) ?_
            refine lv_iconst (v := nI 4) X.1.1 X.1.2.1 dX7_kindOf_106 (by decide) ?_
            refine sx_icmp_ge X (by decide) (by decide) (tgt := 163) dX7_kindOf_107 (by decide) (fun h => absurd h (by decide)) (fun _ => ?_)
            refine lv_iload X.1.1 X.1.2.1 dX7_kindOf_110 (lv_at hl 1 rfl) ?_
            refine sx_if_ne X (by decide) (tgt := 150) dX7_kindOf_112 (by decide) (fun h => absurd h (by decide)) (fun _ => ?_)
            refine lv_aload_n X.1.1 X.1.2.1 dX7_kindOf_115 rfl (lv_at hl 5 rfl) ?_
            refine sx_get X hP in_X7_kindOf_X7 h91 (by decide) rfl 0 (by decide) lk_X7_kindOf_fieldLink_RX7_7_RaceWatchModel_w_I rfl dX7_kindOf_116 ?_
            refine lv_iload X.1.1 X.1.2.1 dX7_kindOf_119 (lv_at hl 4 rfl) ?_
            refine lv_iconst (v := nI 4) X.1.1 X.1.2.1 dX7_kindOf_121 (by decide) ?_
            refine sx_addN X (47 + 12 * c) (by omega) dX7_kindOf_122 ?_
            refine sx_ald X hP h92 (by decide) (47 + 12 * c) (by omega) (by decide) dX7_kindOf_123 ?_
            rw [hSh]
            refine lv_iconst (v := nI 1) X.1.1 X.1.2.1 dX7_kindOf_124 (by decide) ?_
            refine sx_icmp_ne X (by decide) (by decide) (tgt := 154) dX7_kindOf_125 (by decide) (fun _ => ?_) (fun h => absurd h (by decide))
            refine lv_iconst (v := nI 0) X.1.1 X.1.2.1 dX7_kindOf_154 (by decide) ?_
            refine lv_istore (lv' := [(7, .int (nI 0)), (8, .int (nI 3)), (6, .int (nI (v))), (5, .int (-1)), (4, .int (nI (43 + 12 * c))), (0, rf G 91), (1, .int (nI (t))), (2, .int (nI (c))), (3, .int (nI 1))]) X.1.1 X.1.2.1 dX7_kindOf_155 hl (by decide) rfl (fun ls hl => ?_)
            refine lv_iinc (v := (nI (4))) (lv' := [(8, .int (nI 4)), (7, .int (nI 0)), (6, .int (nI (v))), (5, .int (-1)), (4, .int (nI (43 + 12 * c))), (0, rf G 91), (1, .int (nI (t))), (2, .int (nI (c))), (3, .int (nI 1))]) X.1.1 X.1.2.1 dX7_kindOf_157 hl (k := 1) rfl (by decide) (by decide) rfl (fun ls hl => ?_)
            refine lv_goto (tgt := 104) X.1.1 X.1.2.1 dX7_kindOf_160 (by decide) ?_
            refine lv_iload X.1.1 X.1.2.1 dX7_kindOf_104 (lv_at hl 0 rfl) ?_
            refine lv_iconst (v := nI 4) X.1.1 X.1.2.1 dX7_kindOf_106 (by decide) ?_
            refine sx_icmp_ge X (by decide) (by decide) (tgt := 163) dX7_kindOf_107 (by decide) (fun _ => ?_) (fun h => absurd h (by decide))
            refine lv_iload X.1.1 X.1.2.1 dX7_kindOf_163 (lv_at hl 1 rfl) ?_
            refine sx_if_eq X (by decide) (tgt := 172) dX7_kindOf_165 (by decide) (fun _ => ?_) (fun h => absurd h (by decide))
            refine lv_iconst (v := (-1)) X.1.1 X.1.2.1 dX7_kindOf_172 (by decide) ?_
            rw [hQ]
            exact sx_iret X rfl hs rfl hP dX7_kindOf_173 (⟨rfl, by unfold kindF; rw [hW, cif_f notA_no]; rw [cif_f (show ¬ (1 : Nat) = 0 by decide)]; rw [hDd, hSh, cif_f (by rintro (q | ⟨q, _⟩); exact Int32.not_lt.mpr c91 ((notA_nI hv).mp q); exact absurd q (by decide))]⟩)
          · refine lv_iconst (v := nI 1) X.1.1 X.1.2.1 dX7_kindOf_94 (by decide) ?_
            refine lv_goto (tgt := 99) X.1.1 X.1.2.1 dX7_kindOf_95 (by decide) ?_
            refine lv_istore (lv' := [(7, .int (nI 1)), (6, .int (nI (v))), (5, .int (-1)), (4, .int (nI (43 + 12 * c))), (0, rf G 91), (1, .int (nI (t))), (2, .int (nI (c))), (3, .int (nI 1))]) X.1.1 X.1.2.1 dX7_kindOf_99 hl (by decide) rfl (fun ls hl => ?_)
            refine lv_iconst (v := nI 0) X.1.1 X.1.2.1 dX7_kindOf_101 (by decide) ?_
            refine lv_istore (lv' := [(8, .int (nI 0)), (7, .int (nI 1)), (6, .int (nI (v))), (5, .int (-1)), (4, .int (nI (43 + 12 * c))), (0, rf G 91), (1, .int (nI (t))), (2, .int (nI (c))), (3, .int (nI 1))]) X.1.1 X.1.2.1 dX7_kindOf_102 hl (by decide) rfl (fun ls hl => ?_)
            refine lv_iload X.1.1 X.1.2.1 dX7_kindOf_104 (lv_at hl 0 rfl) ?_
            refine lv_iconst (v := nI 4) X.1.1 X.1.2.1 dX7_kindOf_106 (by decide) ?_
            refine sx_icmp_ge X (by decide) (by decide) (tgt := 163) dX7_kindOf_107 (by decide) (fun h => absurd h (by decide)) (fun _ => ?_)
            refine lv_iload X.1.1 X.1.2.1 dX7_kindOf_110 (lv_at hl 1 rfl) ?_
            refine sx_if_ne X (by decide) (tgt := 150) dX7_kindOf_112 (by decide) (fun _ => ?_) (fun h => absurd h (by decide))
            refine lv_iconst (v := nI 1) X.1.1 X.1.2.1 dX7_kindOf_150 (by decide) ?_
            refine lv_goto (tgt := 155) X.1.1 X.1.2.1 dX7_kindOf_151 (by decide) ?_
            refine lv_istore (lv' := [(7, .int (nI 1)), (8, .int (nI 0)), (6, .int (nI (v))), (5, .int (-1)), (4, .int (nI (43 + 12 * c))), (0, rf G 91), (1, .int (nI (t))), (2, .int (nI (c))), (3, .int (nI 1))]) X.1.1 X.1.2.1 dX7_kindOf_155 hl (by decide) rfl (fun ls hl => ?_)
            refine lv_iinc (v := (nI (1))) (lv' := [(8, .int (nI 1)), (7, .int (nI 1)), (6, .int (nI (v))), (5, .int (-1)), (4, .int (nI (43 + 12 * c))), (0, rf G 91), (1, .int (nI (t))), (2, .int (nI (c))), (3, .int (nI 1))]) X.1.1 X.1.2.1 dX7_kindOf_157 hl (k := 1) rfl (by decide) (by decide) rfl (fun ls hl => ?_)
            refine lv_goto (tgt := 104) X.1.1 X.1.2.1 dX7_kindOf_160 (by decide) ?_
            refine lv_iload X.1.1 X.1.2.1 dX7_kindOf_104 (lv_at hl 0 rfl) ?_
            refine lv_iconst (v := nI 4) X.1.1 X.1.2.1 dX7_kindOf_106 (by decide) ?_
            refine sx_icmp_ge X (by decide) (by decide) (tgt := 163) dX7_kindOf_107 (by decide) (fun h => absurd h (by decide)) (fun _ => ?_)
            refine lv_iload X.1.1 X.1.2.1 dX7_kindOf_110 (lv_at hl 1 rfl) ?_
            refine sx_if_ne X (by decide) (tgt := 150) dX7_kindOf_112 (by decide) (fun _ => ?_) (fun h => absurd h (by decide))
            refine lv_iconst (v := nI 1) X.1.1 X.1.2.1 dX7_kindOf_150 (by decide) ?_
            refine lv_goto (tgt := 155) X.1.1 X.1.2.1 dX7_kindOf_151 (by decide) ?_
            refine lv_istore (lv' := [(7, .int (nI 1)), (8, .int (nI 1)), (6, .int (nI (v))), (5, .int (-1)), (4, .int (nI (43 + 12 * c))), (0, rf G 91), (1, .int (nI (t))), (2, .int (nI (c))), (3, .int (nI 1))]) X.1.1 X.1.2.1 dX7_kindOf_155 hl (by decide) rfl (fun ls hl => ?_)
            refine lv_iinc (v := (nI (2))) (lv' := [(8, .int (nI 2)), (7, .int (nI 1)), (6, .int (nI (v))), (5, .int (-1)), (4, .int (nI (43 + 12 * c))), (0, rf G 91), (1, .int (nI (t))), (2, .int (nI (c))), (3, .int (nI 1))]) X.1.1 X.1.2.1 dX7_kindOf_157 hl (k := 1) rfl (by decide) (by decide) rfl (fun ls hl => ?_)
            refine lv_goto (tgt := 104) X.1.1 X.1.2.1 dX7_kindOf_160 (by decide) ?_
            refine lv_iload X.1.1 X.1.2.1 dX7_kindOf_104 (lv_at hl 0 rfl) ?_
            refine lv_iconst (v := nI 4) X.1.1 X.1.2.1 dX7_kindOf_106 (by decide) ?_
            refine sx_icmp_ge X (by decide) (by decide) (tgt := 163) dX7_kindOf_107 (by decide) (fun h => absurd h (by decide)) (fun _ => ?_)
            refine lv_iload X.1.1 X.1.2.1 dX7_kindOf_110 (lv_at hl 1 rfl) ?_
            refine sx_if_ne X (by decide) (tgt := 150) dX7_kindOf_112 (by decide) (fun _ => ?_) (fun h => absurd h (by decide))
            refine lv_iconst (v := nI 1) X.1.1 X.1.2.1 dX7_kindOf_150 (by decide) ?_
            refine lv_goto (tgt := 155) X.1.1 X.1.2.1 dX7_kindOf_151 (by decide) ?_
            refine lv_istore (lv' := [(7, .int (nI 1)), (8, .int (nI 2)), (6, .int (nI (v))), (5, .int (-1)), (4, .int (nI (43 + 12 * c))), (0, rf G 91), (1, .int (nI (t))), (2, .int (nI (c))), (3, .int (nI 1))]) X.1.1 X.1.2.1 dX7_kindOf_155 hl (by decide) rfl (fun ls hl => ?_)
            refine lv_iinc (v := (nI (3))) (lv' := [(8, .int (nI 3)), (7, .int (nI 1)), (6, .int (nI (v))), (5, .int (-1)), (4, .int (nI (43 + 12 * c))), (0, rf G 91), (1, .int (nI (t))), (2, .int (nI (c))), (3, .int (nI 1))]) X.1.1 X.1.2.1 dX7_kindOf_157 hl (k := 1) rfl (by decide) (by decide) rfl (fun ls hl => ?_)
            refine lv_goto (tgt := 104) X.1.1 X.1.2.1 dX7_kindOf_160 (by decide) ?_
            refine lv_iload X.1.1 X.1.2.1 dX7_kindOf_104 (lv_at hl 0 rfl) ?_
            refine lv_iconst (v := nI 4) X.1.1 X.1.2.1 dX7_kindOf_106 (by decide) ?_
            refine sx_icmp_ge X (by decide) (by decide) (tgt := 163) dX7_kindOf_107 (by decide) (fun h => absurd h (by decide)) (fun _ => ?_)
            refine lv_iload X.1.1 X.1.2.1 dX7_kindOf_110 (lv_at hl 1 rfl) ?_
            refine sx_if_ne X (by decide) (tgt := 150) dX7_kindOf_112 (by decide) (fun _ => ?_) (fun h => absurd h (by decide))
            refine lv_iconst (v := nI 1) X.1.1 X.1.2.1 dX7_kindOf_150 (by decide) ?_
            refine lv_goto (tgt := 155) X.1.1 X.1.2.1 dX7_kindOf_151 (by decide) ?_
            refine lv_istore (lv' := [(7, .int (nI 1)), (8, .int (nI 3)), (6, .int (nI (v))), (5, .int (-1)), (4, .int (nI (43 + 12 * c))), (0, rf G 91), (1, .int (nI (t))), (2, .int (nI (c))), (3, .int (nI 1))]) X.1.1 X.1.2.1 dX7_kindOf_155 hl (by decide) rfl (fun ls hl => ?_)
            refine lv_iinc (v := (nI (4))) (lv' := [(8, .int (nI 4)), (7, .int (nI 1)), (6, .int (nI (v))), (5, .int (-1)), (4, .int (nI (43 + 12 * c))), (0, rf G 91), (1, .int (nI (t))), (2, .int (nI (c))), (3, .int (nI 1))]) X.1.1 X.1.2.1 dX7_kindOf_157 hl (k := 1) rfl (by decide) (by decide) rfl (fun ls hl => ?_)
            refine lv_goto (tgt := 104) X.1.1 X.1.2.1 dX7_kindOf_160 (by decide) ?_
            refine lv_iload X.1.1 X.1.2.1 dX7_kindOf_104 (lv_at hl 0 rfl) ?_
            refine lv_iconst (v := nI 4) X.1.1 X.1.2.1 dX7_kindOf_106 (by decide) ?_
            refine sx_icmp_ge X (by decide) (by decide) (tgt := 163) dX7_kindOf_107 (by decide) (fun _ => ?_) (fun h => absurd h (by decide))
            refine lv_iload X.1.1 X.1.2.1 dX7_kindOf_163 (lv_at hl 1 rfl) ?_
            refine sx_if_eq X (by decide) (tgt := 172) dX7_kindOf_165 (by decide) (fun h => absurd h (by decide)) (fun _ => ?_)
            refine lv_iconst (v := nI 2) X.1.1 X.1.2.1 dX7_kindOf_168 (by decide) ?_
            refine lv_goto (tgt := 173) X.1.1 X.1.2.1 dX7_kindOf_169 (by decide) ?_
            rw [hQ]
            exact sx_iret X rfl hs rfl hP dX7_kindOf_173 (⟨rfl, by unfold kindF; rw [hW, cif_f notA_no]; rw [cif_f (show ¬ (1 : Nat) = 0 by decide)]; rw [hDd, cif_t (Or.inl ((notA_nI hv).mpr (Int32.not_le.mp c91)))]⟩)
      · refine lv_iload_n X.1.1 X.1.2.1 dX7_kindOf_0 rfl (lv_at hl 2 rfl) ?_
        refine sx_csI (As := [.int (nI (c))]) (rest := []) X (mX7_of l (c := c)) gX7_kindOf_X7_of rfl ys_X7_of ⟨Nat.le_of_ble_eq_true rfl, Nat.le_of_ble_eq_true rfl⟩ hl.1 rfl (Nat.le_of_ble_eq_true rfl) dX7_kindOf_1 ⟨Nat.le_of_ble_eq_true rfl, Nat.le_of_ble_eq_true rfl⟩ hs rfl hP (fun r9 F9 H9 l9 hp hP => ?_)
        obtain ⟨rfl, rfl⟩ := hp
        refine lv_istore (lv' := [(4, .int (nI (43 + 12 * c))), (0, rf G 91), (1, .int (nI (t))), (2, .int (nI (c))), (3, .int (nI 1))]) X.1.1 X.1.2.1 dX7_kindOf_4 hl (by decide) rfl (fun ls hl => ?_)
        refine lv_aload_n X.1.1 X.1.2.1 dX7_kindOf_6 rfl (lv_at hl 1 rfl) ?_
        refine sx_get X hP in_X7_kindOf_X7 h91 (by decide) rfl 0 (by decide) lk_X7_kindOf_fieldLink_RX7_7_RaceWatchModel_w_I rfl dX7_kindOf_7 ?_
        refine lv_iload X.1.1 X.1.2.1 dX7_kindOf_10 (lv_at hl 0 rfl) ?_
        refine lv_iconst (v := nI 0) X.1.1 X.1.2.1 dX7_kindOf_12 (by decide) ?_
        refine sx_addN X (43 + 12 * c) (by omega) dX7_kindOf_13 ?_
        refine sx_ald X hP h92 (by decide) (43 + 12 * c) (by omega) (by decide) dX7_kindOf_14 ?_
        rw [hW]
        refine lv_istore (lv' := [(5, .int (-1)), (4, .int (nI (43 + 12 * c))), (0, rf G 91), (1, .int (nI (t))), (2, .int (nI (c))), (3, .int (nI 1))]) X.1.1 X.1.2.1 dX7_kindOf_15 hl (by decide) rfl (fun ls hl => ?_)
        refine lv_iload X.1.1 X.1.2.1 dX7_kindOf_17 (lv_at hl 0 rfl) ?_
        refine lv_iconst (v := (-1)) X.1.1 X.1.2.1 dX7_kindOf_19 (by decide) ?_
        refine lv_icmp_eq X.1.1 X.1.2.1 (tgt := 52) dX7_kindOf_20 (by decide) (fun _ => ?_) (fun h => absurd rfl h)
        refine lv_iload_n X.1.1 X.1.2.1 dX7_kindOf_52 rfl (lv_at hl 5 rfl) ?_
        refine sx_if_ne X (by decide) (tgt := 58) dX7_kindOf_53 (by decide) (fun _ => ?_) (fun h => absurd h (by decide))
        refine lv_aload_n X.1.1 X.1.2.1 dX7_kindOf_58 rfl (lv_at hl 2 rfl) ?_
        refine sx_get X hP in_X7_kindOf_X7 h91 (by decide) rfl 0 (by decide) lk_X7_kindOf_fieldLink_RX7_7_RaceWatchModel_w_I rfl dX7_kindOf_59 ?_
        refine lv_iload X.1.1 X.1.2.1 dX7_kindOf_62 (lv_at hl 1 rfl) ?_
        refine lv_iconst (v := nI 2) X.1.1 X.1.2.1 dX7_kindOf_64 (by decide) ?_
        refine sx_addN X (45 + 12 * c) (by omega) dX7_kindOf_65 ?_
        refine sx_ald X hP h92 (by decide) (45 + 12 * c) (by omega) (by decide) dX7_kindOf_66 ?_
        rw [hDd]
        refine lv_istore (lv' := [(6, .int (-1)), (5, .int (-1)), (4, .int (nI (43 + 12 * c))), (0, rf G 91), (1, .int (nI (t))), (2, .int (nI (c))), (3, .int (nI 1))]) X.1.1 X.1.2.1 dX7_kindOf_67 hl (by decide) rfl (fun ls hl => ?_)
        refine lv_iload X.1.1 X.1.2.1 dX7_kindOf_69 (lv_at hl 0 rfl) ?_
        refine lv_iconst (v := (-1)) X.1.1 X.1.2.1 dX7_kindOf_71 (by decide) ?_
        refine lv_icmp_eq X.1.1 X.1.2.1 (tgt := 98) dX7_kindOf_72 (by decide) (fun _ => ?_) (fun h => absurd rfl h)
        refine lv_iconst (v := nI 0) X.1.1 X.1.2.1 dX7_kindOf_98 (by decide) ?_
        refine lv_istore (lv' := [(7, .int (nI 0)), (6, .int (-1)), (5, .int (-1)), (4, .int (nI (43 + 12 * c))), (0, rf G 91), (1, .int (nI (t))), (2, .int (nI (c))), (3, .int (nI 1))]) X.1.1 X.1.2.1 dX7_kindOf_99 hl (by decide) rfl (fun ls hl => ?_)
        refine lv_iconst (v := nI 0) X.1.1 X.1.2.1 dX7_kindOf_101 (by decide) ?_
        refine lv_istore (lv' := [(8, .int (nI 0)), (7, .int (nI 0)), (6, .int (-1)), (5, .int (-1)), (4, .int (nI (43 + 12 * c))), (0, rf G 91), (1, .int (nI (t))), (2, .int (nI (c))), (3, .int (nI 1))]) X.1.1 X.1.2.1 dX7_kindOf_102 hl (by decide) rfl (fun ls hl => ?_)
        refine lv_iload X.1.1 X.1.2.1 dX7_kindOf_104 (lv_at hl 0 rfl) ?_
        refine lv_iconst (v := nI 4) X.1.1 X.1.2.1 dX7_kindOf_106 (by decide) ?_
        refine sx_icmp_ge X (by decide) (by decide) (tgt := 163) dX7_kindOf_107 (by decide) (fun h => absurd h (by decide)) (fun _ => ?_)
        refine lv_iload X.1.1 X.1.2.1 dX7_kindOf_110 (lv_at hl 1 rfl) ?_
        refine sx_if_ne X (by decide) (tgt := 150) dX7_kindOf_112 (by decide) (fun h => absurd h (by decide)) (fun _ => ?_)
        refine lv_aload_n X.1.1 X.1.2.1 dX7_kindOf_115 rfl (lv_at hl 5 rfl) ?_
        refine sx_get X hP in_X7_kindOf_X7 h91 (by decide) rfl 0 (by decide) lk_X7_kindOf_fieldLink_RX7_7_RaceWatchModel_w_I rfl dX7_kindOf_116 ?_
        refine lv_iload X.1.1 X.1.2.1 dX7_kindOf_119 (lv_at hl 4 rfl) ?_
        refine lv_iconst (v := nI 4) X.1.1 X.1.2.1 dX7_kindOf_121 (by decide) ?_
        refine sx_addN X (47 + 12 * c) (by omega) dX7_kindOf_122 ?_
        refine sx_ald X hP h92 (by decide) (47 + 12 * c) (by omega) (by decide) dX7_kindOf_123 ?_
        rw [hSh]
        refine lv_iconst (v := nI 1) X.1.1 X.1.2.1 dX7_kindOf_124 (by decide) ?_
        refine sx_icmp_ne X (by decide) (by decide) (tgt := 154) dX7_kindOf_125 (by decide) (fun h => absurd h (by decide)) (fun _ => ?_)
        refine lv_aload_n X.1.1 X.1.2.1 dX7_kindOf_128 rfl (lv_at hl 5 rfl) ?_
        refine lv_iload_n X.1.1 X.1.2.1 dX7_kindOf_129 rfl (lv_at hl 6 rfl) ?_
        refine lv_iload X.1.1 X.1.2.1 dX7_kindOf_130 (lv_at hl 0 rfl) ?_
        refine sx_cvI (As := [.int (nI (t)), .int (nI 0)]) (rest := []) X (mX7_number l (t := t) (u := 0) (by omega) (by omega) h91 h92) gX7_kindOf_X7_number rfl yv_X7_number ⟨Nat.le_of_ble_eq_true rfl, Nat.le_of_ble_eq_true rfl⟩ h91 (by decide) rfl rfl hl.1 rfl (Nat.le_of_ble_eq_true rfl) dX7_kindOf_132 ⟨Nat.le_of_ble_eq_true rfl, Nat.le_of_ble_eq_true rfl⟩ hs rfl hP (fun r10 F10 H10 l10 hp hP => ?_)
        obtain ⟨rfl, rfl⟩ := hp
        rw [show w (4 + 4 * t + 0) = w (4 + 4 * t) from congrArg _ (by omega)]
        refine lv_aload_n X.1.1 X.1.2.1 dX7_kindOf_135 rfl (lv_at hl 5 rfl) ?_
        refine sx_get X hP in_X7_kindOf_X7 h91 (by decide) rfl 0 (by decide) lk_X7_kindOf_fieldLink_RX7_7_RaceWatchModel_w_I rfl dX7_kindOf_136 ?_
        refine lv_iload X.1.1 X.1.2.1 dX7_kindOf_139 (lv_at hl 4 rfl) ?_
        refine lv_iconst (v := nI 5) X.1.1 X.1.2.1 dX7_kindOf_141 (by decide) ?_
        refine sx_addN X (48 + 12 * c) (by omega) dX7_kindOf_142 ?_
        refine lv_iload X.1.1 X.1.2.1 dX7_kindOf_143 (lv_at hl 0 rfl) ?_
        refine sx_addN X (48 + 12 * c) (by omega) dX7_kindOf_145 ?_
        refine sx_ald X hP h92 (by decide) (48 + 12 * c) (by omega) (by decide) dX7_kindOf_146 ?_
        refine lv_icmp_ge X.1.1 X.1.2.1 (tgt := 154) dX7_kindOf_147 (by decide) (fun c147 => ?_) (fun c147 => ?_)
        · refine lv_iconst (v := nI 0) X.1.1 X.1.2.1 dX7_kindOf_154 (by decide) ?_
          refine lv_istore (lv' := [(7, .int (nI 0)), (8, .int (nI 0)), (6, .int (-1)), (5, .int (-1)), (4, .int (nI (43 + 12 * c))), (0, rf G 91), (1, .int (nI (t))), (2, .int (nI (c))), (3, .int (nI 1))]) X.1.1 X.1.2.1 dX7_kindOf_155 hl (by decide) rfl (fun ls hl => ?_)
          refine lv_iinc (v := (nI (1))) (lv' := [(8, .int (nI 1)), (7, .int (nI 0)), (6, .int (-1)), (5, .int (-1)), (4, .int (nI (43 + 12 * c))), (0, rf G 91), (1, .int (nI (t))), (2, .int (nI (c))), (3, .int (nI 1))]) X.1.1 X.1.2.1 dX7_kindOf_157 hl (k := 1) rfl (by decide) (by decide) rfl (fun ls hl => ?_)
          refine lv_goto (tgt := 104) X.1.1 X.1.2.1 dX7_kindOf_160 (by decide) ?_
          refine lv_iload X.1.1 X.1.2.1 dX7_kindOf_104 (lv_at hl 0 rfl) ?_
          refine lv_iconst (v := nI 4) X.1.1 X.1.2.1 dX7_kindOf_106 (by decide) ?_
          refine sx_icmp_ge X (by decide) (by decide) (tgt := 163) dX7_kindOf_107 (by decide) (fun h => absurd h (by decide)) (fun _ => ?_)
          refine lv_iload X.1.1 X.1.2.1 dX7_kindOf_110 (lv_at hl 1 rfl) ?_
          refine sx_if_ne X (by decide) (tgt := 150) dX7_kindOf_112 (by decide) (fun h => absurd h (by decide)) (fun _ => ?_)
          refine lv_aload_n X.1.1 X.1.2.1 dX7_kindOf_115 rfl (lv_at hl 5 rfl) ?_
          refine sx_get X hP in_X7_kindOf_X7 h91 (by decide) rfl 0 (by decide) lk_X7_kindOf_fieldLink_RX7_7_RaceWatchModel_w_I rfl dX7_kindOf_116 ?_
          refine lv_iload X.1.1 X.1.2.1 dX7_kindOf_119 (lv_at hl 4 rfl) ?_
          refine lv_iconst (v := nI 4) X.1.1 X.1.2.1 dX7_kindOf_121 (by decide) ?_
          refine sx_addN X (47 + 12 * c) (by omega) dX7_kindOf_122 ?_
          refine sx_ald X hP h92 (by decide) (47 + 12 * c) (by omega) (by decide) dX7_kindOf_123 ?_
          rw [hSh]
          refine lv_iconst (v := nI 1) X.1.1 X.1.2.1 dX7_kindOf_124 (by decide) ?_
          refine sx_icmp_ne X (by decide) (by decide) (tgt := 154) dX7_kindOf_125 (by decide) (fun h => absurd h (by decide)) (fun _ => ?_)
          refine lv_aload_n X.1.1 X.1.2.1 dX7_kindOf_128 rfl (lv_at hl 5 rfl) ?_
          refine lv_iload_n X.1.1 X.1.2.1 dX7_kindOf_129 rfl (lv_at hl 6 rfl) ?_
          refine lv_iload X.1.1 X.1.2.1 dX7_kindOf_130 (lv_at hl 0 rfl) ?_
          refine sx_cvI (As := [.int (nI (t)), .int (nI 1)]) (rest := []) X (mX7_number l (t := t) (u := 1) (by omega) (by omega) h91 h92) gX7_kindOf_X7_number rfl yv_X7_number ⟨Nat.le_of_ble_eq_true rfl, Nat.le_of_ble_eq_true rfl⟩ h91 (by decide) rfl rfl hl.1 rfl (Nat.le_of_ble_eq_true rfl) dX7_kindOf_132 ⟨Nat.le_of_ble_eq_true rfl, Nat.le_of_ble_eq_true rfl⟩ hs rfl hP (fun r11 F11 H11 l11 hp hP => ?_)
          obtain ⟨rfl, rfl⟩ := hp
          rw [show w (4 + 4 * t + 1) = w (5 + 4 * t) from congrArg _ (by omega)]
          refine lv_aload_n X.1.1 X.1.2.1 dX7_kindOf_135 rfl (lv_at hl 5 rfl) ?_
          refine sx_get X hP in_X7_kindOf_X7 h91 (by decide) rfl 0 (by decide) lk_X7_kindOf_fieldLink_RX7_7_RaceWatchModel_w_I rfl dX7_kindOf_136 ?_
          refine lv_iload X.1.1 X.1.2.1 dX7_kindOf_139 (lv_at hl 4 rfl) ?_
          refine lv_iconst (v := nI 5) X.1.1 X.1.2.1 dX7_kindOf_141 (by decide) ?_
          refine sx_addN X (48 + 12 * c) (by omega) dX7_kindOf_142 ?_
          refine lv_iload X.1.1 X.1.2.1 dX7_kindOf_143 (lv_at hl 0 rfl) ?_
          refine sx_addN X (49 + 12 * c) (by omega) dX7_kindOf_145 ?_
          refine sx_ald X hP h92 (by decide) (49 + 12 * c) (by omega) (by decide) dX7_kindOf_146 ?_
          refine lv_icmp_ge X.1.1 X.1.2.1 (tgt := 154) dX7_kindOf_147 (by decide) (fun c147_12 => ?_) (fun c147_12 => ?_)
          · refine lv_iconst (v := nI 0) X.1.1 X.1.2.1 dX7_kindOf_154 (by decide) ?_
            refine lv_istore (lv' := [(7, .int (nI 0)), (8, .int (nI 1)), (6, .int (-1)), (5, .int (-1)), (4, .int (nI (43 + 12 * c))), (0, rf G 91), (1, .int (nI (t))), (2, .int (nI (c))), (3, .int (nI 1))]) X.1.1 X.1.2.1 dX7_kindOf_155 hl (by decide) rfl (fun ls hl => ?_)
            refine lv_iinc (v := (nI (2))) (lv' := [(8, .int (nI 2)), (7, .int (nI 0)), (6, .int (-1)), (5, .int (-1)), (4, .int (nI (43 + 12 * c))), (0, rf G 91), (1, .int (nI (t))), (2, .int (nI (c))), (3, .int (nI 1))]) X.1.1 X.1.2.1 dX7_kindOf_157 hl (k := 1) rfl (by decide) (by decide) rfl (fun ls hl => ?_)
            refine lv_goto (tgt := 104) X.1.1 X.1.2.1 dX7_kindOf_160 (by decide) ?_
            refine lv_iload X.1.1 X.1.2.1 dX7_kindOf_104 (lv_at hl 0 rfl) ?_
            refine lv_iconst (v := nI 4) X.1.1 X.1.2.1 dX7_kindOf_106 (by decide) ?_
            refine sx_icmp_ge X (by decide) (by decide) (tgt := 163) dX7_kindOf_107 (by decide) (fun h => absurd h (by decide)) (fun _ => ?_)
            refine lv_iload X.1.1 X.1.2.1 dX7_kindOf_110 (lv_at hl 1 rfl) ?_
            refine sx_if_ne X (by decide) (tgt := 150) dX7_kindOf_112 (by decide) (fun h => absurd h (by decide)) (fun _ => ?_)
            refine lv_aload_n X.1.1 X.1.2.1 dX7_kindOf_115 rfl (lv_at hl 5 rfl) ?_
            refine sx_get X hP in_X7_kindOf_X7 h91 (by decide) rfl 0 (by decide) lk_X7_kindOf_fieldLink_RX7_7_RaceWatchModel_w_I rfl dX7_kindOf_116 ?_
            refine lv_iload X.1.1 X.1.2.1 dX7_kindOf_119 (lv_at hl 4 rfl) ?_
            refine lv_iconst (v := nI 4) X.1.1 X.1.2.1 dX7_kindOf_121 (by decide) ?_
            refine sx_addN X (47 + 12 * c) (by omega) dX7_kindOf_122 ?_
            refine sx_ald X hP h92 (by decide) (47 + 12 * c) (by omega) (by decide) dX7_kindOf_123 ?_
            rw [hSh]
            refine lv_iconst (v := nI 1) X.1.1 X.1.2.1 dX7_kindOf_124 (by decide) ?_
            refine sx_icmp_ne X (by decide) (by decide) (tgt := 154) dX7_kindOf_125 (by decide) (fun h => absurd h (by decide)) (fun _ => ?_)
            refine lv_aload_n X.1.1 X.1.2.1 dX7_kindOf_128 rfl (lv_at hl 5 rfl) ?_
            refine lv_iload_n X.1.1 X.1.2.1 dX7_kindOf_129 rfl (lv_at hl 6 rfl) ?_
            refine lv_iload X.1.1 X.1.2.1 dX7_kindOf_130 (lv_at hl 0 rfl) ?_
            refine sx_cvI (As := [.int (nI (t)), .int (nI 2)]) (rest := []) X (mX7_number l (t := t) (u := 2) (by omega) (by omega) h91 h92) gX7_kindOf_X7_number rfl yv_X7_number ⟨Nat.le_of_ble_eq_true rfl, Nat.le_of_ble_eq_true rfl⟩ h91 (by decide) rfl rfl hl.1 rfl (Nat.le_of_ble_eq_true rfl) dX7_kindOf_132 ⟨Nat.le_of_ble_eq_true rfl, Nat.le_of_ble_eq_true rfl⟩ hs rfl hP (fun r13 F13 H13 l13 hp hP => ?_)
            obtain ⟨rfl, rfl⟩ := hp
            rw [show w (4 + 4 * t + 2) = w (6 + 4 * t) from congrArg _ (by omega)]
            refine lv_aload_n X.1.1 X.1.2.1 dX7_kindOf_135 rfl (lv_at hl 5 rfl) ?_
            refine sx_get X hP in_X7_kindOf_X7 h91 (by decide) rfl 0 (by decide) lk_X7_kindOf_fieldLink_RX7_7_RaceWatchModel_w_I rfl dX7_kindOf_136 ?_
            refine lv_iload X.1.1 X.1.2.1 dX7_kindOf_139 (lv_at hl 4 rfl) ?_
            refine lv_iconst (v := nI 5) X.1.1 X.1.2.1 dX7_kindOf_141 (by decide) ?_
            refine sx_addN X (48 + 12 * c) (by omega) dX7_kindOf_142 ?_
            refine lv_iload X.1.1 X.1.2.1 dX7_kindOf_143 (lv_at hl 0 rfl) ?_
            refine sx_addN X (50 + 12 * c) (by omega) dX7_kindOf_145 ?_
            refine sx_ald X hP h92 (by decide) (50 + 12 * c) (by omega) (by decide) dX7_kindOf_146 ?_
            refine lv_icmp_ge X.1.1 X.1.2.1 (tgt := 154) dX7_kindOf_147 (by decide) (fun c147_14 => ?_) (fun c147_14 => ?_)
            · refine lv_iconst (v := nI 0) X.1.1 X.1.2.1 dX7_kindOf_154 (by decide) ?_
              refine lv_istore (lv' := [(7, .int (nI 0)), (8, .int (nI 2)), (6, .int (-1)), (5, .int (-1)), (4, .int (nI (43 + 12 * c))), (0, rf G 91), (1, .int (nI (t))), (2, .int (nI (c))), (3, .int (nI 1))]) X.1.1 X.1.2.1 dX7_kindOf_155 hl (by decide) rfl (fun ls hl => ?_)
              refine lv_iinc (v := (nI (3))) (lv' := [(8, .int (nI 3)), (7, .int (nI 0)), (6, .int (-1)), (5, .int (-1)), (4, .int (nI (43 + 12 * c))), (0, rf G 91), (1, .int (nI (t))), (2, .int (nI (c))), (3, .int (nI 1))]) X.1.1 X.1.2.1 dX7_kindOf_157 hl (k := 1) rfl (by decide) (by decide) rfl (fun ls hl => ?_)
              refine lv_goto (tgt := 104) X.1.1 X.1.2.1 dX7_kindOf_160 (by decide) ?_
              refine lv_iload X.1.1 X.1.2.1 dX7_kindOf_104 (lv_at hl 0 rfl) ?_
              refine lv_iconst (v := nI 4) X.1.1 X.1.2.1 dX7_kindOf_106 (by decide) ?_
              refine sx_icmp_ge X (by decide) (by decide) (tgt := 163) dX7_kindOf_107 (by decide) (fun h => absurd h (by decide)) (fun _ => ?_)
              refine lv_iload X.1.1 X.1.2.1 dX7_kindOf_110 (lv_at hl 1 rfl) ?_
              refine sx_if_ne X (by decide) (tgt := 150) dX7_kindOf_112 (by decide) (fun h => absurd h (by decide)) (fun _ => ?_)
              refine lv_aload_n X.1.1 X.1.2.1 dX7_kindOf_115 rfl (lv_at hl 5 rfl) ?_
              refine sx_get X hP in_X7_kindOf_X7 h91 (by decide) rfl 0 (by decide) lk_X7_kindOf_fieldLink_RX7_7_RaceWatchModel_w_I rfl dX7_kindOf_116 ?_
              refine lv_iload X.1.1 X.1.2.1 dX7_kindOf_119 (lv_at hl 4 rfl) ?_
              refine lv_iconst (v := nI 4) X.1.1 X.1.2.1 dX7_kindOf_121 (by decide) ?_
              refine sx_addN X (47 + 12 * c) (by omega) dX7_kindOf_122 ?_
              refine sx_ald X hP h92 (by decide) (47 + 12 * c) (by omega) (by decide) dX7_kindOf_123 ?_
              rw [hSh]
              refine lv_iconst (v := nI 1) X.1.1 X.1.2.1 dX7_kindOf_124 (by decide) ?_
              refine sx_icmp_ne X (by decide) (by decide) (tgt := 154) dX7_kindOf_125 (by decide) (fun h => absurd h (by decide)) (fun _ => ?_)
              refine lv_aload_n X.1.1 X.1.2.1 dX7_kindOf_128 rfl (lv_at hl 5 rfl) ?_
              refine lv_iload_n X.1.1 X.1.2.1 dX7_kindOf_129 rfl (lv_at hl 6 rfl) ?_
              refine lv_iload X.1.1 X.1.2.1 dX7_kindOf_130 (lv_at hl 0 rfl) ?_
              refine sx_cvI (As := [.int (nI (t)), .int (nI 3)]) (rest := []) X (mX7_number l (t := t) (u := 3) (by omega) (by omega) h91 h92) gX7_kindOf_X7_number rfl yv_X7_number ⟨Nat.le_of_ble_eq_true rfl, Nat.le_of_ble_eq_true rfl⟩ h91 (by decide) rfl rfl hl.1 rfl (Nat.le_of_ble_eq_true rfl) dX7_kindOf_132 ⟨Nat.le_of_ble_eq_true rfl, Nat.le_of_ble_eq_true rfl⟩ hs rfl hP (fun r15 F15 H15 l15 hp hP => ?_)
              obtain ⟨rfl, rfl⟩ := hp
              rw [show w (4 + 4 * t + 3) = w (7 + 4 * t) from congrArg _ (by omega)]
              refine lv_aload_n X.1.1 X.1.2.1 dX7_kindOf_135 rfl (lv_at hl 5 rfl) ?_
              refine sx_get X hP in_X7_kindOf_X7 h91 (by decide) rfl 0 (by decide) lk_X7_kindOf_fieldLink_RX7_7_RaceWatchModel_w_I rfl dX7_kindOf_136 ?_
              refine lv_iload X.1.1 X.1.2.1 dX7_kindOf_139 (lv_at hl 4 rfl) ?_
              refine lv_iconst (v := nI 5) X.1.1 X.1.2.1 dX7_kindOf_141 (by decide) ?_
              refine sx_addN X (48 + 12 * c) (by omega) dX7_kindOf_142 ?_
              refine lv_iload X.1.1 X.1.2.1 dX7_kindOf_143 (lv_at hl 0 rfl) ?_
              refine sx_addN X (51 + 12 * c) (by omega) dX7_kindOf_145 ?_
              refine sx_ald X hP h92 (by decide) (51 + 12 * c) (by omega) (by decide) dX7_kindOf_146 ?_
              refine lv_icmp_ge X.1.1 X.1.2.1 (tgt := 154) dX7_kindOf_147 (by decide) (fun c147_16 => ?_) (fun c147_16 => ?_)
              · refine lv_iconst (v := nI 0) X.1.1 X.1.2.1 dX7_kindOf_154 (by decide) ?_
                refine lv_istore (lv' := [(7, .int (nI 0)), (8, .int (nI 3)), (6, .int (-1)), (5, .int (-1)), (4, .int (nI (43 + 12 * c))), (0, rf G 91), (1, .int (nI (t))), (2, .int (nI (c))), (3, .int (nI 1))]) X.1.1 X.1.2.1 dX7_kindOf_155 hl (by decide) rfl (fun ls hl => ?_)
                refine lv_iinc (v := (nI (4))) (lv' := [(8, .int (nI 4)), (7, .int (nI 0)), (6, .int (-1)), (5, .int (-1)), (4, .int (nI (43 + 12 * c))), (0, rf G 91), (1, .int (nI (t))), (2, .int (nI (c))), (3, .int (nI 1))]) X.1.1 X.1.2.1 dX7_kindOf_157 hl (k := 1) rfl (by decide) (by decide) rfl (fun ls hl => ?_)
                refine lv_goto (tgt := 104) X.1.1 X.1.2.1 dX7_kindOf_160 (by decide) ?_
                refine lv_iload X.1.1 X.1.2.1 dX7_kindOf_104 (lv_at hl 0 rfl) ?_
                refine lv_iconst (v := nI 4) X.1.1 X.1.2.1 dX7_kindOf_106 (by decide) ?_
                refine sx_icmp_ge X (by decide) (by decide) (tgt := 163) dX7_kindOf_107 (by decide) (fun _ => ?_) (fun h => absurd h (by decide))
                refine lv_iload X.1.1 X.1.2.1 dX7_kindOf_163 (lv_at hl 1 rfl) ?_
                refine sx_if_eq X (by decide) (tgt := 172) dX7_kindOf_165 (by decide) (fun _ => ?_) (fun h => absurd h (by decide))
                refine lv_iconst (v := (-1)) X.1.1 X.1.2.1 dX7_kindOf_172 (by decide) ?_
                rw [hQ]
                exact sx_iret X rfl hs rfl hP dX7_kindOf_173 (⟨rfl, by unfold kindF; rw [hW, cif_f notA_no]; rw [cif_f (show ¬ (1 : Nat) = 0 by decide)]; rw [hDd, cif_f (by rintro (q | ⟨_, q⟩); exact notA_no q; rcases q with q | q | q | q; exact Int32.not_lt.mpr c147 q; exact Int32.not_lt.mpr c147_12 q; exact Int32.not_lt.mpr c147_14 q; exact Int32.not_lt.mpr c147_16 q)]⟩)
              · refine lv_iconst (v := nI 1) X.1.1 X.1.2.1 dX7_kindOf_150 (by decide) ?_
                refine lv_goto (tgt := 155) X.1.1 X.1.2.1 dX7_kindOf_151 (by decide) ?_
                refine lv_istore (lv' := [(7, .int (nI 1)), (8, .int (nI 3)), (6, .int (-1)), (5, .int (-1)), (4, .int (nI (43 + 12 * c))), (0, rf G 91), (1, .int (nI (t))), (2, .int (nI (c))), (3, .int (nI 1))]) X.1.1 X.1.2.1 dX7_kindOf_155 hl (by decide) rfl (fun ls hl => ?_)
                refine lv_iinc (v := (nI (4))) (lv' := [(8, .int (nI 4)), (7, .int (nI 1)), (6, .int (-1)), (5, .int (-1)), (4, .int (nI (43 + 12 * c))), (0, rf G 91), (1, .int (nI (t))), (2, .int (nI (c))), (3, .int (nI 1))]) X.1.1 X.1.2.1 dX7_kindOf_157 hl (k := 1) rfl (by decide) (by decide) rfl (fun ls hl => ?_)
                refine lv_goto (tgt := 104) X.1.1 X.1.2.1 dX7_kindOf_160 (by decide) ?_
                refine lv_iload X.1.1 X.1.2.1 dX7_kindOf_104 (lv_at hl 0 rfl) ?_
                refine lv_iconst (v := nI 4) X.1.1 X.1.2.1 dX7_kindOf_106 (by decide) ?_
                refine sx_icmp_ge X (by decide) (by decide) (tgt := 163) dX7_kindOf_107 (by decide) (fun _ => ?_) (fun h => absurd h (by decide))
                refine lv_iload X.1.1 X.1.2.1 dX7_kindOf_163 (lv_at hl 1 rfl) ?_
                refine sx_if_eq X (by decide) (tgt := 172) dX7_kindOf_165 (by decide) (fun h => absurd h (by decide)) (fun _ => ?_)
                refine lv_iconst (v := nI 2) X.1.1 X.1.2.1 dX7_kindOf_168 (by decide) ?_
                refine lv_goto (tgt := 173) X.1.1 X.1.2.1 dX7_kindOf_169 (by decide) ?_
                rw [hQ]
                exact sx_iret X rfl hs rfl hP dX7_kindOf_173 (⟨rfl, by unfold kindF; rw [hW, cif_f notA_no]; rw [cif_f (show ¬ (1 : Nat) = 0 by decide)]; rw [cif_t (Or.inr ⟨hSh, by unfold anyN; exact Or.inr (Or.inr (Or.inr (Int32.not_le.mp c147_16)))⟩)]⟩)
            · refine lv_iconst (v := nI 1) X.1.1 X.1.2.1 dX7_kindOf_150 (by decide) ?_
              refine lv_goto (tgt := 155) X.1.1 X.1.2.1 dX7_kindOf_151 (by decide) ?_
              refine lv_istore (lv' := [(7, .int (nI 1)), (8, .int (nI 2)), (6, .int (-1)), (5, .int (-1)), (4, .int (nI (43 + 12 * c))), (0, rf G 91), (1, .int (nI (t))), (2, .int (nI (c))), (3, .int (nI 1))]) X.1.1 X.1.2.1 dX7_kindOf_155 hl (by decide) rfl (fun ls hl => ?_)
              refine lv_iinc (v := (nI (3))) (lv' := [(8, .int (nI 3)), (7, .int (nI 1)), (6, .int (-1)), (5, .int (-1)), (4, .int (nI (43 + 12 * c))), (0, rf G 91), (1, .int (nI (t))), (2, .int (nI (c))), (3, .int (nI 1))]) X.1.1 X.1.2.1 dX7_kindOf_157 hl (k := 1) rfl (by decide) (by decide) rfl (fun ls hl => ?_)
              refine lv_goto (tgt := 104) X.1.1 X.1.2.1 dX7_kindOf_160 (by decide) ?_
              refine lv_iload X.1.1 X.1.2.1 dX7_kindOf_104 (lv_at hl 0 rfl) ?_
              refine lv_iconst (v := nI 4) X.1.1 X.1.2.1 dX7_kindOf_106 (by decide) ?_
              refine sx_icmp_ge X (by decide) (by decide) (tgt := 163) dX7_kindOf_107 (by decide) (fun h => absurd h (by decide)) (fun _ => ?_)
              refine lv_iload X.1.1 X.1.2.1 dX7_kindOf_110 (lv_at hl 1 rfl) ?_
              refine sx_if_ne X (by decide) (tgt := 150) dX7_kindOf_112 (by decide) (fun _ => ?_) (fun h => absurd h (by decide))
              refine lv_iconst (v := nI 1) X.1.1 X.1.2.1 dX7_kindOf_150 (by decide) ?_
              refine lv_goto (tgt := 155) X.1.1 X.1.2.1 dX7_kindOf_151 (by decide) ?_
              refine lv_istore (lv' := [(7, .int (nI 1)), (8, .int (nI 3)), (6, .int (-1)), (5, .int (-1)), (4, .int (nI (43 + 12 * c))), (0, rf G 91), (1, .int (nI (t))), (2, .int (nI (c))), (3, .int (nI 1))]) X.1.1 X.1.2.1 dX7_kindOf_155 hl (by decide) rfl (fun ls hl => ?_)
              refine lv_iinc (v := (nI (4))) (lv' := [(8, .int (nI 4)), (7, .int (nI 1)), (6, .int (-1)), (5, .int (-1)), (4, .int (nI (43 + 12 * c))), (0, rf G 91), (1, .int (nI (t))), (2, .int (nI (c))), (3, .int (nI 1))]) X.1.1 X.1.2.1 dX7_kindOf_157 hl (k := 1) rfl (by decide) (by decide) rfl (fun ls hl => ?_)
              refine lv_goto (tgt := 104) X.1.1 X.1.2.1 dX7_kindOf_160 (by decide) ?_
              refine lv_iload X.1.1 X.1.2.1 dX7_kindOf_104 (lv_at hl 0 rfl) ?_
              refine lv_iconst (v := nI 4) X.1.1 X.1.2.1 dX7_kindOf_106 (by decide) ?_
              refine sx_icmp_ge X (by decide) (by decide) (tgt := 163) dX7_kindOf_107 (by decide) (fun _ => ?_) (fun h => absurd h (by decide))
              refine lv_iload X.1.1 X.1.2.1 dX7_kindOf_163 (lv_at hl 1 rfl) ?_
              refine sx_if_eq X (by decide) (tgt := 172) dX7_kindOf_165 (by decide) (fun h => absurd h (by decide)) (fun _ => ?_)
              refine lv_iconst (v := nI 2) X.1.1 X.1.2.1 dX7_kindOf_168 (by decide) ?_
              refine lv_goto (tgt := 173) X.1.1 X.1.2.1 dX7_kindOf_169 (by decide) ?_
              rw [hQ]
              exact sx_iret X rfl hs rfl hP dX7_kindOf_173 (⟨rfl, by unfold kindF; rw [hW, cif_f notA_no]; rw [cif_f (show ¬ (1 : Nat) = 0 by decide)]; rw [cif_t (Or.inr ⟨hSh, by unfold anyN; exact Or.inr (Or.inr (Or.inl (Int32.not_le.mp c147_14)))⟩)]⟩)
          · refine lv_iconst (v := nI 1) X.1.1 X.1.2.1 dX7_kindOf_150 (by decide) ?_
            refine lv_goto (tgt := 155) X.1.1 X.1.2.1 dX7_kindOf_151 (by decide) ?_
            refine lv_istore (lv' := [(7, .int (nI 1)), (8, .int (nI 1)), (6, .int (-1)), (5, .int (-1)), (4, .int (nI (43 + 12 * c))), (0, rf G 91), (1, .int (nI (t))), (2, .int (nI (c))), (3, .int (nI 1))]) X.1.1 X.1.2.1 dX7_kindOf_155 hl (by decide) rfl (fun ls hl => ?_)
            refine lv_iinc (v := (nI (2))) (lv' := [(8, .int (nI 2)), (7, .int (nI 1)), (6, .int (-1)), (5, .int (-1)), (4, .int (nI (43 + 12 * c))), (0, rf G 91), (1, .int (nI (t))), (2, .int (nI (c))), (3, .int (nI 1))]) X.1.1 X.1.2.1 dX7_kindOf_157 hl (k := 1) rfl (by decide) (by decide) rfl (fun ls hl => ?_)
            refine lv_goto (tgt := 104) X.1.1 X.1.2.1 dX7_kindOf_160 (by decide) ?_
            refine lv_iload X.1.1 X.1.2.1 dX7_kindOf_104 (lv_at hl 0 rfl) ?_
            refine lv_iconst (v := nI 4) X.1.1 X.1.2.1 dX7_kindOf_106 (by decide) ?_
            refine sx_icmp_ge X (by decide) (by decide) (tgt := 163) dX7_kindOf_107 (by decide) (fun h => absurd h (by decide)) (fun _ => ?_)
            refine lv_iload X.1.1 X.1.2.1 dX7_kindOf_110 (lv_at hl 1 rfl) ?_
            refine sx_if_ne X (by decide) (tgt := 150) dX7_kindOf_112 (by decide) (fun _ => ?_) (fun h => absurd h (by decide))
            refine lv_iconst (v := nI 1) X.1.1 X.1.2.1 dX7_kindOf_150 (by decide) ?_
            refine lv_goto (tgt := 155) X.1.1 X.1.2.1 dX7_kindOf_151 (by decide) ?_
            refine lv_istore (lv' := [(7, .int (nI 1)), (8, .int (nI 2)), (6, .int (-1)), (5, .int (-1)), (4, .int (nI (43 + 12 * c))), (0, rf G 91), (1, .int (nI (t))), (2, .int (nI (c))), (3, .int (nI 1))]) X.1.1 X.1.2.1 dX7_kindOf_155 hl (by decide) rfl (fun ls hl => ?_)
            refine lv_iinc (v := (nI (3))) (lv' := [(8, .int (nI 3)), (7, .int (nI 1)), (6, .int (-1)), (5, .int (-1)), (4, .int (nI (43 + 12 * c))), (0, rf G 91), (1, .int (nI (t))), (2, .int (nI (c))), (3, .int (nI 1))]) X.1.1 X.1.2.1 dX7_kindOf_157 hl (k := 1) rfl (by decide) (by decide) rfl (fun ls hl => ?_)
            refine lv_goto (tgt := 104) X.1.1 X.1.2.1 dX7_kindOf_160 (by decide) ?_
            refine lv_iload X.1.1 X.1.2.1 dX7_kindOf_104 (lv_at hl 0 rfl) ?_
            refine lv_iconst (v := nI 4) X.1.1 X.1.2.1 dX7_kindOf_106 (by decide) ?_
            refine sx_icmp_ge X (by decide) (by decide) (tgt := 163) dX7_kindOf_107 (by decide) (fun h => absurd h (by decide)) (fun _ => ?_)
            refine lv_iload X.1.1 X.1.2.1 dX7_kindOf_110 (lv_at hl 1 rfl) ?_
            refine sx_if_ne X (by decide) (tgt := 150) dX7_kindOf_112 (by decide) (fun _ => ?_) (fun h => absurd h (by decide))
            refine lv_iconst (v := nI 1) X.1.1 X.1.2.1 dX7_kindOf_150 (by decide) ?_
            refine lv_goto (tgt := 155) X.1.1 X.1.2.1 dX7_kindOf_151 (by decide) ?_
            refine lv_istore (lv' := [(7, .int (nI 1)), (8, .int (nI 3)), (6, .int (-1)), (5, .int (-1)), (4, .int (nI (43 + 12 * c))), (0, rf G 91), (1, .int (nI (t))), (2, .int (nI (c))), (3, .int (nI 1))]) X.1.1 X.1.2.1 dX7_kindOf_155 hl (by decide) rfl (fun ls hl => ?_)
            refine lv_iinc (v := (nI (4))) (lv' := [(8, .int (nI 4)), (7, .int (nI 1)), (6, .int (-1)), (5, .int (-1)), (4, .int (nI (43 + 12 * c))), (0, rf G 91), (1, .int (nI (t))), (2, .int (nI (c))), (3, .int (nI 1))]) X.1.1 X.1.2.1 dX7_kindOf_157 hl (k := 1) rfl (by decide) (by decide) rfl (fun ls hl => ?_)
            refine lv_goto (tgt := 104) X.1.1 X.1.2.1 dX7_kindOf_160 (by decide) ?_
            refine lv_iload X.1.1 X.1.2.1 dX7_kindOf_104 (lv_at hl 0 rfl) ?_
            refine lv_iconst (v := nI 4) X.1.1 X.1.2.1 dX7_kindOf_106 (by decide) ?_
            refine sx_icmp_ge X (by decide) (by decide) (tgt := 163) dX7_kindOf_107 (by decide) (fun _ => ?_) (fun h => absurd h (by decide))
            refine lv_iload X.1.1 X.1.2.1 dX7_kindOf_163 (lv_at hl 1 rfl) ?_
            refine sx_if_eq X (by decide) (tgt := 172) dX7_kindOf_165 (by decide) (fun h => absurd h (by decide)) (fun _ => ?_)
            refine lv_iconst (v := nI 2) X.1.1 X.1.2.1 dX7_kindOf_168 (by decide) ?_
            refine lv_goto (tgt := 173) X.1.1 X.1.2.1 dX7_kindOf_169 (by decide) ?_
            rw [hQ]
            exact sx_iret X rfl hs rfl hP dX7_kindOf_173 (⟨rfl, by unfold kindF; rw [hW, cif_f notA_no]; rw [cif_f (show ¬ (1 : Nat) = 0 by decide)]; rw [cif_t (Or.inr ⟨hSh, by unfold anyN; exact Or.inr (Or.inl (Int32.not_le.mp c147_12))⟩)]⟩)
        · refine lv_iconst (v := nI 1) X.1.1 X.1.2.1 dX7_kindOf_150 (by decide) ?_
          refine lv_goto (tgt := 155) X.1.1 X.1.2.1 dX7_kindOf_151 (by decide) ?_
          refine lv_istore (lv' := [(7, .int (nI 1)), (8, .int (nI 0)), (6, .int (-1)), (5, .int (-1)), (4, .int (nI (43 + 12 * c))), (0, rf G 91), (1, .int (nI (t))), (2, .int (nI (c))), (3, .int (nI 1))]) X.1.1 X.1.2.1 dX7_kindOf_155 hl (by decide) rfl (fun ls hl => ?_)
          refine lv_iinc (v := (nI (1))) (lv' := [(8, .int (nI 1)), (7, .int (nI 1)), (6, .int (-1)), (5, .int (-1)), (4, .int (nI (43 + 12 * c))), (0, rf G 91), (1, .int (nI (t))), (2, .int (nI (c))), (3, .int (nI 1))]) X.1.1 X.1.2.1 dX7_kindOf_157 hl (k := 1) rfl (by decide) (by decide) rfl (fun ls hl => ?_)
          refine lv_goto (tgt := 104) X.1.1 X.1.2.1 dX7_kindOf_160 (by decide) ?_
          refine lv_iload X.1.1 X.1.2.1 dX7_kindOf_104 (lv_at hl 0 rfl) ?_
          refine lv_iconst (v := nI 4) X.1.1 X.1.2.1 dX7_kindOf_106 (by decide) ?_
          refine sx_icmp_ge X (by decide) (by decide) (tgt := 163) dX7_kindOf_107 (by decide) (fun h => absurd h (by decide)) (fun _ => ?_)
          refine lv_iload X.1.1 X.1.2.1 dX7_kindOf_110 (lv_at hl 1 rfl) ?_
          refine sx_if_ne X (by decide) (tgt := 150) dX7_kindOf_112 (by decide) (fun _ => ?_) (fun h => absurd h (by decide))
          refine lv_iconst (v := nI 1) X.1.1 X.1.2.1 dX7_kindOf_150 (by decide) ?_
          refine lv_goto (tgt := 155) X.1.1 X.1.2.1 dX7_kindOf_151 (by decide) ?_
          refine lv_istore (lv' := [(7, .int (nI 1)), (8, .int (nI 1)), (6, .int (-1)), (5, .int (-1)), (4, .int (nI (43 + 12 * c))), (0, rf G 91), (1, .int (nI (t))), (2, .int (nI (c))), (3, .int (nI 1))]) X.1.1 X.1.2.1 dX7_kindOf_155 hl (by decide) rfl (fun ls hl => ?_)
          refine lv_iinc (v := (nI (2))) (lv' := [(8, .int (nI 2)), (7, .int (nI 1)), (6, .int (-1)), (5, .int (-1)), (4, .int (nI (43 + 12 * c))), (0, rf G 91), (1, .int (nI (t))), (2, .int (nI (c))), (3, .int (nI 1))]) X.1.1 X.1.2.1 dX7_kindOf_157 hl (k := 1) rfl (by decide) (by decide) rfl (fun ls hl => ?_)
          refine lv_goto (tgt := 104) X.1.1 X.1.2.1 dX7_kindOf_160 (by decide) ?_
          refine lv_iload X.1.1 X.1.2.1 dX7_kindOf_104 (lv_at hl 0 rfl) ?_
          refine lv_iconst (v := nI 4) X.1.1 X.1.2.1 dX7_kindOf_106 (by decide) ?_
          refine sx_icmp_ge X (by decide) (by decide) (tgt := 163) dX7_kindOf_107 (by decide) (fun h => absurd h (by decide)) (fun _ => ?_)
          refine lv_iload X.1.1 X.1.2.1 dX7_kindOf_110 (lv_at hl 1 rfl) ?_
          refine sx_if_ne X (by decide) (tgt := 150) dX7_kindOf_112 (by decide) (fun _ => ?_) (fun h => absurd h (by decide))
          refine lv_iconst (v := nI 1) X.1.1 X.1.2.1 dX7_kindOf_150 (by decide) ?_
          refine lv_goto (tgt := 155) X.1.1 X.1.2.1 dX7_kindOf_151 (by decide) ?_
          refine lv_istore (lv' := [(7, .int (nI 1)), (8, .int (nI 2)), (6, .int (-1)), (5, .int (-1)), (4, .int (nI (43 + 12 * c))), (0, rf G 91), (1, .int (nI (t))), (2, .int (nI (c))), (3, .int (nI 1))]) X.1.1 X.1.2.1 dX7_kindOf_155 hl (by decide) rfl (fun ls hl => ?_)
          refine lv_iinc (v := (nI (3))) (lv' := [(8, .int (nI 3)), (7, .int (nI 1)), (6, .int (-1)), (5, .int (-1)), (4, .int (nI (43 + 12 * c))), (0, rf G 91), (1, .int (nI (t))), (2, .int (nI (c))), (3, .int (nI 1))]) X.1.1 X.1.2.1 dX7_kindOf_157 hl (k := 1) rfl (by decide) (by decide) rfl (fun ls hl => ?_)
          refine lv_goto (tgt := 104) X.1.1 X.1.2.1 dX7_kindOf_160 (by decide) ?_
          refine lv_iload X.1.1 X.1.2.1 dX7_kindOf_104 (lv_at hl 0 rfl) ?_
          refine lv_iconst (v := nI 4) X.1.1 X.1.2.1 dX7_kindOf_106 (by decide) ?_
          refine sx_icmp_ge X (by decide) (by decide) (tgt := 163) dX7_kindOf_107 (by decide) (fun h => absurd h (by decide)) (fun _ => ?_)
          refine lv_iload X.1.1 X.1.2.1 dX7_kindOf_110 (lv_at hl 1 rfl) ?_
          refine sx_if_ne X (by decide) (tgt := 150) dX7_kindOf_112 (by decide) (fun _ => ?_) (fun h => absurd h (by decide))
          refine lv_iconst (v := nI 1) X.1.1 X.1.2.1 dX7_kindOf_150 (by decide) ?_
          refine lv_goto (tgt := 155) X.1.1 X.1.2.1 dX7_kindOf_151 (by decide) ?_
          refine lv_istore (lv' := [(7, .int (nI 1)), (8, .int (nI 3)), (6, .int (-1)), (5, .int (-1)), (4, .int (nI (43 + 12 * c))), (0, rf G 91), (1, .int (nI (t))), (2, .int (nI (c))), (3, .int (nI 1))]) X.1.1 X.1.2.1 dX7_kindOf_155 hl (by decide) rfl (fun ls hl => ?_)
          refine lv_iinc (v := (nI (4))) (lv' := [(8, .int (nI 4)), (7, .int (nI 1)), (6, .int (-1)), (5, .int (-1)), (4, .int (nI (43 + 12 * c))), (0, rf G 91), (1, .int (nI (t))), (2, .int (nI (c))), (3, .int (nI 1))]) X.1.1 X.1.2.1 dX7_kindOf_157 hl (k := 1) rfl (by decide) (by decide) rfl (fun ls hl => ?_)
          refine lv_goto (tgt := 104) X.1.1 X.1.2.1 dX7_kindOf_160 (by decide) ?_
          refine lv_iload X.1.1 X.1.2.1 dX7_kindOf_104 (lv_at hl 0 rfl) ?_
          refine lv_iconst (v := nI 4) X.1.1 X.1.2.1 dX7_kindOf_106 (by decide) ?_
          refine sx_icmp_ge X (by decide) (by decide) (tgt := 163) dX7_kindOf_107 (by decide) (fun _ => ?_) (fun h => absurd h (by decide))
          refine lv_iload X.1.1 X.1.2.1 dX7_kindOf_163 (lv_at hl 1 rfl) ?_
          refine sx_if_eq X (by decide) (tgt := 172) dX7_kindOf_165 (by decide) (fun h => absurd h (by decide)) (fun _ => ?_)
          refine lv_iconst (v := nI 2) X.1.1 X.1.2.1 dX7_kindOf_168 (by decide) ?_
          refine lv_goto (tgt := 173) X.1.1 X.1.2.1 dX7_kindOf_169 (by decide) ?_
          rw [hQ]
          exact sx_iret X rfl hs rfl hP dX7_kindOf_173 (⟨rfl, by unfold kindF; rw [hW, cif_f notA_no]; rw [cif_f (show ¬ (1 : Nat) = 0 by decide)]; rw [cif_t (Or.inr ⟨hSh, by unfold anyN; exact Or.inl (Int32.not_le.mp c147)⟩)]⟩)
    · rcases hok.2.2 with hSh | ⟨hSh, hDd⟩
      · refine lv_iload_n X.1.1 X.1.2.1 dX7_kindOf_0 rfl (lv_at hl 2 rfl) ?_
        refine sx_csI (As := [.int (nI (c))]) (rest := []) X (mX7_of l (c := c)) gX7_kindOf_X7_of rfl ys_X7_of ⟨Nat.le_of_ble_eq_true rfl, Nat.le_of_ble_eq_true rfl⟩ hl.1 rfl (Nat.le_of_ble_eq_true rfl) dX7_kindOf_1 ⟨Nat.le_of_ble_eq_true rfl, Nat.le_of_ble_eq_true rfl⟩ hs rfl hP (fun r17 F17 H17 l17 hp hP => ?_)
        obtain ⟨rfl, rfl⟩ := hp
        refine lv_istore (lv' := [(4, .int (nI (43 + 12 * c))), (0, rf G 91), (1, .int (nI (t))), (2, .int (nI (c))), (3, .int (nI 1))]) X.1.1 X.1.2.1 dX7_kindOf_4 hl (by decide) rfl (fun ls hl => ?_)
        refine lv_aload_n X.1.1 X.1.2.1 dX7_kindOf_6 rfl (lv_at hl 1 rfl) ?_
        refine sx_get X hP in_X7_kindOf_X7 h91 (by decide) rfl 0 (by decide) lk_X7_kindOf_fieldLink_RX7_7_RaceWatchModel_w_I rfl dX7_kindOf_7 ?_
        refine lv_iload X.1.1 X.1.2.1 dX7_kindOf_10 (lv_at hl 0 rfl) ?_
        refine lv_iconst (v := nI 0) X.1.1 X.1.2.1 dX7_kindOf_12 (by decide) ?_
        refine sx_addN X (43 + 12 * c) (by omega) dX7_kindOf_13 ?_
        refine sx_ald X hP h92 (by decide) (43 + 12 * c) (by omega) (by decide) dX7_kindOf_14 ?_
        rw [hW]
        refine lv_istore (lv' := [(5, .int (nI (u))), (4, .int (nI (43 + 12 * c))), (0, rf G 91), (1, .int (nI (t))), (2, .int (nI (c))), (3, .int (nI 1))]) X.1.1 X.1.2.1 dX7_kindOf_15 hl (by decide) rfl (fun ls hl => ?_)
        refine lv_iload X.1.1 X.1.2.1 dX7_kindOf_17 (lv_at hl 0 rfl) ?_
        refine lv_iconst (v := (-1)) X.1.1 X.1.2.1 dX7_kindOf_19 (by decide) ?_
        refine lv_icmp_eq X.1.1 X.1.2.1 (tgt := 52) dX7_kindOf_20 (by decide) (fun h => absurd h (sx_m1 (by omega))) (fun _ => ?_)
        refine lv_aload_n X.1.1 X.1.2.1 dX7_kindOf_23 rfl (lv_at hl 2 rfl) ?_
        refine lv_iload_n X.1.1 X.1.2.1 dX7_kindOf_24 rfl (lv_at hl 3 rfl) ?_
        refine lv_iload X.1.1 X.1.2.1 dX7_kindOf_25 (lv_at hl 0 rfl) ?_
        refine sx_cvI (As := [.int (nI (t)), .int (nI (u))]) (rest := []) X (mX7_number l (t := t) (u := u) (by omega) (by omega) h91 h92) gX7_kindOf_X7_number rfl yv_X7_number ⟨Nat.le_of_ble_eq_true rfl, Nat.le_of_ble_eq_true rfl⟩ h91 (by decide) rfl rfl hl.1 rfl (Nat.le_of_ble_eq_true rfl) dX7_kindOf_27 ⟨Nat.le_of_ble_eq_true rfl, Nat.le_of_ble_eq_true rfl⟩ hs rfl hP (fun r18 F18 H18 l18 hp hP => ?_)
        obtain ⟨rfl, rfl⟩ := hp
        refine lv_aload_n X.1.1 X.1.2.1 dX7_kindOf_30 rfl (lv_at hl 2 rfl) ?_
        refine sx_get X hP in_X7_kindOf_X7 h91 (by decide) rfl 0 (by decide) lk_X7_kindOf_fieldLink_RX7_7_RaceWatchModel_w_I rfl dX7_kindOf_31 ?_
        refine lv_iload X.1.1 X.1.2.1 dX7_kindOf_34 (lv_at hl 1 rfl) ?_
        refine lv_iconst (v := nI 1) X.1.1 X.1.2.1 dX7_kindOf_36 (by decide) ?_
        refine sx_addN X (44 + 12 * c) (by omega) dX7_kindOf_37 ?_
        refine sx_ald X hP h92 (by decide) (44 + 12 * c) (by omega) (by decide) dX7_kindOf_38 ?_
        refine lv_icmp_ge X.1.1 X.1.2.1 (tgt := 52) dX7_kindOf_39 (by decide) (fun c39 => ?_) (fun c39 => ?_)
        · refine lv_iload_n X.1.1 X.1.2.1 dX7_kindOf_52 rfl (lv_at hl 5 rfl) ?_
          refine sx_if_ne X (by decide) (tgt := 58) dX7_kindOf_53 (by decide) (fun _ => ?_) (fun h => absurd h (by decide))
          rcases hok.2.1 with hDd | ⟨v, hv, hDd⟩
          · refine lv_aload_n X.1.1 X.1.2.1 dX7_kindOf_58 rfl (lv_at hl 2 rfl) ?_
            refine sx_get X hP in_X7_kindOf_X7 h91 (by decide) rfl 0 (by decide) lk_X7_kindOf_fieldLink_RX7_7_RaceWatchModel_w_I rfl dX7_kindOf_59 ?_
            refine lv_iload X.1.1 X.1.2.1 dX7_kindOf_62 (lv_at hl 1 rfl) ?_
            refine lv_iconst (v := nI 2) X.1.1 X.1.2.1 dX7_kindOf_64 (by decide) ?_
            refine sx_addN X (45 + 12 * c) (by omega) dX7_kindOf_65 ?_
            refine sx_ald X hP h92 (by decide) (45 + 12 * c) (by omega) (by decide) dX7_kindOf_66 ?_
            rw [hDd]
            refine lv_istore (lv' := [(6, .int (-1)), (5, .int (nI (u))), (4, .int (nI (43 + 12 * c))), (0, rf G 91), (1, .int (nI (t))), (2, .int (nI (c))), (3, .int (nI 1))]) X.1.1 X.1.2.1 dX7_kindOf_67 hl (by decide) rfl (fun ls hl => ?_)
            refine lv_iload X.1.1 X.1.2.1 dX7_kindOf_69 (lv_at hl 0 rfl) ?_
            refine lv_iconst (v := (-1)) X.1.1 X.1.2.1 dX7_kindOf_71 (by decide) ?_
            refine lv_icmp_eq X.1.1 X.1.2.1 (tgt := 98) dX7_kindOf_72 (by decide) (fun _ => ?_) (fun h => absurd rfl h)
            refine lv_iconst (v := nI 0) X.1.1 X.1.2.1 dX7_kindOf_98 (by decide) ?_
            refine lv_istore (lv' := [(7, .int (nI 0)), (6, .int (-1)), (5, .int (nI (u))), (4, .int (nI (43 + 12 * c))), (0, rf G 91), (1, .int (nI (t))), (2, .int (nI (c))), (3, .int (nI 1))]) X.1.1 X.1.2.1 dX7_kindOf_99 hl (by decide) rfl (fun ls hl => ?_)
            refine lv_iconst (v := nI 0) X.1.1 X.1.2.1 dX7_kindOf_101 (by decide) ?_
            refine lv_istore (lv' := [(8, .int (nI 0)), (7, .int (nI 0)), (6, .int (-1)), (5, .int (nI (u))), (4, .int (nI (43 + 12 * c))), (0, rf G 91), (1, .int (nI (t))), (2, .int (nI (c))), (3, .int (nI 1))]) X.1.1 X.1.2.1 dX7_kindOf_102 hl (by decide) rfl (fun ls hl => ?_)
            refine lv_iload X.1.1 X.1.2.1 dX7_kindOf_104 (lv_at hl 0 rfl) ?_
            refine lv_iconst (v := nI 4) X.1.1 X.1.2.1 dX7_kindOf_106 (by decide) ?_
            refine sx_icmp_ge X (by decide) (by decide) (tgt := 163) dX7_kindOf_107 (by decide) (fun h => absurd h (by decide)) (fun _ => ?_)
            refine lv_iload X.1.1 X.1.2.1 dX7_kindOf_110 (lv_at hl 1 rfl) ?_
            refine sx_if_ne X (by decide) (tgt := 150) dX7_kindOf_112 (by decide) (fun h => absurd h (by decide)) (fun _ => ?_)
            refine lv_aload_n X.1.1 X.1.2.1 dX7_kindOf_115 rfl (lv_at hl 5 rfl) ?_
            refine sx_get X hP in_X7_kindOf_X7 h91 (by decide) rfl 0 (by decide) lk_X7_kindOf_fieldLink_RX7_7_RaceWatchModel_w_I rfl dX7_kindOf_116 ?_
            refine lv_iload X.1.1 X.1.2.1 dX7_kindOf_119 (lv_at hl 4 rfl) ?_
            refine lv_iconst (v := nI 4) X.1.1 X.1.2.1 dX7_kindOf_121 (by decide) ?_
            refine sx_addN X (47 + 12 * c) (by omega) dX7_kindOf_122 ?_
            refine sx_ald X hP h92 (by decide) (47 + 12 * c) (by omega) (by decide) dX7_kindOf_123 ?_
            rw [hSh]
            refine lv_iconst (v := nI 1) X.1.1 X.1.2.1 dX7_kindOf_124 (by decide) ?_
            refine sx_icmp_ne X (by decide) (by decide) (tgt := 154) dX7_kindOf_125 (by decide) (fun _ => ?_) (fun h => absurd h (by decide))
            refine lv_iconst (v := nI 0) X.1.1 X.1.2.1 dX7_kindOf_154 (by decide) ?_
            refine lv_istore (lv' := [(7, .int (nI 0)), (8, .int (nI 0)), (6, .int (-1)), (5, .int (nI (u))), (4, .int (nI (43 + 12 * c))), (0, rf G 91), (1, .int (nI (t))), (2, .int (nI (c))), (3, .int (nI 1))]) X.1.1 X.1.2.1 dX7_kindOf_155 hl (by decide) rfl (fun ls hl => ?_)
            refine lv_iinc (v := (nI (1))) (lv' := [(8, .int (nI 1)), (7, .int (nI 0)), (6, .int (-1)), (5, .int (nI (u))), (4, .int (nI (43 + 12 * c))), (0, rf G 91), (1, .int (nI (t))), (2, .int (nI (c))), (3, .int (nI 1))]) X.1.1 X.1.2.1 dX7_kindOf_157 hl (k := 1) rfl (by decide) (by decide) rfl (fun ls hl => ?_)
            refine lv_goto (tgt := 104) X.1.1 X.1.2.1 dX7_kindOf_160 (by decide) ?_
            refine lv_iload X.1.1 X.1.2.1 dX7_kindOf_104 (lv_at hl 0 rfl) ?_
            refine lv_iconst (v := nI 4) X.1.1 X.1.2.1 dX7_kindOf_106 (by decide) ?_
            refine sx_icmp_ge X (by decide) (by decide) (tgt := 163) dX7_kindOf_107 (by decide) (fun h => absurd h (by decide)) (fun _ => ?_)
            refine lv_iload X.1.1 X.1.2.1 dX7_kindOf_110 (lv_at hl 1 rfl) ?_
            refine sx_if_ne X (by decide) (tgt := 150) dX7_kindOf_112 (by decide) (fun h => absurd h (by decide)) (fun _ => ?_)
            refine lv_aload_n X.1.1 X.1.2.1 dX7_kindOf_115 rfl (lv_at hl 5 rfl) ?_
            refine sx_get X hP in_X7_kindOf_X7 h91 (by decide) rfl 0 (by decide) lk_X7_kindOf_fieldLink_RX7_7_RaceWatchModel_w_I rfl dX7_kindOf_116 ?_
            refine lv_iload X.1.1 X.1.2.1 dX7_kindOf_119 (lv_at hl 4 rfl) ?_
            refine lv_iconst (v := nI 4) X.1.1 X.1.2.1 dX7_kindOf_121 (by decide) ?_
            refine sx_addN X (47 + 12 * c) (by omega) dX7_kindOf_122 ?_
            refine sx_ald X hP h92 (by decide) (47 + 12 * c) (by omega) (by decide) dX7_kindOf_123 ?_
            rw [hSh]
            refine lv_iconst (v := nI 1) X.1.1 X.1.2.1 dX7_kindOf_124 (by decide) ?_
            refine sx_icmp_ne X (by decide) (by decide) (tgt := 154) dX7_kindOf_125 (by decide) (fun _ => ?_) (fun h => absurd h (by decide))
            refine lv_iconst (v := nI 0) X.1.1 X.1.2.1 dX7_kindOf_154 (by decide) ?_
            refine lv_istore (lv' := [(7, .int (nI 0)), (8, .int (nI 1)), (6, .int (-1)), (5, .int (nI (u))), (4, .int (nI (43 + 12 * c))), (0, rf G 91), (1, .int (nI (t))), (2, .int (nI (c))), (3, .int (nI 1))]) X.1.1 X.1.2.1 dX7_kindOf_155 hl (by decide) rfl (fun ls hl => ?_)
            refine lv_iinc (v := (nI (2))) (lv' := [(8, .int (nI 2)), (7, .int (nI 0)), (6, .int (-1)), (5, .int (nI (u))), (4, .int (nI (43 + 12 * c))), (0, rf G 91), (1, .int (nI (t))), (2, .int (nI (c))), (3, .int (nI 1))]) X.1.1 X.1.2.1 dX7_kindOf_157 hl (k := 1) rfl (by decide) (by decide) rfl (fun ls hl => ?_)
            refine lv_goto (tgt := 104) X.1.1 X.1.2.1 dX7_kindOf_160 (by decide) ?_
            refine lv_iload X.1.1 X.1.2.1 dX7_kindOf_104 (lv_at hl 0 rfl) ?_
            refine lv_iconst (v := nI 4) X.1.1 X.1.2.1 dX7_kindOf_106 (by decide) ?_
            refine sx_icmp_ge X (by decide) (by decide) (tgt := 163) dX7_kindOf_107 (by decide) (fun h => absurd h (by decide)) (fun _ => ?_)
            refine lv_iload X.1.1 X.1.2.1 dX7_kindOf_110 (lv_at hl 1 rfl) ?_
            refine sx_if_ne X (by decide) (tgt := 150) dX7_kindOf_112 (by decide) (fun h => absurd h (by decide)) (fun _ => ?_)
            refine lv_aload_n X.1.1 X.1.2.1 dX7_kindOf_115 rfl (lv_at hl 5 rfl) ?_
            refine sx_get X hP in_X7_kindOf_X7 h91 (by decide) rfl 0 (by decide) lk_X7_kindOf_fieldLink_RX7_7_RaceWatchModel_w_I rfl dX7_kindOf_116 ?_
            refine lv_iload X.1.1 X.1.2.1 dX7_kindOf_119 (lv_at hl 4 rfl) ?_
            refine lv_iconst (v := nI 4) X.1.1 X.1.2.1 dX7_kindOf_121 (by decide) ?_
            refine sx_addN X (47 + 12 * c) (by omega) dX7_kindOf_122 ?_
            refine sx_ald X hP h92 (by decide) (47 + 12 * c) (by omega) (by decide) dX7_kindOf_123 ?_
            rw [hSh]
            refine lv_iconst (v := nI 1) X.1.1 X.1.2.1 dX7_kindOf_124 (by decide) ?_
            refine sx_icmp_ne X (by decide) (by decide) (tgt := 154) dX7_kindOf_125 (by decide) (fun _ => ?_) (fun h => absurd h (by decide))
            refine lv_iconst (v := nI 0) X.1.1 X.1.2.1 dX7_kindOf_154 (by decide) ?_
            refine lv_istore (lv' := [(7, .int (nI 0)), (8, .int (nI 2)), (6, .int (-1)), (5, .int (nI (u))), (4, .int (nI (43 + 12 * c))), (0, rf G 91), (1, .int (nI (t))), (2, .int (nI (c))), (3, .int (nI 1))]) X.1.1 X.1.2.1 dX7_kindOf_155 hl (by decide) rfl (fun ls hl => ?_)
            refine lv_iinc (v := (nI (3))) (lv' := [(8, .int (nI 3)), (7, .int (nI 0)), (6, .int (-1)), (5, .int (nI (u))), (4, .int (nI (43 + 12 * c))), (0, rf G 91), (1, .int (nI (t))), (2, .int (nI (c))), (3, .int (nI 1))]) X.1.1 X.1.2.1 dX7_kindOf_157 hl (k := 1) rfl (by decide) (by decide) rfl (fun ls hl => ?_)
            refine lv_goto (tgt := 104) X.1.1 X.1.2.1 dX7_kindOf_160 (by decide) ?_
            refine lv_iload X.1.1 X.1.2.1 dX7_kindOf_104 (lv_at hl 0 rfl) ?_
            refine lv_iconst (v := nI 4) X.1.1 X.1.2.1 dX7_kindOf_106 (by decide) ?_
            refine sx_icmp_ge X (by decide) (by decide) (tgt := 163) dX7_kindOf_107 (by decide) (fun h => absurd h (by decide)) (fun _ => ?_)
            refine lv_iload X.1.1 X.1.2.1 dX7_kindOf_110 (lv_at hl 1 rfl) ?_
            refine sx_if_ne X (by decide) (tgt := 150) dX7_kindOf_112 (by decide) (fun h => absurd h (by decide)) (fun _ => ?_)
            refine lv_aload_n X.1.1 X.1.2.1 dX7_kindOf_115 rfl (lv_at hl 5 rfl) ?_
            refine sx_get X hP in_X7_kindOf_X7 h91 (by decide) rfl 0 (by decide) lk_X7_kindOf_fieldLink_RX7_7_RaceWatchModel_w_I rfl dX7_kindOf_116 ?_
            refine lv_iload X.1.1 X.1.2.1 dX7_kindOf_119 (lv_at hl 4 rfl) ?_
            refine lv_iconst (v := nI 4) X.1.1 X.1.2.1 dX7_kindOf_121 (by decide) ?_
            refine sx_addN X (47 + 12 * c) (by omega) dX7_kindOf_122 ?_
            refine sx_ald X hP h92 (by decide) (47 + 12 * c) (by omega) (by decide) dX7_kindOf_123 ?_
            rw [hSh]
            refine lv_iconst (v := nI 1) X.1.1 X.1.2.1 dX7_kindOf_124 (by decide) ?_
            refine sx_icmp_ne X (by decide) (by decide) (tgt := 154) dX7_kindOf_125 (by decide) (fun _ => ?_) (fun h => absurd h (by decide))
            refine lv_iconst (v := nI 0) X.1.1 X.1.2.1 dX7_kindOf_154 (by decide) ?_
            refine lv_istore (lv' := [(7, .int (nI 0)), (8, .int (nI 3)), (6, .int (-1)), (5, .int (nI (u))), (4, .int (nI (43 + 12 * c))), (0, rf G 91), (1, .int (nI (t))), (2, .int (nI (c))), (3, .int (nI 1))]) X.1.1 X.1.2.1 dX7_kindOf_155 hl (by decide) rfl (fun ls hl => ?_)
            refine lv_iinc (v := (nI (4))) (lv' := [(8, .int (nI 4)), (7, .int (nI 0)), (6, .int (-1)), (5, .int (nI (u))), (4, .int (nI (43 + 12 * c))), (0, rf G 91), (1, .int (nI (t))), (2, .int (nI (c))), (3, .int (nI 1))]) X.1.1 X.1.2.1 dX7_kindOf_157 hl (k := 1) rfl (by decide) (by decide) rfl (fun ls hl => ?_)
            refine lv_goto (tgt := 104) X.1.1 X.1.2.1 dX7_kindOf_160 (by decide) ?_
            refine lv_iload X.1.1 X.1.2.1 dX7_kindOf_104 (lv_at hl 0 rfl) ?_
            refine lv_iconst (v := nI 4) X.1.1 X.1.2.1 dX7_kindOf_106 (by decide) ?_
            refine sx_icmp_ge X (by decide) (by decide) (tgt := 163) dX7_kindOf_107 (by decide) (fun _ => ?_) (fun h => absurd h (by decide))
            refine lv_iload X.1.1 X.1.2.1 dX7_kindOf_163 (lv_at hl 1 rfl) ?_
            refine sx_if_eq X (by decide) (tgt := 172) dX7_kindOf_165 (by decide) (fun _ => ?_) (fun h => absurd h (by decide))
            refine lv_iconst (v := (-1)) X.1.1 X.1.2.1 dX7_kindOf_172 (by decide) ?_
            rw [hQ]
            exact sx_iret X rfl hs rfl hP dX7_kindOf_173 (⟨rfl, by unfold kindF; rw [hW, cif_f (fun q => Int32.not_lt.mpr c39 ((notA_nI hu).mp q))]; rw [cif_f (show ¬ (1 : Nat) = 0 by decide)]; rw [hDd, hSh, cif_f (by rintro (q | ⟨q, _⟩); exact notA_no q; exact absurd q (by decide))]⟩)
          · refine lv_aload_n X.1.1 X.1.2.1 dX7_kindOf_58 rfl (lv_at hl 2 rfl) ?_
            refine sx_get X hP in_X7_kindOf_X7 h91 (by decide) rfl 0 (by decide) lk_X7_kindOf_fieldLink_RX7_7_RaceWatchModel_w_I rfl dX7_kindOf_59 ?_
            refine lv_iload X.1.1 X.1.2.1 dX7_kindOf_62 (lv_at hl 1 rfl) ?_
            refine lv_iconst (v := nI 2) X.1.1 X.1.2.1 dX7_kindOf_64 (by decide) ?_
            refine sx_addN X (45 + 12 * c) (by omega) dX7_kindOf_65 ?_
            refine sx_ald X hP h92 (by decide) (45 + 12 * c) (by omega) (by decide) dX7_kindOf_66 ?_
            rw [hDd]
            refine lv_istore (lv' := [(6, .int (nI (v))), (5, .int (nI (u))), (4, .int (nI (43 + 12 * c))), (0, rf G 91), (1, .int (nI (t))), (2, .int (nI (c))), (3, .int (nI 1))]) X.1.1 X.1.2.1 dX7_kindOf_67 hl (by decide) rfl (fun ls hl => ?_)
            refine lv_iload X.1.1 X.1.2.1 dX7_kindOf_69 (lv_at hl 0 rfl) ?_
            refine lv_iconst (v := (-1)) X.1.1 X.1.2.1 dX7_kindOf_71 (by decide) ?_
            refine lv_icmp_eq X.1.1 X.1.2.1 (tgt := 98) dX7_kindOf_72 (by decide) (fun h => absurd h (sx_m1 (by omega))) (fun _ => ?_)
            refine lv_aload_n X.1.1 X.1.2.1 dX7_kindOf_75 rfl (lv_at hl 3 rfl) ?_
            refine lv_iload_n X.1.1 X.1.2.1 dX7_kindOf_76 rfl (lv_at hl 4 rfl) ?_
            refine lv_iload X.1.1 X.1.2.1 dX7_kindOf_77 (lv_at hl 0 rfl) ?_
            refine sx_cvI (As := [.int (nI (t)), .int (nI (v))]) (rest := []) X (mX7_number l (t := t) (u := v) (by omega) (by omega) h91 h92) gX7_kindOf_X7_number rfl yv_X7_number ⟨Nat.le_of_ble_eq_true rfl, Nat.le_of_ble_eq_true rfl⟩ h91 (by decide) rfl rfl hl.1 rfl (Nat.le_of_ble_eq_true rfl) dX7_kindOf_79 ⟨Nat.le_of_ble_eq_true rfl, Nat.le_of_ble_eq_true rfl⟩ hs rfl hP (fun r19 F19 H19 l19 hp hP => ?_)
            obtain ⟨rfl, rfl⟩ := hp
            refine lv_aload_n X.1.1 X.1.2.1 dX7_kindOf_82 rfl (lv_at hl 3 rfl) ?_
            refine sx_get X hP in_X7_kindOf_X7 h91 (by decide) rfl 0 (by decide) lk_X7_kindOf_fieldLink_RX7_7_RaceWatchModel_w_I rfl dX7_kindOf_83 ?_
            refine lv_iload X.1.1 X.1.2.1 dX7_kindOf_86 (lv_at hl 2 rfl) ?_
            refine lv_iconst (v := nI 3) X.1.1 X.1.2.1 dX7_kindOf_88 (by decide) ?_
            refine sx_addN X (46 + 12 * c) (by omega) dX7_kindOf_89 ?_
            refine sx_ald X hP h92 (by decide) (46 + 12 * c) (by omega) (by decide) dX7_kindOf_90 ?_
            refine lv_icmp_ge X.1.1 X.1.2.1 (tgt := 98) dX7_kindOf_91 (by decide) (fun c91 => ?_) (fun c91 => ?_)
            · refine lv_iconst (v := nI 0) X.1.1 X.1.2.1 dX7_kindOf_98 (by decide) ?_
              refine lv_istore (lv' := [(7, .int (nI 0)), (6, .int (nI (v))), (5, .int (nI (u))), (4, .int (nI (43 + 12 * c))), (0, rf G 91), (1, .int (nI (t))), (2, .int (nI (c))), (3, .int (nI 1))]) X.1.1 X.1.2.1 dX7_kindOf_99 hl (by decide) rfl (fun ls hl => ?_)
              refine lv_iconst (v := nI 0) X.1.1 X.1.2.1 dX7_kindOf_101 (by decide) ?_
              refine lv_istore (lv' := [(8, .int (nI 0)), (7, .int (nI 0)), (6, .int (nI (v))), (5, .int (nI (u))), (4, .int (nI (43 + 12 * c))), (0, rf G 91), (1, .int (nI (t))), (2, .int (nI (c))), (3, .int (nI 1))]) X.1.1 X.1.2.1 dX7_kindOf_102 hl (by decide) rfl (fun ls hl => ?_)
              refine lv_iload X.1.1 X.1.2.1 dX7_kindOf_104 (lv_at hl 0 rfl) ?_
              refine lv_iconst (v := nI 4) X.1.1 X.1.2.1 dX7_kindOf_106 (by decide) ?_
              refine sx_icmp_ge X (by decide) (by decide) (tgt := 163) dX7_kindOf_107 (by decide) (fun h => absurd h (by decide)) (fun _ => ?_)
              refine lv_iload X.1.1 X.1.2.1 dX7_kindOf_110 (lv_at hl 1 rfl) ?_
              refine sx_if_ne X (by decide) (tgt := 150) dX7_kindOf_112 (by decide) (fun h => absurd h (by decide)) (fun _ => ?_)
              refine lv_aload_n X.1.1 X.1.2.1 dX7_kindOf_115 rfl (lv_at hl 5 rfl) ?_
              refine sx_get X hP in_X7_kindOf_X7 h91 (by decide) rfl 0 (by decide) lk_X7_kindOf_fieldLink_RX7_7_RaceWatchModel_w_I rfl dX7_kindOf_116 ?_
              refine lv_iload X.1.1 X.1.2.1 dX7_kindOf_119 (lv_at hl 4 rfl) ?_
              refine lv_iconst (v := nI 4) X.1.1 X.1.2.1 dX7_kindOf_121 (by decide) ?_
              refine sx_addN X (47 + 12 * c) (by omega) dX7_kindOf_122 ?_
              refine sx_ald X hP h92 (by decide) (47 + 12 * c) (by omega) (by decide) dX7_kindOf_123 ?_
              rw [hSh]
              refine lv_iconst (v := nI 1) X.1.1 X.1.2.1 dX7_kindOf_124 (by decide) ?_
              refine sx_icmp_ne X (by decide) (by decide) (tgt := 154) dX7_kindOf_125 (by decide) (fun _ => ?_) (fun h => absurd h (by decide))
              refine lv_iconst (v := nI 0) X.1.1 X.1.2.1 dX7_kindOf_154 (by decide) ?_
              refine lv_istore (lv' := [(7, .int (nI 0)), (8, .int (nI 0)), (6, .int (nI (v))), (5, .int (nI (u))), (4, .int (nI (43 + 12 * c))), (0, rf G 91), (1, .int (nI (t))), (2, .int (nI (c))), (3, .int (nI 1))]) X.1.1 X.1.2.1 dX7_kindOf_155 hl (by decide) rfl (fun ls hl => ?_)
              refine lv_iinc (v := (nI (1))) (lv' := [(8, .int (nI 1)), (7, .int (nI 0)), (6, .int (nI (v))), (5, .int (nI (u))), (4, .int (nI (43 + 12 * c))), (0, rf G 91), (1, .int (nI (t))), (2, .int (nI (c))), (3, .int (nI 1))]) X.1.1 X.1.2.1 dX7_kindOf_157 hl (k := 1) rfl (by decide) (by decide) rfl (fun ls hl => ?_)
              refine lv_goto (tgt := 104) X.1.1 X.1.2.1 dX7_kindOf_160 (by decide) ?_
              refine lv_iload X.1.1 X.1.2.1 dX7_kindOf_104 (lv_at hl 0 rfl) ?_
              refine lv_iconst (v := nI 4) X.1.1 X.1.2.1 dX7_kindOf_106 (by decide) ?_
              refine sx_icmp_ge X (by decide) (by decide) (tgt := 163) dX7_kindOf_107 (by decide) (fun h => absurd h (by decide)) (fun _ => ?_)
              refine lv_iload X.1.1 X.1.2.1 dX7_kindOf_110 (lv_at hl 1 rfl) ?_
              refine sx_if_ne X (by decide) (tgt := 150) dX7_kindOf_112 (by decide) (fun h => absurd h (by decide)) (fun _ => ?_)
              refine lv_aload_n X.1.1 X.1.2.1 dX7_kindOf_115 rfl (lv_at hl 5 rfl) ?_
              refine sx_get X hP in_X7_kindOf_X7 h91 (by decide) rfl 0 (by decide) lk_X7_kindOf_fieldLink_RX7_7_RaceWatchModel_w_I rfl dX7_kindOf_116 ?_
              refine lv_iload X.1.1 X.1.2.1 dX7_kindOf_119 (lv_at hl 4 rfl) ?_
              refine lv_iconst (v := nI 4) X.1.1 X.1.2.1 dX7_kindOf_121 (by decide) ?_
              refine sx_addN X (47 + 12 * c) (by omega) dX7_kindOf_122 ?_
              refine sx_ald X hP h92 (by decide) (47 + 12 * c) (by omega) (by decide) dX7_kindOf_123 ?_
              rw [hSh]
              refine lv_iconst (v := nI 1) X.1.1 X.1.2.1 dX7_kindOf_124 (by decide) ?_
              refine sx_icmp_ne X (by decide) (by decide) (tgt := 154) dX7_kindOf_125 (by decide) (fun _ => ?_) (fun h => absurd h (by decide))
              refine lv_iconst (v := nI 0) X.1.1 X.1.2.1 dX7_kindOf_154 (by decide) ?_
              refine lv_istore (lv' := [(7, .int (nI 0)), (8, .int (nI 1)), (6, .int (nI (v))), (5, .int (nI (u))), (4, .int (nI (43 + 12 * c))), (0, rf G 91), (1, .int (nI (t))), (2, .int (nI (c))), (3, .int (nI 1))]) X.1.1 X.1.2.1 dX7_kindOf_155 hl (by decide) rfl (fun ls hl => ?_)
              refine lv_iinc (v := (nI (2))) (lv' := [(8, .int (nI 2)), (7, .int (nI 0)), (6, .int (nI (v))), (5, .int (nI (u))), (4, .int (nI (43 + 12 * c))), (0, rf G 91), (1, .int (nI (t))), (2, .int (nI (c))), (3, .int (nI 1))]) X.1.1 X.1.2.1 dX7_kindOf_157 hl (k := 1) rfl (by decide) (by decide) rfl (fun ls hl => ?_)
              refine lv_goto (tgt := 104) X.1.1 X.1.2.1 dX7_kindOf_160 (by decide) ?_
              refine lv_iload X.1.1 X.1.2.1 dX7_kindOf_104 (lv_at hl 0 rfl) ?_
              refine lv_iconst (v := nI 4) X.1.1 X.1.2.1 dX7_kindOf_106 (by decide) ?_
              refine sx_icmp_ge X (by decide) (by decide) (tgt := 163) dX7_kindOf_107 (by decide) (fun h => absurd h (by decide)) (fun _ => ?_)
              refine lv_iload X.1.1 X.1.2.1 dX7_kindOf_110 (lv_at hl 1 rfl) ?_
              refine sx_if_ne X (by decide) (tgt := 150) dX7_kindOf_112 (by decide) (fun h => absurd h (by decide)) (fun _ => ?_)
              refine lv_aload_n X.1.1 X.1.2.1 dX7_kindOf_115 rfl (lv_at hl 5 rfl) ?_
              refine sx_get X hP in_X7_kindOf_X7 h91 (by decide) rfl 0 (by decide) lk_X7_kindOf_fieldLink_RX7_7_RaceWatchModel_w_I rfl dX7_kindOf_116 ?_
              refine lv_iload X.1.1 X.1.2.1 dX7_kindOf_119 (lv_at hl 4 rfl) ?_
              refine lv_iconst (v := nI 4) X.1.1 X.1.2.1 dX7_kindOf_121 (by decide) ?_
              refine sx_addN X (47 + 12 * c) (by omega) dX7_kindOf_122 ?_
              refine sx_ald X hP h92 (by decide) (47 + 12 * c) (by omega) (by decide) dX7_kindOf_123 ?_
              rw [hSh]
              refine lv_iconst (v := nI 1) X.1.1 X.1.2.1 dX7_kindOf_124 (by decide) ?_
              refine sx_icmp_ne X (by decide) (by decide) (tgt := 154) dX7_kindOf_125 (by decide) (fun _ => ?_) (fun h => absurd h (by decide))
              refine lv_iconst (v := nI 0) X.1.1 X.1.2.1 dX7_kindOf_154 (by decide) ?_
              refine lv_istore (lv' := [(7, .int (nI 0)), (8, .int (nI 2)), (6, .int (nI (v))), (5, .int (nI (u))), (4, .int (nI (43 + 12 * c))), (0, rf G 91), (1, .int (nI (t))), (2, .int (nI (c))), (3, .int (nI 1))]) X.1.1 X.1.2.1 dX7_kindOf_155 hl (by decide) rfl (fun ls hl => ?_)
              refine lv_iinc (v := (nI (3))) (lv' := [(8, .int (nI 3)), (7, .int (nI 0)), (6, .int (nI (v))), (5, .int (nI (u))), (4, .int (nI (43 + 12 * c))), (0, rf G 91), (1, .int (nI (t))), (2, .int (nI (c))), (3, .int (nI 1))]) X.1.1 X.1.2.1 dX7_kindOf_157 hl (k := 1) rfl (by decide) (by decide) rfl (fun ls hl => ?_)
              refine lv_goto (tgt := 104) X.1.1 X.1.2.1 dX7_kindOf_160 (by decide) ?_
              refine lv_iload X.1.1 X.1.2.1 dX7_kindOf_104 (lv_at hl 0 rfl) ?_
              refine lv_iconst (v := nI 4) X.1.1 X.1.2.1 dX7_kindOf_106 (by decide) ?_
              refine sx_icmp_ge X (by decide) (by decide) (tgt := 163) dX7_kindOf_107 (by decide) (fun h => absurd h (by decide)) (fun _ => ?_)
              refine lv_iload X.1.1 X.1.2.1 dX7_kindOf_110 (lv_at hl 1 rfl) ?_
              refine sx_if_ne X (by decide) (tgt := 150) dX7_kindOf_112 (by decide) (fun h => absurd h (by decide)) (fun _ => ?_)
              refine lv_aload_n X.1.1 X.1.2.1 dX7_kindOf_115 rfl (lv_at hl 5 rfl) ?_
              refine sx_get X hP in_X7_kindOf_X7 h91 (by decide) rfl 0 (by decide) lk_X7_kindOf_fieldLink_RX7_7_RaceWatchModel_w_I rfl dX7_kindOf_116 ?_
              refine lv_iload X.1.1 X.1.2.1 dX7_kindOf_119 (lv_at hl 4 rfl) ?_
              refine lv_iconst (v := nI 4) X.1.1 X.1.2.1 dX7_kindOf_121 (by decide) ?_
              refine sx_addN X (47 + 12 * c) (by omega) dX7_kindOf_122 ?_
              refine sx_ald X hP h92 (by decide) (47 + 12 * c) (by omega) (by decide) dX7_kindOf_123 ?_
              rw [hSh]
              refine lv_iconst (v := nI 1) X.1.1 X.1.2.1 dX7_kindOf_124 (by decide) ?_
              refine sx_icmp_ne X (by decide) (by decide) (tgt := 154) dX7_kindOf_125 (by decide) (fun _ => ?_) (fun h => absurd h (by decide))
              refine lv_iconst (v := nI 0) X.1.1 X.1.2.1 dX7_kindOf_154 (by decide) ?_
              refine lv_istore (lv' := [(7, .int (nI 0)), (8, .int (nI 3)), (6, .int (nI (v))), (5, .int (nI (u))), (4, .int (nI (43 + 12 * c))), (0, rf G 91), (1, .int (nI (t))), (2, .int (nI (c))), (3, .int (nI 1))]) X.1.1 X.1.2.1 dX7_kindOf_155 hl (by decide) rfl (fun ls hl => ?_)
              refine lv_iinc (v := (nI (4))) (lv' := [(8, .int (nI 4)), (7, .int (nI 0)), (6, .int (nI (v))), (5, .int (nI (u))), (4, .int (nI (43 + 12 * c))), (0, rf G 91), (1, .int (nI (t))), (2, .int (nI (c))), (3, .int (nI 1))]) X.1.1 X.1.2.1 dX7_kindOf_157 hl (k := 1) rfl (by decide) (by decide) rfl (fun ls hl => ?_)
              refine lv_goto (tgt := 104) X.1.1 X.1.2.1 dX7_kindOf_160 (by decide) ?_
              refine lv_iload X.1.1 X.1.2.1 dX7_kindOf_104 (lv_at hl 0 rfl) ?_
              refine lv_iconst (v := nI 4) X.1.1 X.1.2.1 dX7_kindOf_106 (by decide) ?_
              refine sx_icmp_ge X (by decide) (by decide) (tgt := 163) dX7_kindOf_107 (by decide) (fun _ => ?_) (fun h => absurd h (by decide))
              refine lv_iload X.1.1 X.1.2.1 dX7_kindOf_163 (lv_at hl 1 rfl) ?_
              refine sx_if_eq X (by decide) (tgt := 172) dX7_kindOf_165 (by decide) (fun _ => ?_) (fun h => absurd h (by decide))
              refine lv_iconst (v := (-1)) X.1.1 X.1.2.1 dX7_kindOf_172 (by decide) ?_
              rw [hQ]
              exact sx_iret X rfl hs rfl hP dX7_kindOf_173 (⟨rfl, by unfold kindF; rw [hW, cif_f (fun q => Int32.not_lt.mpr c39 ((notA_nI hu).mp q))]; rw [cif_f (show ¬ (1 : Nat) = 0 by decide)]; rw [hDd, hSh, cif_f (by rintro (q | ⟨q, _⟩); exact Int32.not_lt.mpr c91 ((notA_nI hv).mp q); exact absurd q (by decide))]⟩)
            · refine lv_iconst (v := nI 1) X.1.1 X.1.2.1 dX7_kindOf_94 (by decide) ?_
              refine lv_goto (tgt := 99) X.1.1 X.1.2.1 dX7_kindOf_95 (by decide) ?_
              refine lv_istore (lv' := [(7, .int (nI 1)), (6, .int (nI (v))), (5, .int (nI (u))), (4, .int (nI (43 + 12 * c))), (0, rf G 91), (1, .int (nI (t))), (2, .int (nI (c))), (3, .int (nI 1))]) X.1.1 X.1.2.1 dX7_kindOf_99 hl (by decide) rfl (fun ls hl => ?_)
              refine lv_iconst (v := nI 0) X.1.1 X.1.2.1 dX7_kindOf_101 (by decide) ?_
              refine lv_istore (lv' := [(8, .int (nI 0)), (7, .int (nI 1)), (6, .int (nI (v))), (5, .int (nI (u))), (4, .int (nI (43 + 12 * c))), (0, rf G 91), (1, .int (nI (t))), (2, .int (nI (c))), (3, .int (nI 1))]) X.1.1 X.1.2.1 dX7_kindOf_102 hl (by decide) rfl (fun ls hl => ?_)
              refine lv_iload X.1.1 X.1.2.1 dX7_kindOf_104 (lv_at hl 0 rfl) ?_
              refine lv_iconst (v := nI 4) X.1.1 X.1.2.1 dX7_kindOf_106 (by decide) ?_
              refine sx_icmp_ge X (by decide) (by decide) (tgt := 163) dX7_kindOf_107 (by decide) (fun h => absurd h (by decide)) (fun _ => ?_)
              refine lv_iload X.1.1 X.1.2.1 dX7_kindOf_110 (lv_at hl 1 rfl) ?_
              refine sx_if_ne X (by decide) (tgt := 150) dX7_kindOf_112 (by decide) (fun _ => ?_) (fun h => absurd h (by decide))
              refine lv_iconst (v := nI 1) X.1.1 X.1.2.1 dX7_kindOf_150 (by decide) ?_
              refine lv_goto (tgt := 155) X.1.1 X.1.2.1 dX7_kindOf_151 (by decide) ?_
              refine lv_istore (lv' := [(7, .int (nI 1)), (8, .int (nI 0)), (6, .int (nI (v))), (5, .int (nI (u))), (4, .int (nI (43 + 12 * c))), (0, rf G 91), (1, .int (nI (t))), (2, .int (nI (c))), (3, .int (nI 1))]) X.1.1 X.1.2.1 dX7_kindOf_155 hl (by decide) rfl (fun ls hl => ?_)
              refine lv_iinc (v := (nI (1))) (lv' := [(8, .int (nI 1)), (7, .int (nI 1)), (6, .int (nI (v))), (5, .int (nI (u))), (4, .int (nI (43 + 12 * c))), (0, rf G 91), (1, .int (nI (t))), (2, .int (nI (c))), (3, .int (nI 1))]) X.1.1 X.1.2.1 dX7_kindOf_157 hl (k := 1) rfl (by decide) (by decide) rfl (fun ls hl => ?_)
              refine lv_goto (tgt := 104) X.1.1 X.1.2.1 dX7_kindOf_160 (by decide) ?_
              refine lv_iload X.1.1 X.1.2.1 dX7_kindOf_104 (lv_at hl 0 rfl) ?_
              refine lv_iconst (v := nI 4) X.1.1 X.1.2.1 dX7_kindOf_106 (by decide) ?_
              refine sx_icmp_ge X (by decide) (by decide) (tgt := 163) dX7_kindOf_107 (by decide) (fun h => absurd h (by decide)) (fun _ => ?_)
              refine lv_iload X.1.1 X.1.2.1 dX7_kindOf_110 (lv_at hl 1 rfl) ?_
              refine sx_if_ne X (by decide) (tgt := 150) dX7_kindOf_112 (by decide) (fun _ => ?_) (fun h => absurd h (by decide))
              refine lv_iconst (v := nI 1) X.1.1 X.1.2.1 dX7_kindOf_150 (by decide) ?_
              refine lv_goto (tgt := 155) X.1.1 X.1.2.1 dX7_kindOf_151 (by decide) ?_
              refine lv_istore (lv' := [(7, .int (nI 1)), (8, .int (nI 1)), (6, .int (nI (v))), (5, .int (nI (u))), (4, .int (nI (43 + 12 * c))), (0, rf G 91), (1, .int (nI (t))), (2, .int (nI (c))), (3, .int (nI 1))]) X.1.1 X.1.2.1 dX7_kindOf_155 hl (by decide) rfl (fun ls hl => ?_)
              refine lv_iinc (v := (nI (2))) (lv' := [(8, .int (nI 2)), (7, .int (nI 1)), (6, .int (nI (v))), (5, .int (nI (u))), (4, .int (nI (43 + 12 * c))), (0, rf G 91), (1, .int (nI (t))), (2, .int (nI (c))), (3, .int (nI 1))]) X.1.1 X.1.2.1 dX7_kindOf_157 hl (k := 1) rfl (by decide) (by decide) rfl (fun ls hl => ?_)
              refine lv_goto (tgt := 104) X.1.1 X.1.2.1 dX7_kindOf_160 (by decide) ?_
              refine lv_iload X.1.1 X.1.2.1 dX7_kindOf_104 (lv_at hl 0 rfl) ?_
              refine lv_iconst (v := nI 4) X.1.1 X.1.2.1 dX7_kindOf_106 (by decide) ?_
              refine sx_icmp_ge X (by decide) (by decide) (tgt := 163) dX7_kindOf_107 (by decide) (fun h => absurd h (by decide)) (fun _ => ?_)
              refine lv_iload X.1.1 X.1.2.1 dX7_kindOf_110 (lv_at hl 1 rfl) ?_
              refine sx_if_ne X (by decide) (tgt := 150) dX7_kindOf_112 (by decide) (fun _ => ?_) (fun h => absurd h (by decide))
              refine lv_iconst (v := nI 1) X.1.1 X.1.2.1 dX7_kindOf_150 (by decide) ?_
              refine lv_goto (tgt := 155) X.1.1 X.1.2.1 dX7_kindOf_151 (by decide) ?_
              refine lv_istore (lv' := [(7, .int (nI 1)), (8, .int (nI 2)), (6, .int (nI (v))), (5, .int (nI (u))), (4, .int (nI (43 + 12 * c))), (0, rf G 91), (1, .int (nI (t))), (2, .int (nI (c))), (3, .int (nI 1))]) X.1.1 X.1.2.1 dX7_kindOf_155 hl (by decide) rfl (fun ls hl => ?_)
              refine lv_iinc (v := (nI (3))) (lv' := [(8, .int (nI 3)), (7, .int (nI 1)), (6, .int (nI (v))), (5, .int (nI (u))), (4, .int (nI (43 + 12 * c))), (0, rf G 91), (1, .int (nI (t))), (2, .int (nI (c))), (3, .int (nI 1))]) X.1.1 X.1.2.1 dX7_kindOf_157 hl (k := 1) rfl (by decide) (by decide) rfl (fun ls hl => ?_)
              refine lv_goto (tgt := 104) X.1.1 X.1.2.1 dX7_kindOf_160 (by decide) ?_
              refine lv_iload X.1.1 X.1.2.1 dX7_kindOf_104 (lv_at hl 0 rfl) ?_
              refine lv_iconst (v := nI 4) X.1.1 X.1.2.1 dX7_kindOf_106 (by decide) ?_
              refine sx_icmp_ge X (by decide) (by decide) (tgt := 163) dX7_kindOf_107 (by decide) (fun h => absurd h (by decide)) (fun _ => ?_)
              refine lv_iload X.1.1 X.1.2.1 dX7_kindOf_110 (lv_at hl 1 rfl) ?_
              refine sx_if_ne X (by decide) (tgt := 150) dX7_kindOf_112 (by decide) (fun _ => ?_) (fun h => absurd h (by decide))
              refine lv_iconst (v := nI 1) X.1.1 X.1.2.1 dX7_kindOf_150 (by decide) ?_
              refine lv_goto (tgt := 155) X.1.1 X.1.2.1 dX7_kindOf_151 (by decide) ?_
              refine lv_istore (lv' := [(7, .int (nI 1)), (8, .int (nI 3)), (6, .int (nI (v))), (5, .int (nI (u))), (4, .int (nI (43 + 12 * c))), (0, rf G 91), (1, .int (nI (t))), (2, .int (nI (c))), (3, .int (nI 1))]) X.1.1 X.1.2.1 dX7_kindOf_155 hl (by decide) rfl (fun ls hl => ?_)
              refine lv_iinc (v := (nI (4))) (lv' := [(8, .int (nI 4)), (7, .int (nI 1)), (6, .int (nI (v))), (5, .int (nI (u))), (4, .int (nI (43 + 12 * c))), (0, rf G 91), (1, .int (nI (t))), (2, .int (nI (c))), (3, .int (nI 1))]) X.1.1 X.1.2.1 dX7_kindOf_157 hl (k := 1) rfl (by decide) (by decide) rfl (fun ls hl => ?_)
              refine lv_goto (tgt := 104) X.1.1 X.1.2.1 dX7_kindOf_160 (by decide) ?_
              refine lv_iload X.1.1 X.1.2.1 dX7_kindOf_104 (lv_at hl 0 rfl) ?_
              refine lv_iconst (v := nI 4) X.1.1 X.1.2.1 dX7_kindOf_106 (by decide) ?_
              refine sx_icmp_ge X (by decide) (by decide) (tgt := 163) dX7_kindOf_107 (by decide) (fun _ => ?_) (fun h => absurd h (by decide))
              refine lv_iload X.1.1 X.1.2.1 dX7_kindOf_163 (lv_at hl 1 rfl) ?_
              refine sx_if_eq X (by decide) (tgt := 172) dX7_kindOf_165 (by decide) (fun h => absurd h (by decide)) (fun _ => ?_)
              refine lv_iconst (v := nI 2) X.1.1 X.1.2.1 dX7_kindOf_168 (by decide) ?_
              refine lv_goto (tgt := 173) X.1.1 X.1.2.1 dX7_kindOf_169 (by decide) ?_
              rw [hQ]
              exact sx_iret X rfl hs rfl hP dX7_kindOf_173 (⟨rfl, by unfold kindF; rw [hW, cif_f (fun q => Int32.not_lt.mpr c39 ((notA_nI hu).mp q))]; rw [cif_f (show ¬ (1 : Nat) = 0 by decide)]; rw [hDd, cif_t (Or.inl ((notA_nI hv).mpr (Int32.not_le.mp c91)))]⟩)
        · refine lv_iload_n X.1.1 X.1.2.1 dX7_kindOf_42 rfl (lv_at hl 5 rfl) ?_
          refine sx_if_eq X (by decide) (tgt := 50) dX7_kindOf_43 (by decide) (fun h => absurd h (by decide)) (fun _ => ?_)
          refine lv_iconst (v := nI 0) X.1.1 X.1.2.1 dX7_kindOf_46 (by decide) ?_
          refine lv_goto (tgt := 51) X.1.1 X.1.2.1 dX7_kindOf_47 (by decide) ?_
          rw [hQ]
          exact sx_iret X rfl hs rfl hP dX7_kindOf_51 (⟨rfl, by unfold kindF; rw [hW, cif_t ((notA_nI hu).mpr (Int32.not_le.mp c39))]; rw [cif_f (show ¬ (1 : Nat) = 0 by decide)]⟩)
      · refine lv_iload_n X.1.1 X.1.2.1 dX7_kindOf_0 rfl (lv_at hl 2 rfl) ?_
        refine sx_csI (As := [.int (nI (c))]) (rest := []) X (mX7_of l (c := c)) gX7_kindOf_X7_of rfl ys_X7_of ⟨Nat.le_of_ble_eq_true rfl, Nat.le_of_ble_eq_true rfl⟩ hl.1 rfl (Nat.le_of_ble_eq_true rfl) dX7_kindOf_1 ⟨Nat.le_of_ble_eq_true rfl, Nat.le_of_ble_eq_true rfl⟩ hs rfl hP (fun r20 F20 H20 l20 hp hP => ?_)
        obtain ⟨rfl, rfl⟩ := hp
        refine lv_istore (lv' := [(4, .int (nI (43 + 12 * c))), (0, rf G 91), (1, .int (nI (t))), (2, .int (nI (c))), (3, .int (nI 1))]) X.1.1 X.1.2.1 dX7_kindOf_4 hl (by decide) rfl (fun ls hl => ?_)
        refine lv_aload_n X.1.1 X.1.2.1 dX7_kindOf_6 rfl (lv_at hl 1 rfl) ?_
        refine sx_get X hP in_X7_kindOf_X7 h91 (by decide) rfl 0 (by decide) lk_X7_kindOf_fieldLink_RX7_7_RaceWatchModel_w_I rfl dX7_kindOf_7 ?_
        refine lv_iload X.1.1 X.1.2.1 dX7_kindOf_10 (lv_at hl 0 rfl) ?_
        refine lv_iconst (v := nI 0) X.1.1 X.1.2.1 dX7_kindOf_12 (by decide) ?_
        refine sx_addN X (43 + 12 * c) (by omega) dX7_kindOf_13 ?_
        refine sx_ald X hP h92 (by decide) (43 + 12 * c) (by omega) (by decide) dX7_kindOf_14 ?_
        rw [hW]
        refine lv_istore (lv' := [(5, .int (nI (u))), (4, .int (nI (43 + 12 * c))), (0, rf G 91), (1, .int (nI (t))), (2, .int (nI (c))), (3, .int (nI 1))]) X.1.1 X.1.2.1 dX7_kindOf_15 hl (by decide) rfl (fun ls hl => ?_)
        refine lv_iload X.1.1 X.1.2.1 dX7_kindOf_17 (lv_at hl 0 rfl) ?_
        refine lv_iconst (v := (-1)) X.1.1 X.1.2.1 dX7_kindOf_19 (by decide) ?_
        refine lv_icmp_eq X.1.1 X.1.2.1 (tgt := 52) dX7_kindOf_20 (by decide) (fun h => absurd h (sx_m1 (by omega))) (fun _ => ?_)
        refine lv_aload_n X.1.1 X.1.2.1 dX7_kindOf_23 rfl (lv_at hl 2 rfl) ?_
        refine lv_iload_n X.1.1 X.1.2.1 dX7_kindOf_24 rfl (lv_at hl 3 rfl) ?_
        refine lv_iload X.1.1 X.1.2.1 dX7_kindOf_25 (lv_at hl 0 rfl) ?_
        refine sx_cvI (As := [.int (nI (t)), .int (nI (u))]) (rest := []) X (mX7_number l (t := t) (u := u) (by omega) (by omega) h91 h92) gX7_kindOf_X7_number rfl yv_X7_number ⟨Nat.le_of_ble_eq_true rfl, Nat.le_of_ble_eq_true rfl⟩ h91 (by decide) rfl rfl hl.1 rfl (Nat.le_of_ble_eq_true rfl) dX7_kindOf_27 ⟨Nat.le_of_ble_eq_true rfl, Nat.le_of_ble_eq_true rfl⟩ hs rfl hP (fun r21 F21 H21 l21 hp hP => ?_)
        obtain ⟨rfl, rfl⟩ := hp
        refine lv_aload_n X.1.1 X.1.2.1 dX7_kindOf_30 rfl (lv_at hl 2 rfl) ?_
        refine sx_get X hP in_X7_kindOf_X7 h91 (by decide) rfl 0 (by decide) lk_X7_kindOf_fieldLink_RX7_7_RaceWatchModel_w_I rfl dX7_kindOf_31 ?_
        refine lv_iload X.1.1 X.1.2.1 dX7_kindOf_34 (lv_at hl 1 rfl) ?_
        refine lv_iconst (v := nI 1) X.1.1 X.1.2.1 dX7_kindOf_36 (by decide) ?_
        refine sx_addN X (44 + 12 * c) (by omega) dX7_kindOf_37 ?_
        refine sx_ald X hP h92 (by decide) (44 + 12 * c) (by omega) (by decide) dX7_kindOf_38 ?_
        refine lv_icmp_ge X.1.1 X.1.2.1 (tgt := 52) dX7_kindOf_39 (by decide) (fun c39 => ?_) (fun c39 => ?_)
        · refine lv_iload_n X.1.1 X.1.2.1 dX7_kindOf_52 rfl (lv_at hl 5 rfl) ?_
          refine sx_if_ne X (by decide) (tgt := 58) dX7_kindOf_53 (by decide) (fun _ => ?_) (fun h => absurd h (by decide))
          refine lv_aload_n X.1.1 X.1.2.1 dX7_kindOf_58 rfl (lv_at hl 2 rfl) ?_
          refine sx_get X hP in_X7_kindOf_X7 h91 (by decide) rfl 0 (by decide) lk_X7_kindOf_fieldLink_RX7_7_RaceWatchModel_w_I rfl dX7_kindOf_59 ?_
          refine lv_iload X.1.1 X.1.2.1 dX7_kindOf_62 (lv_at hl 1 rfl) ?_
          refine lv_iconst (v := nI 2) X.1.1 X.1.2.1 dX7_kindOf_64 (by decide) ?_
          refine sx_addN X (45 + 12 * c) (by omega) dX7_kindOf_65 ?_
          refine sx_ald X hP h92 (by decide) (45 + 12 * c) (by omega) (by decide) dX7_kindOf_66 ?_
          rw [hDd]
          refine lv_istore (lv' := [(6, .int (-1)), (5, .int (nI (u))), (4, .int (nI (43 + 12 * c))), (0, rf G 91), (1, .int (nI (t))), (2, .int (nI (c))), (3, .int (nI 1))]) X.1.1 X.1.2.1 dX7_kindOf_67 hl (by decide) rfl (fun ls hl => ?_)
          refine lv_iload X.1.1 X.1.2.1 dX7_kindOf_69 (lv_at hl 0 rfl) ?_
          refine lv_iconst (v := (-1)) X.1.1 X.1.2.1 dX7_kindOf_71 (by decide) ?_
          refine lv_icmp_eq X.1.1 X.1.2.1 (tgt := 98) dX7_kindOf_72 (by decide) (fun _ => ?_) (fun h => absurd rfl h)
          refine lv_iconst (v := nI 0) X.1.1 X.1.2.1 dX7_kindOf_98 (by decide) ?_
          refine lv_istore (lv' := [(7, .int (nI 0)), (6, .int (-1)), (5, .int (nI (u))), (4, .int (nI (43 + 12 * c))), (0, rf G 91), (1, .int (nI (t))), (2, .int (nI (c))), (3, .int (nI 1))]) X.1.1 X.1.2.1 dX7_kindOf_99 hl (by decide) rfl (fun ls hl => ?_)
          refine lv_iconst (v := nI 0) X.1.1 X.1.2.1 dX7_kindOf_101 (by decide) ?_
          refine lv_istore (lv' := [(8, .int (nI 0)), (7, .int (nI 0)), (6, .int (-1)), (5, .int (nI (u))), (4, .int (nI (43 + 12 * c))), (0, rf G 91), (1, .int (nI (t))), (2, .int (nI (c))), (3, .int (nI 1))]) X.1.1 X.1.2.1 dX7_kindOf_102 hl (by decide) rfl (fun ls hl => ?_)
          refine lv_iload X.1.1 X.1.2.1 dX7_kindOf_104 (lv_at hl 0 rfl) ?_
          refine lv_iconst (v := nI 4) X.1.1 X.1.2.1 dX7_kindOf_106 (by decide) ?_
          refine sx_icmp_ge X (by decide) (by decide) (tgt := 163) dX7_kindOf_107 (by decide) (fun h => absurd h (by decide)) (fun _ => ?_)
          refine lv_iload X.1.1 X.1.2.1 dX7_kindOf_110 (lv_at hl 1 rfl) ?_
          refine sx_if_ne X (by decide) (tgt := 150) dX7_kindOf_112 (by decide) (fun h => absurd h (by decide)) (fun _ => ?_)
          refine lv_aload_n X.1.1 X.1.2.1 dX7_kindOf_115 rfl (lv_at hl 5 rfl) ?_
          refine sx_get X hP in_X7_kindOf_X7 h91 (by decide) rfl 0 (by decide) lk_X7_kindOf_fieldLink_RX7_7_RaceWatchModel_w_I rfl dX7_kindOf_116 ?_
          refine lv_iload X.1.1 X.1.2.1 dX7_kindOf_119 (lv_at hl 4 rfl) ?_
          refine lv_iconst (v := nI 4) X.1.1 X.1.2.1 dX7_kindOf_121 (by decide) ?_
          refine sx_addN X (47 + 12 * c) (by omega) dX7_kindOf_122 ?_
          refine sx_ald X hP h92 (by decide) (47 + 12 * c) (by omega) (by decide) dX7_kindOf_123 ?_
          rw [hSh]
          refine lv_iconst (v := nI 1) X.1.1 X.1.2.1 dX7_kindOf_124 (by decide) ?_
          refine sx_icmp_ne X (by decide) (by decide) (tgt := 154) dX7_kindOf_125 (by decide) (fun h => absurd h (by decide)) (fun _ => ?_)
          refine lv_aload_n X.1.1 X.1.2.1 dX7_kindOf_128 rfl (lv_at hl 5 rfl) ?_
          refine lv_iload_n X.1.1 X.1.2.1 dX7_kindOf_129 rfl (lv_at hl 6 rfl) ?_
          refine lv_iload X.1.1 X.1.2.1 dX7_kindOf_130 (lv_at hl 0 rfl) ?_
          refine sx_cvI (As := [.int (nI (t)), .int (nI 0)]) (rest := []) X (mX7_number l (t := t) (u := 0) (by omega) (by omega) h91 h92) gX7_kindOf_X7_number rfl yv_X7_number ⟨Nat.le_of_ble_eq_true rfl, Nat.le_of_ble_eq_true rfl⟩ h91 (by decide) rfl rfl hl.1 rfl (Nat.le_of_ble_eq_true rfl) dX7_kindOf_132 ⟨Nat.le_of_ble_eq_true rfl, Nat.le_of_ble_eq_true rfl⟩ hs rfl hP (fun r22 F22 H22 l22 hp hP => ?_)
          obtain ⟨rfl, rfl⟩ := hp
          rw [show w (4 + 4 * t + 0) = w (4 + 4 * t) from congrArg _ (by omega)]
          refine lv_aload_n X.1.1 X.1.2.1 dX7_kindOf_135 rfl (lv_at hl 5 rfl) ?_
          refine sx_get X hP in_X7_kindOf_X7 h91 (by decide) rfl 0 (by decide) lk_X7_kindOf_fieldLink_RX7_7_RaceWatchModel_w_I rfl dX7_kindOf_136 ?_
          refine lv_iload X.1.1 X.1.2.1 dX7_kindOf_139 (lv_at hl 4 rfl) ?_
          refine lv_iconst (v := nI 5) X.1.1 X.1.2.1 dX7_kindOf_141 (by decide) ?_
          refine sx_addN X (48 + 12 * c) (by omega) dX7_kindOf_142 ?_
          refine lv_iload X.1.1 X.1.2.1 dX7_kindOf_143 (lv_at hl 0 rfl) ?_
          refine sx_addN X (48 + 12 * c) (by omega) dX7_kindOf_145 ?_
          refine sx_ald X hP h92 (by decide) (48 + 12 * c) (by omega) (by decide) dX7_kindOf_146 ?_
          refine lv_icmp_ge X.1.1 X.1.2.1 (tgt := 154) dX7_kindOf_147 (by decide) (fun c147 => ?_) (fun c147 => ?_)
          · refine lv_iconst (v := nI 0) X.1.1 X.1.2.1 dX7_kindOf_154 (by decide) ?_
            refine lv_istore (lv' := [(7, .int (nI 0)), (8, .int (nI 0)), (6, .int (-1)), (5, .int (nI (u))), (4, .int (nI (43 + 12 * c))), (0, rf G 91), (1, .int (nI (t))), (2, .int (nI (c))), (3, .int (nI 1))]) X.1.1 X.1.2.1 dX7_kindOf_155 hl (by decide) rfl (fun ls hl => ?_)
            refine lv_iinc (v := (nI (1))) (lv' := [(8, .int (nI 1)), (7, .int (nI 0)), (6, .int (-1)), (5, .int (nI (u))), (4, .int (nI (43 + 12 * c))), (0, rf G 91), (1, .int (nI (t))), (2, .int (nI (c))), (3, .int (nI 1))]) X.1.1 X.1.2.1 dX7_kindOf_157 hl (k := 1) rfl (by decide) (by decide) rfl (fun ls hl => ?_)
            refine lv_goto (tgt := 104) X.1.1 X.1.2.1 dX7_kindOf_160 (by decide) ?_
            refine lv_iload X.1.1 X.1.2.1 dX7_kindOf_104 (lv_at hl 0 rfl) ?_
            refine lv_iconst (v := nI 4) X.1.1 X.1.2.1 dX7_kindOf_106 (by decide) ?_
            refine sx_icmp_ge X (by decide) (by decide) (tgt := 163) dX7_kindOf_107 (by decide) (fun h => absurd h (by decide)) (fun _ => ?_)
            refine lv_iload X.1.1 X.1.2.1 dX7_kindOf_110 (lv_at hl 1 rfl) ?_
            refine sx_if_ne X (by decide) (tgt := 150) dX7_kindOf_112 (by decide) (fun h => absurd h (by decide)) (fun _ => ?_)
            refine lv_aload_n X.1.1 X.1.2.1 dX7_kindOf_115 rfl (lv_at hl 5 rfl) ?_
            refine sx_get X hP in_X7_kindOf_X7 h91 (by decide) rfl 0 (by decide) lk_X7_kindOf_fieldLink_RX7_7_RaceWatchModel_w_I rfl dX7_kindOf_116 ?_
            refine lv_iload X.1.1 X.1.2.1 dX7_kindOf_119 (lv_at hl 4 rfl) ?_
            refine lv_iconst (v := nI 4) X.1.1 X.1.2.1 dX7_kindOf_121 (by decide) ?_
            refine sx_addN X (47 + 12 * c) (by omega) dX7_kindOf_122 ?_
            refine sx_ald X hP h92 (by decide) (47 + 12 * c) (by omega) (by decide) dX7_kindOf_123 ?_
            rw [hSh]
            refine lv_iconst (v := nI 1) X.1.1 X.1.2.1 dX7_kindOf_124 (by decide) ?_
            refine sx_icmp_ne X (by decide) (by decide) (tgt := 154) dX7_kindOf_125 (by decide) (fun h => absurd h (by decide)) (fun _ => ?_)
            refine lv_aload_n X.1.1 X.1.2.1 dX7_kindOf_128 rfl (lv_at hl 5 rfl) ?_
            refine lv_iload_n X.1.1 X.1.2.1 dX7_kindOf_129 rfl (lv_at hl 6 rfl) ?_
            refine lv_iload X.1.1 X.1.2.1 dX7_kindOf_130 (lv_at hl 0 rfl) ?_
            refine sx_cvI (As := [.int (nI (t)), .int (nI 1)]) (rest := []) X (mX7_number l (t := t) (u := 1) (by omega) (by omega) h91 h92) gX7_kindOf_X7_number rfl yv_X7_number ⟨Nat.le_of_ble_eq_true rfl, Nat.le_of_ble_eq_true rfl⟩ h91 (by decide) rfl rfl hl.1 rfl (Nat.le_of_ble_eq_true rfl) dX7_kindOf_132 ⟨Nat.le_of_ble_eq_true rfl, Nat.le_of_ble_eq_true rfl⟩ hs rfl hP (fun r23 F23 H23 l23 hp hP => ?_)
            obtain ⟨rfl, rfl⟩ := hp
            rw [show w (4 + 4 * t + 1) = w (5 + 4 * t) from congrArg _ (by omega)]
            refine lv_aload_n X.1.1 X.1.2.1 dX7_kindOf_135 rfl (lv_at hl 5 rfl) ?_
            refine sx_get X hP in_X7_kindOf_X7 h91 (by decide) rfl 0 (by decide) lk_X7_kindOf_fieldLink_RX7_7_RaceWatchModel_w_I rfl dX7_kindOf_136 ?_
            refine lv_iload X.1.1 X.1.2.1 dX7_kindOf_139 (lv_at hl 4 rfl) ?_
            refine lv_iconst (v := nI 5) X.1.1 X.1.2.1 dX7_kindOf_141 (by decide) ?_
            refine sx_addN X (48 + 12 * c) (by omega) dX7_kindOf_142 ?_
            refine lv_iload X.1.1 X.1.2.1 dX7_kindOf_143 (lv_at hl 0 rfl) ?_
            refine sx_addN X (49 + 12 * c) (by omega) dX7_kindOf_145 ?_
            refine sx_ald X hP h92 (by decide) (49 + 12 * c) (by omega) (by decide) dX7_kindOf_146 ?_
            refine lv_icmp_ge X.1.1 X.1.2.1 (tgt := 154) dX7_kindOf_147 (by decide) (fun c147_24 => ?_) (fun c147_24 => ?_)
            · refine lv_iconst (v := nI 0) X.1.1 X.1.2.1 dX7_kindOf_154 (by decide) ?_
              refine lv_istore (lv' := [(7, .int (nI 0)), (8, .int (nI 1)), (6, .int (-1)), (5, .int (nI (u))), (4, .int (nI (43 + 12 * c))), (0, rf G 91), (1, .int (nI (t))), (2, .int (nI (c))), (3, .int (nI 1))]) X.1.1 X.1.2.1 dX7_kindOf_155 hl (by decide) rfl (fun ls hl => ?_)
              refine lv_iinc (v := (nI (2))) (lv' := [(8, .int (nI 2)), (7, .int (nI 0)), (6, .int (-1)), (5, .int (nI (u))), (4, .int (nI (43 + 12 * c))), (0, rf G 91), (1, .int (nI (t))), (2, .int (nI (c))), (3, .int (nI 1))]) X.1.1 X.1.2.1 dX7_kindOf_157 hl (k := 1) rfl (by decide) (by decide) rfl (fun ls hl => ?_)
              refine lv_goto (tgt := 104) X.1.1 X.1.2.1 dX7_kindOf_160 (by decide) ?_
              refine lv_iload X.1.1 X.1.2.1 dX7_kindOf_104 (lv_at hl 0 rfl) ?_
              refine lv_iconst (v := nI 4) X.1.1 X.1.2.1 dX7_kindOf_106 (by decide) ?_
              refine sx_icmp_ge X (by decide) (by decide) (tgt := 163) dX7_kindOf_107 (by decide) (fun h => absurd h (by decide)) (fun _ => ?_)
              refine lv_iload X.1.1 X.1.2.1 dX7_kindOf_110 (lv_at hl 1 rfl) ?_
              refine sx_if_ne X (by decide) (tgt := 150) dX7_kindOf_112 (by decide) (fun h => absurd h (by decide)) (fun _ => ?_)
              refine lv_aload_n X.1.1 X.1.2.1 dX7_kindOf_115 rfl (lv_at hl 5 rfl) ?_
              refine sx_get X hP in_X7_kindOf_X7 h91 (by decide) rfl 0 (by decide) lk_X7_kindOf_fieldLink_RX7_7_RaceWatchModel_w_I rfl dX7_kindOf_116 ?_
              refine lv_iload X.1.1 X.1.2.1 dX7_kindOf_119 (lv_at hl 4 rfl) ?_
              refine lv_iconst (v := nI 4) X.1.1 X.1.2.1 dX7_kindOf_121 (by decide) ?_
              refine sx_addN X (47 + 12 * c) (by omega) dX7_kindOf_122 ?_
              refine sx_ald X hP h92 (by decide) (47 + 12 * c) (by omega) (by decide) dX7_kindOf_123 ?_
              rw [hSh]
              refine lv_iconst (v := nI 1) X.1.1 X.1.2.1 dX7_kindOf_124 (by decide) ?_
              refine sx_icmp_ne X (by decide) (by decide) (tgt := 154) dX7_kindOf_125 (by decide) (fun h => absurd h (by decide)) (fun _ => ?_)
              refine lv_aload_n X.1.1 X.1.2.1 dX7_kindOf_128 rfl (lv_at hl 5 rfl) ?_
              refine lv_iload_n X.1.1 X.1.2.1 dX7_kindOf_129 rfl (lv_at hl 6 rfl) ?_
              refine lv_iload X.1.1 X.1.2.1 dX7_kindOf_130 (lv_at hl 0 rfl) ?_
              refine sx_cvI (As := [.int (nI (t)), .int (nI 2)]) (rest := []) X (mX7_number l (t := t) (u := 2) (by omega) (by omega) h91 h92) gX7_kindOf_X7_number rfl yv_X7_number ⟨Nat.le_of_ble_eq_true rfl, Nat.le_of_ble_eq_true rfl⟩ h91 (by decide) rfl rfl hl.1 rfl (Nat.le_of_ble_eq_true rfl) dX7_kindOf_132 ⟨Nat.le_of_ble_eq_true rfl, Nat.le_of_ble_eq_true rfl⟩ hs rfl hP (fun r25 F25 H25 l25 hp hP => ?_)
              obtain ⟨rfl, rfl⟩ := hp
              rw [show w (4 + 4 * t + 2) = w (6 + 4 * t) from congrArg _ (by omega)]
              refine lv_aload_n X.1.1 X.1.2.1 dX7_kindOf_135 rfl (lv_at hl 5 rfl) ?_
              refine sx_get X hP in_X7_kindOf_X7 h91 (by decide) rfl 0 (by decide) lk_X7_kindOf_fieldLink_RX7_7_RaceWatchModel_w_I rfl dX7_kindOf_136 ?_
              refine lv_iload X.1.1 X.1.2.1 dX7_kindOf_139 (lv_at hl 4 rfl) ?_
              refine lv_iconst (v := nI 5) X.1.1 X.1.2.1 dX7_kindOf_141 (by decide) ?_
              refine sx_addN X (48 + 12 * c) (by omega) dX7_kindOf_142 ?_
              refine lv_iload X.1.1 X.1.2.1 dX7_kindOf_143 (lv_at hl 0 rfl) ?_
              refine sx_addN X (50 + 12 * c) (by omega) dX7_kindOf_145 ?_
              refine sx_ald X hP h92 (by decide) (50 + 12 * c) (by omega) (by decide) dX7_kindOf_146 ?_
              refine lv_icmp_ge X.1.1 X.1.2.1 (tgt := 154) dX7_kindOf_147 (by decide) (fun c147_26 => ?_) (fun c147_26 => ?_)
              · refine lv_iconst (v := nI 0) X.1.1 X.1.2.1 dX7_kindOf_154 (by decide) ?_
                refine lv_istore (lv' := [(7, .int (nI 0)), (8, .int (nI 2)), (6, .int (-1)), (5, .int (nI (u))), (4, .int (nI (43 + 12 * c))), (0, rf G 91), (1, .int (nI (t))), (2, .int (nI (c))), (3, .int (nI 1))]) X.1.1 X.1.2.1 dX7_kindOf_155 hl (by decide) rfl (fun ls hl => ?_)
                refine lv_iinc (v := (nI (3))) (lv' := [(8, .int (nI 3)), (7, .int (nI 0)), (6, .int (-1)), (5, .int (nI (u))), (4, .int (nI (43 + 12 * c))), (0, rf G 91), (1, .int (nI (t))), (2, .int (nI (c))), (3, .int (nI 1))]) X.1.1 X.1.2.1 dX7_kindOf_157 hl (k := 1) rfl (by decide) (by decide) rfl (fun ls hl => ?_)
                refine lv_goto (tgt := 104) X.1.1 X.1.2.1 dX7_kindOf_160 (by decide) ?_
                refine lv_iload X.1.1 X.1.2.1 dX7_kindOf_104 (lv_at hl 0 rfl) ?_
                refine lv_iconst (v := nI 4) X.1.1 X.1.2.1 dX7_kindOf_106 (by decide) ?_
                refine sx_icmp_ge X (by decide) (by decide) (tgt := 163) dX7_kindOf_107 (by decide) (fun h => absurd h (by decide)) (fun _ => ?_)
                refine lv_iload X.1.1 X.1.2.1 dX7_kindOf_110 (lv_at hl 1 rfl) ?_
                refine sx_if_ne X (by decide) (tgt := 150) dX7_kindOf_112 (by decide) (fun h => absurd h (by decide)) (fun _ => ?_)
                refine lv_aload_n X.1.1 X.1.2.1 dX7_kindOf_115 rfl (lv_at hl 5 rfl) ?_
                refine sx_get X hP in_X7_kindOf_X7 h91 (by decide) rfl 0 (by decide) lk_X7_kindOf_fieldLink_RX7_7_RaceWatchModel_w_I rfl dX7_kindOf_116 ?_
                refine lv_iload X.1.1 X.1.2.1 dX7_kindOf_119 (lv_at hl 4 rfl) ?_
                refine lv_iconst (v := nI 4) X.1.1 X.1.2.1 dX7_kindOf_121 (by decide) ?_
                refine sx_addN X (47 + 12 * c) (by omega) dX7_kindOf_122 ?_
                refine sx_ald X hP h92 (by decide) (47 + 12 * c) (by omega) (by decide) dX7_kindOf_123 ?_
                rw [hSh]
                refine lv_iconst (v := nI 1) X.1.1 X.1.2.1 dX7_kindOf_124 (by decide) ?_
                refine sx_icmp_ne X (by decide) (by decide) (tgt := 154) dX7_kindOf_125 (by decide) (fun h => absurd h (by decide)) (fun _ => ?_)
                refine lv_aload_n X.1.1 X.1.2.1 dX7_kindOf_128 rfl (lv_at hl 5 rfl) ?_
                refine lv_iload_n X.1.1 X.1.2.1 dX7_kindOf_129 rfl (lv_at hl 6 rfl) ?_
                refine lv_iload X.1.1 X.1.2.1 dX7_kindOf_130 (lv_at hl 0 rfl) ?_
                refine sx_cvI (As := [.int (nI (t)), .int (nI 3)]) (rest := []) X (mX7_number l (t := t) (u := 3) (by omega) (by omega) h91 h92) gX7_kindOf_X7_number rfl yv_X7_number ⟨Nat.le_of_ble_eq_true rfl, Nat.le_of_ble_eq_true rfl⟩ h91 (by decide) rfl rfl hl.1 rfl (Nat.le_of_ble_eq_true rfl) dX7_kindOf_132 ⟨Nat.le_of_ble_eq_true rfl, Nat.le_of_ble_eq_true rfl⟩ hs rfl hP (fun r27 F27 H27 l27 hp hP => ?_)
                obtain ⟨rfl, rfl⟩ := hp
                rw [show w (4 + 4 * t + 3) = w (7 + 4 * t) from congrArg _ (by omega)]
                refine lv_aload_n X.1.1 X.1.2.1 dX7_kindOf_135 rfl (lv_at hl 5 rfl) ?_
                refine sx_get X hP in_X7_kindOf_X7 h91 (by decide) rfl 0 (by decide) lk_X7_kindOf_fieldLink_RX7_7_RaceWatchModel_w_I rfl dX7_kindOf_136 ?_
                refine lv_iload X.1.1 X.1.2.1 dX7_kindOf_139 (lv_at hl 4 rfl) ?_
                refine lv_iconst (v := nI 5) X.1.1 X.1.2.1 dX7_kindOf_141 (by decide) ?_
                refine sx_addN X (48 + 12 * c) (by omega) dX7_kindOf_142 ?_
                refine lv_iload X.1.1 X.1.2.1 dX7_kindOf_143 (lv_at hl 0 rfl) ?_
                refine sx_addN X (51 + 12 * c) (by omega) dX7_kindOf_145 ?_
                refine sx_ald X hP h92 (by decide) (51 + 12 * c) (by omega) (by decide) dX7_kindOf_146 ?_
                refine lv_icmp_ge X.1.1 X.1.2.1 (tgt := 154) dX7_kindOf_147 (by decide) (fun c147_28 => ?_) (fun c147_28 => ?_)
                · refine lv_iconst (v := nI 0) X.1.1 X.1.2.1 dX7_kindOf_154 (by decide) ?_
                  refine lv_istore (lv' := [(7, .int (nI 0)), (8, .int (nI 3)), (6, .int (-1)), (5, .int (nI (u))), (4, .int (nI (43 + 12 * c))), (0, rf G 91), (1, .int (nI (t))), (2, .int (nI (c))), (3, .int (nI 1))]) X.1.1 X.1.2.1 dX7_kindOf_155 hl (by decide) rfl (fun ls hl => ?_)
                  refine lv_iinc (v := (nI (4))) (lv' := [(8, .int (nI 4)), (7, .int (nI 0)), (6, .int (-1)), (5, .int (nI (u))), (4, .int (nI (43 + 12 * c))), (0, rf G 91), (1, .int (nI (t))), (2, .int (nI (c))), (3, .int (nI 1))]) X.1.1 X.1.2.1 dX7_kindOf_157 hl (k := 1) rfl (by decide) (by decide) rfl (fun ls hl => ?_)
                  refine lv_goto (tgt := 104) X.1.1 X.1.2.1 dX7_kindOf_160 (by decide) ?_
                  refine lv_iload X.1.1 X.1.2.1 dX7_kindOf_104 (lv_at hl 0 rfl) ?_
                  refine lv_iconst (v := nI 4) X.1.1 X.1.2.1 dX7_kindOf_106 (by decide) ?_
                  refine sx_icmp_ge X (by decide) (by decide) (tgt := 163) dX7_kindOf_107 (by decide) (fun _ => ?_) (fun h => absurd h (by decide))
                  refine lv_iload X.1.1 X.1.2.1 dX7_kindOf_163 (lv_at hl 1 rfl) ?_
                  refine sx_if_eq X (by decide) (tgt := 172) dX7_kindOf_165 (by decide) (fun _ => ?_) (fun h => absurd h (by decide))
                  refine lv_iconst (v := (-1)) X.1.1 X.1.2.1 dX7_kindOf_172 (by decide) ?_
                  rw [hQ]
                  exact sx_iret X rfl hs rfl hP dX7_kindOf_173 (⟨rfl, by unfold kindF; rw [hW, cif_f (fun q => Int32.not_lt.mpr c39 ((notA_nI hu).mp q))]; rw [cif_f (show ¬ (1 : Nat) = 0 by decide)]; rw [hDd, cif_f (by rintro (q | ⟨_, q⟩); exact notA_no q; rcases q with q | q | q | q; exact Int32.not_lt.mpr c147 q; exact Int32.not_lt.mpr c147_24 q; exact Int32.not_lt.mpr c147_26 q; exact Int32.not_lt.mpr c147_28 q)]⟩)
                · refine lv_iconst (v := nI 1) X.1.1 X.1.2.1 dX7_kindOf_150 (by decide) ?_
                  refine lv_goto (tgt := 155) X.1.1 X.1.2.1 dX7_kindOf_151 (by decide) ?_
                  refine lv_istore (lv' := [(7, .int (nI 1)), (8, .int (nI 3)), (6, .int (-1)), (5, .int (nI (u))), (4, .int (nI (43 + 12 * c))), (0, rf G 91), (1, .int (nI (t))), (2, .int (nI (c))), (3, .int (nI 1))]) X.1.1 X.1.2.1 dX7_kindOf_155 hl (by decide) rfl (fun ls hl => ?_)
                  refine lv_iinc (v := (nI (4))) (lv' := [(8, .int (nI 4)), (7, .int (nI 1)), (6, .int (-1)), (5, .int (nI (u))), (4, .int (nI (43 + 12 * c))), (0, rf G 91), (1, .int (nI (t))), (2, .int (nI (c))), (3, .int (nI 1))]) X.1.1 X.1.2.1 dX7_kindOf_157 hl (k := 1) rfl (by decide) (by decide) rfl (fun ls hl => ?_)
                  refine lv_goto (tgt := 104) X.1.1 X.1.2.1 dX7_kindOf_160 (by decide) ?_
                  refine lv_iload X.1.1 X.1.2.1 dX7_kindOf_104 (lv_at hl 0 rfl) ?_
                  refine lv_iconst (v := nI 4) X.1.1 X.1.2.1 dX7_kindOf_106 (by decide) ?_
                  refine sx_icmp_ge X (by decide) (by decide) (tgt := 163) dX7_kindOf_107 (by decide) (fun _ => ?_) (fun h => absurd h (by decide))
                  refine lv_iload X.1.1 X.1.2.1 dX7_kindOf_163 (lv_at hl 1 rfl) ?_
                  refine sx_if_eq X (by decide) (tgt := 172) dX7_kindOf_165 (by decide) (fun h => absurd h (by decide)) (fun _ => ?_)
                  refine lv_iconst (v := nI 2) X.1.1 X.1.2.1 dX7_kindOf_168 (by decide) ?_
                  refine lv_goto (tgt := 173) X.1.1 X.1.2.1 dX7_kindOf_169 (by decide) ?_
                  rw [hQ]
                  exact sx_iret X rfl hs rfl hP dX7_kindOf_173 (⟨rfl, by unfold kindF; rw [hW, cif_f (fun q => Int32.not_lt.mpr c39 ((notA_nI hu).mp q))]; rw [cif_f (show ¬ (1 : Nat) = 0 by decide)]; rw [cif_t (Or.inr ⟨hSh, by unfold anyN; exact Or.inr (Or.inr (Or.inr (Int32.not_le.mp c147_28)))⟩)]⟩)
              · refine lv_iconst (v := nI 1) X.1.1 X.1.2.1 dX7_kindOf_150 (by decide) ?_
                refine lv_goto (tgt := 155) X.1.1 X.1.2.1 dX7_kindOf_151 (by decide) ?_
                refine lv_istore (lv' := [(7, .int (nI 1)), (8, .int (nI 2)), (6, .int (-1)), (5, .int (nI (u))), (4, .int (nI (43 + 12 * c))), (0, rf G 91), (1, .int (nI (t))), (2, .int (nI (c))), (3, .int (nI 1))]) X.1.1 X.1.2.1 dX7_kindOf_155 hl (by decide) rfl (fun ls hl => ?_)
                refine lv_iinc (v := (nI (3))) (lv' := [(8, .int (nI 3)), (7, .int (nI 1)), (6, .int (-1)), (5, .int (nI (u))), (4, .int (nI (43 + 12 * c))), (0, rf G 91), (1, .int (nI (t))), (2, .int (nI (c))), (3, .int (nI 1))]) X.1.1 X.1.2.1 dX7_kindOf_157 hl (k := 1) rfl (by decide) (by decide) rfl (fun ls hl => ?_)
                refine lv_goto (tgt := 104) X.1.1 X.1.2.1 dX7_kindOf_160 (by decide) ?_
                refine lv_iload X.1.1 X.1.2.1 dX7_kindOf_104 (lv_at hl 0 rfl) ?_
                refine lv_iconst (v := nI 4) X.1.1 X.1.2.1 dX7_kindOf_106 (by decide) ?_
                refine sx_icmp_ge X (by decide) (by decide) (tgt := 163) dX7_kindOf_107 (by decide) (fun h => absurd h (by decide)) (fun _ => ?_)
                refine lv_iload X.1.1 X.1.2.1 dX7_kindOf_110 (lv_at hl 1 rfl) ?_
                refine sx_if_ne X (by decide) (tgt := 150) dX7_kindOf_112 (by decide) (fun _ => ?_) (fun h => absurd h (by decide))
                refine lv_iconst (v := nI 1) X.1.1 X.1.2.1 dX7_kindOf_150 (by decide) ?_
                refine lv_goto (tgt := 155) X.1.1 X.1.2.1 dX7_kindOf_151 (by decide) ?_
                refine lv_istore (lv' := [(7, .int (nI 1)), (8, .int (nI 3)), (6, .int (-1)), (5, .int (nI (u))), (4, .int (nI (43 + 12 * c))), (0, rf G 91), (1, .int (nI (t))), (2, .int (nI (c))), (3, .int (nI 1))]) X.1.1 X.1.2.1 dX7_kindOf_155 hl (by decide) rfl (fun ls hl => ?_)
                refine lv_iinc (v := (nI (4))) (lv' := [(8, .int (nI 4)), (7, .int (nI 1)), (6, .int (-1)), (5, .int (nI (u))), (4, .int (nI (43 + 12 * c))), (0, rf G 91), (1, .int (nI (t))), (2, .int (nI (c))), (3, .int (nI 1))]) X.1.1 X.1.2.1 dX7_kindOf_157 hl (k := 1) rfl (by decide) (by decide) rfl (fun ls hl => ?_)
                refine lv_goto (tgt := 104) X.1.1 X.1.2.1 dX7_kindOf_160 (by decide) ?_
                refine lv_iload X.1.1 X.1.2.1 dX7_kindOf_104 (lv_at hl 0 rfl) ?_
                refine lv_iconst (v := nI 4) X.1.1 X.1.2.1 dX7_kindOf_106 (by decide) ?_
                refine sx_icmp_ge X (by decide) (by decide) (tgt := 163) dX7_kindOf_107 (by decide) (fun _ => ?_) (fun h => absurd h (by decide))
                refine lv_iload X.1.1 X.1.2.1 dX7_kindOf_163 (lv_at hl 1 rfl) ?_
                refine sx_if_eq X (by decide) (tgt := 172) dX7_kindOf_165 (by decide) (fun h => absurd h (by decide)) (fun _ => ?_)
                refine lv_iconst (v := nI 2) X.1.1 X.1.2.1 dX7_kindOf_168 (by decide) ?_
                refine lv_goto (tgt := 173) X.1.1 X.1.2.1 dX7_kindOf_169 (by decide) ?_
                rw [hQ]
                exact sx_iret X rfl hs rfl hP dX7_kindOf_173 (⟨rfl, by unfold kindF; rw [hW, cif_f (fun q => Int32.not_lt.mpr c39 ((notA_nI hu).mp q))]; rw [cif_f (show ¬ (1 : Nat) = 0 by decide)]; rw [cif_t (Or.inr ⟨hSh, by unfold anyN; exact Or.inr (Or.inr (Or.inl (Int32.not_le.mp c147_26)))⟩)]⟩)
            · refine lv_iconst (v := nI 1) X.1.1 X.1.2.1 dX7_kindOf_150 (by decide) ?_
              refine lv_goto (tgt := 155) X.1.1 X.1.2.1 dX7_kindOf_151 (by decide) ?_
              refine lv_istore (lv' := [(7, .int (nI 1)), (8, .int (nI 1)), (6, .int (-1)), (5, .int (nI (u))), (4, .int (nI (43 + 12 * c))), (0, rf G 91), (1, .int (nI (t))), (2, .int (nI (c))), (3, .int (nI 1))]) X.1.1 X.1.2.1 dX7_kindOf_155 hl (by decide) rfl (fun ls hl => ?_)
              refine lv_iinc (v := (nI (2))) (lv' := [(8, .int (nI 2)), (7, .int (nI 1)), (6, .int (-1)), (5, .int (nI (u))), (4, .int (nI (43 + 12 * c))), (0, rf G 91), (1, .int (nI (t))), (2, .int (nI (c))), (3, .int (nI 1))]) X.1.1 X.1.2.1 dX7_kindOf_157 hl (k := 1) rfl (by decide) (by decide) rfl (fun ls hl => ?_)
              refine lv_goto (tgt := 104) X.1.1 X.1.2.1 dX7_kindOf_160 (by decide) ?_
              refine lv_iload X.1.1 X.1.2.1 dX7_kindOf_104 (lv_at hl 0 rfl) ?_
              refine lv_iconst (v := nI 4) X.1.1 X.1.2.1 dX7_kindOf_106 (by decide) ?_
              refine sx_icmp_ge X (by decide) (by decide) (tgt := 163) dX7_kindOf_107 (by decide) (fun h => absurd h (by decide)) (fun _ => ?_)
              refine lv_iload X.1.1 X.1.2.1 dX7_kindOf_110 (lv_at hl 1 rfl) ?_
              refine sx_if_ne X (by decide) (tgt := 150) dX7_kindOf_112 (by decide) (fun _ => ?_) (fun h => absurd h (by decide))
              refine lv_iconst (v := nI 1) X.1.1 X.1.2.1 dX7_kindOf_150 (by decide) ?_
              refine lv_goto (tgt := 155) X.1.1 X.1.2.1 dX7_kindOf_151 (by decide) ?_
              refine lv_istore (lv' := [(7, .int (nI 1)), (8, .int (nI 2)), (6, .int (-1)), (5, .int (nI (u))), (4, .int (nI (43 + 12 * c))), (0, rf G 91), (1, .int (nI (t))), (2, .int (nI (c))), (3, .int (nI 1))]) X.1.1 X.1.2.1 dX7_kindOf_155 hl (by decide) rfl (fun ls hl => ?_)
              refine lv_iinc (v := (nI (3))) (lv' := [(8, .int (nI 3)), (7, .int (nI 1)), (6, .int (-1)), (5, .int (nI (u))), (4, .int (nI (43 + 12 * c))), (0, rf G 91), (1, .int (nI (t))), (2, .int (nI (c))), (3, .int (nI 1))]) X.1.1 X.1.2.1 dX7_kindOf_157 hl (k := 1) rfl (by decide) (by decide) rfl (fun ls hl => ?_)
              refine lv_goto (tgt := 104) X.1.1 X.1.2.1 dX7_kindOf_160 (by decide) ?_
              refine lv_iload X.1.1 X.1.2.1 dX7_kindOf_104 (lv_at hl 0 rfl) ?_
              refine lv_iconst (v := nI 4) X.1.1 X.1.2.1 dX7_kindOf_106 (by decide) ?_
              refine sx_icmp_ge X (by decide) (by decide) (tgt := 163) dX7_kindOf_107 (by decide) (fun h => absurd h (by decide)) (fun _ => ?_)
              refine lv_iload X.1.1 X.1.2.1 dX7_kindOf_110 (lv_at hl 1 rfl) ?_
              refine sx_if_ne X (by decide) (tgt := 150) dX7_kindOf_112 (by decide) (fun _ => ?_) (fun h => absurd h (by decide))
              refine lv_iconst (v := nI 1) X.1.1 X.1.2.1 dX7_kindOf_150 (by decide) ?_
              refine lv_goto (tgt := 155) X.1.1 X.1.2.1 dX7_kindOf_151 (by decide) ?_
              refine lv_istore (lv' := [(7, .int (nI 1)), (8, .int (nI 3)), (6, .int (-1)), (5, .int (nI (u))), (4, .int (nI (43 + 12 * c))), (0, rf G 91), (1, .int (nI (t))), (2, .int (nI (c))), (3, .int (nI 1))]) X.1.1 X.1.2.1 dX7_kindOf_155 hl (by decide) rfl (fun ls hl => ?_)
              refine lv_iinc (v := (nI (4))) (lv' := [(8, .int (nI 4)), (7, .int (nI 1)), (6, .int (-1)), (5, .int (nI (u))), (4, .int (nI (43 + 12 * c))), (0, rf G 91), (1, .int (nI (t))), (2, .int (nI (c))), (3, .int (nI 1))]) X.1.1 X.1.2.1 dX7_kindOf_157 hl (k := 1) rfl (by decide) (by decide) rfl (fun ls hl => ?_)
              refine lv_goto (tgt := 104) X.1.1 X.1.2.1 dX7_kindOf_160 (by decide) ?_
              refine lv_iload X.1.1 X.1.2.1 dX7_kindOf_104 (lv_at hl 0 rfl) ?_
              refine lv_iconst (v := nI 4) X.1.1 X.1.2.1 dX7_kindOf_106 (by decide) ?_
              refine sx_icmp_ge X (by decide) (by decide) (tgt := 163) dX7_kindOf_107 (by decide) (fun _ => ?_) (fun h => absurd h (by decide))
              refine lv_iload X.1.1 X.1.2.1 dX7_kindOf_163 (lv_at hl 1 rfl) ?_
              refine sx_if_eq X (by decide) (tgt := 172) dX7_kindOf_165 (by decide) (fun h => absurd h (by decide)) (fun _ => ?_)
              refine lv_iconst (v := nI 2) X.1.1 X.1.2.1 dX7_kindOf_168 (by decide) ?_
              refine lv_goto (tgt := 173) X.1.1 X.1.2.1 dX7_kindOf_169 (by decide) ?_
              rw [hQ]
              exact sx_iret X rfl hs rfl hP dX7_kindOf_173 (⟨rfl, by unfold kindF; rw [hW, cif_f (fun q => Int32.not_lt.mpr c39 ((notA_nI hu).mp q))]; rw [cif_f (show ¬ (1 : Nat) = 0 by decide)]; rw [cif_t (Or.inr ⟨hSh, by unfold anyN; exact Or.inr (Or.inl (Int32.not_le.mp c147_24))⟩)]⟩)
          · refine lv_iconst (v := nI 1) X.1.1 X.1.2.1 dX7_kindOf_150 (by decide) ?_
            refine lv_goto (tgt := 155) X.1.1 X.1.2.1 dX7_kindOf_151 (by decide) ?_
            refine lv_istore (lv' := [(7, .int (nI 1)), (8, .int (nI 0)), (6, .int (-1)), (5, .int (nI (u))), (4, .int (nI (43 + 12 * c))), (0, rf G 91), (1, .int (nI (t))), (2, .int (nI (c))), (3, .int (nI 1))]) X.1.1 X.1.2.1 dX7_kindOf_155 hl (by decide) rfl (fun ls hl => ?_)
            refine lv_iinc (v := (nI (1))) (lv' := [(8, .int (nI 1)), (7, .int (nI 1)), (6, .int (-1)), (5, .int (nI (u))), (4, .int (nI (43 + 12 * c))), (0, rf G 91), (1, .int (nI (t))), (2, .int (nI (c))), (3, .int (nI 1))]) X.1.1 X.1.2.1 dX7_kindOf_157 hl (k := 1) rfl (by decide) (by decide) rfl (fun ls hl => ?_)
            refine lv_goto (tgt := 104) X.1.1 X.1.2.1 dX7_kindOf_160 (by decide) ?_
            refine lv_iload X.1.1 X.1.2.1 dX7_kindOf_104 (lv_at hl 0 rfl) ?_
            refine lv_iconst (v := nI 4) X.1.1 X.1.2.1 dX7_kindOf_106 (by decide) ?_
            refine sx_icmp_ge X (by decide) (by decide) (tgt := 163) dX7_kindOf_107 (by decide) (fun h => absurd h (by decide)) (fun _ => ?_)
            refine lv_iload X.1.1 X.1.2.1 dX7_kindOf_110 (lv_at hl 1 rfl) ?_
            refine sx_if_ne X (by decide) (tgt := 150) dX7_kindOf_112 (by decide) (fun _ => ?_) (fun h => absurd h (by decide))
            refine lv_iconst (v := nI 1) X.1.1 X.1.2.1 dX7_kindOf_150 (by decide) ?_
            refine lv_goto (tgt := 155) X.1.1 X.1.2.1 dX7_kindOf_151 (by decide) ?_
            refine lv_istore (lv' := [(7, .int (nI 1)), (8, .int (nI 1)), (6, .int (-1)), (5, .int (nI (u))), (4, .int (nI (43 + 12 * c))), (0, rf G 91), (1, .int (nI (t))), (2, .int (nI (c))), (3, .int (nI 1))]) X.1.1 X.1.2.1 dX7_kindOf_155 hl (by decide) rfl (fun ls hl => ?_)
            refine lv_iinc (v := (nI (2))) (lv' := [(8, .int (nI 2)), (7, .int (nI 1)), (6, .int (-1)), (5, .int (nI (u))), (4, .int (nI (43 + 12 * c))), (0, rf G 91), (1, .int (nI (t))), (2, .int (nI (c))), (3, .int (nI 1))]) X.1.1 X.1.2.1 dX7_kindOf_157 hl (k := 1) rfl (by decide) (by decide) rfl (fun ls hl => ?_)
            refine lv_goto (tgt := 104) X.1.1 X.1.2.1 dX7_kindOf_160 (by decide) ?_
            refine lv_iload X.1.1 X.1.2.1 dX7_kindOf_104 (lv_at hl 0 rfl) ?_
            refine lv_iconst (v := nI 4) X.1.1 X.1.2.1 dX7_kindOf_106 (by decide) ?_
            refine sx_icmp_ge X (by decide) (by decide) (tgt := 163) dX7_kindOf_107 (by decide) (fun h => absurd h (by decide)) (fun _ => ?_)
            refine lv_iload X.1.1 X.1.2.1 dX7_kindOf_110 (lv_at hl 1 rfl) ?_
            refine sx_if_ne X (by decide) (tgt := 150) dX7_kindOf_112 (by decide) (fun _ => ?_) (fun h => absurd h (by decide))
            refine lv_iconst (v := nI 1) X.1.1 X.1.2.1 dX7_kindOf_150 (by decide) ?_
            refine lv_goto (tgt := 155) X.1.1 X.1.2.1 dX7_kindOf_151 (by decide) ?_
            refine lv_istore (lv' := [(7, .int (nI 1)), (8, .int (nI 2)), (6, .int (-1)), (5, .int (nI (u))), (4, .int (nI (43 + 12 * c))), (0, rf G 91), (1, .int (nI (t))), (2, .int (nI (c))), (3, .int (nI 1))]) X.1.1 X.1.2.1 dX7_kindOf_155 hl (by decide) rfl (fun ls hl => ?_)
            refine lv_iinc (v := (nI (3))) (lv' := [(8, .int (nI 3)), (7, .int (nI 1)), (6, .int (-1)), (5, .int (nI (u))), (4, .int (nI (43 + 12 * c))), (0, rf G 91), (1, .int (nI (t))), (2, .int (nI (c))), (3, .int (nI 1))]) X.1.1 X.1.2.1 dX7_kindOf_157 hl (k := 1) rfl (by decide) (by decide) rfl (fun ls hl => ?_)
            refine lv_goto (tgt := 104) X.1.1 X.1.2.1 dX7_kindOf_160 (by decide) ?_
            refine lv_iload X.1.1 X.1.2.1 dX7_kindOf_104 (lv_at hl 0 rfl) ?_
            refine lv_iconst (v := nI 4) X.1.1 X.1.2.1 dX7_kindOf_106 (by decide) ?_
            refine sx_icmp_ge X (by decide) (by decide) (tgt := 163) dX7_kindOf_107 (by decide) (fun h => absurd h (by decide)) (fun _ => ?_)
            refine lv_iload X.1.1 X.1.2.1 dX7_kindOf_110 (lv_at hl 1 rfl) ?_
            refine sx_if_ne X (by decide) (tgt := 150) dX7_kindOf_112 (by decide) (fun _ => ?_) (fun h => absurd h (by decide))
            refine lv_iconst (v := nI 1) X.1.1 X.1.2.1 dX7_kindOf_150 (by decide) ?_
            refine lv_goto (tgt := 155) X.1.1 X.1.2.1 dX7_kindOf_151 (by decide) ?_
            refine lv_istore (lv' := [(7, .int (nI 1)), (8, .int (nI 3)), (6, .int (-1)), (5, .int (nI (u))), (4, .int (nI (43 + 12 * c))), (0, rf G 91), (1, .int (nI (t))), (2, .int (nI (c))), (3, .int (nI 1))]) X.1.1 X.1.2.1 dX7_kindOf_155 hl (by decide) rfl (fun ls hl => ?_)
            refine lv_iinc (v := (nI (4))) (lv' := [(8, .int (nI 4)), (7, .int (nI 1)), (6, .int (-1)), (5, .int (nI (u))), (4, .int (nI (43 + 12 * c))), (0, rf G 91), (1, .int (nI (t))), (2, .int (nI (c))), (3, .int (nI 1))]) X.1.1 X.1.2.1 dX7_kindOf_157 hl (k := 1) rfl (by decide) (by decide) rfl (fun ls hl => ?_)
            refine lv_goto (tgt := 104) X.1.1 X.1.2.1 dX7_kindOf_160 (by decide) ?_
            refine lv_iload X.1.1 X.1.2.1 dX7_kindOf_104 (lv_at hl 0 rfl) ?_
            refine lv_iconst (v := nI 4) X.1.1 X.1.2.1 dX7_kindOf_106 (by decide) ?_
            refine sx_icmp_ge X (by decide) (by decide) (tgt := 163) dX7_kindOf_107 (by decide) (fun _ => ?_) (fun h => absurd h (by decide))
            refine lv_iload X.1.1 X.1.2.1 dX7_kindOf_163 (lv_at hl 1 rfl) ?_
            refine sx_if_eq X (by decide) (tgt := 172) dX7_kindOf_165 (by decide) (fun h => absurd h (by decide)) (fun _ => ?_)
            refine lv_iconst (v := nI 2) X.1.1 X.1.2.1 dX7_kindOf_168 (by decide) ?_
            refine lv_goto (tgt := 173) X.1.1 X.1.2.1 dX7_kindOf_169 (by decide) ?_
            rw [hQ]
            exact sx_iret X rfl hs rfl hP dX7_kindOf_173 (⟨rfl, by unfold kindF; rw [hW, cif_f (fun q => Int32.not_lt.mpr c39 ((notA_nI hu).mp q))]; rw [cif_f (show ¬ (1 : Nat) = 0 by decide)]; rw [cif_t (Or.inr ⟨hSh, by unfold anyN; exact Or.inl (Int32.not_le.mp c147)⟩)]⟩)
        · refine lv_iload_n X.1.1 X.1.2.1 dX7_kindOf_42 rfl (lv_at hl 5 rfl) ?_
          refine sx_if_eq X (by decide) (tgt := 50) dX7_kindOf_43 (by decide) (fun h => absurd h (by decide)) (fun _ => ?_)
          refine lv_iconst (v := nI 0) X.1.1 X.1.2.1 dX7_kindOf_46 (by decide) ?_
          refine lv_goto (tgt := 51) X.1.1 X.1.2.1 dX7_kindOf_47 (by decide) ?_
          rw [hQ]
          exact sx_iret X rfl hs rfl hP dX7_kindOf_51 (⟨rfl, by unfold kindF; rw [hW, cif_t ((notA_nI hu).mpr (Int32.not_le.mp c39))]; rw [cif_f (show ¬ (1 : Nat) = 0 by decide)]⟩)
theorem ys_X7_reads : yX7_reads.cls ≠ "java/lang/invoke/MethodHandle" ∧ yX7_reads.cls ≠ "java/lang/invoke/VarHandle" ∧ (parseMethodDescriptor yX7_reads.desc).map (fun d => d.parameters.length) = some 2 := by decide +kernel
theorem yv_X7_reads : yX7_reads.cls = RX7 ∧ yX7_reads.cls ≠ "java/lang/invoke/MethodHandle" ∧ yX7_reads.cls ≠ "java/lang/invoke/VarHandle" ∧ (parseMethodDescriptor yX7_reads.desc).map (fun d => d.parameters.length) = some 2 := ⟨rfl, ys_X7_reads⟩
theorem in_X7_reads_X7 : ∀ w ∈ wsX70, w ∈ wsX7_reads := fun _ h => List.mem_cons_of_mem _ (List.mem_append_right _ (h))
theorem lk_X7_reads_fieldLink_RX7_7_RaceWatchModel_w_I : (.fieldLink RX7 7 "RaceWatchModel" "w" "[I" : Cond) ∈ wsX7_reads := List.mem_cons_of_mem _ (List.mem_append_left _ (List.mem_of_getElem? (i := 0) rfl))
abbrev rmX7_reads : Room := { frames := 1, cells := 0, slots := 0, locals := 22 }
set_option maxHeartbeats 4000000 in
set_option maxRecDepth 100000 in
theorem mX7_reads {G : sx_G} (l : Launch) {F : Nat → va_E} {w : Nat → Int32} {of : List Value} {t c : Nat} (ht : t < 4) (hc : c < 4) (hok : okC w c) (h91 : F (91) = ob 7 (rf G 92 :: of)) (h92 : F (92) = rI G (4358) (w)) : sx_V G l yX7_reads wsX7_reads rmX7_reads [rf G 91, .int (nI (t)), .int (nI (43 + 12 * c))] (97) F (97) (fun F1 => F1 92 = rI G 4358 (readF w t c) ∧ ∀ j, j ≠ 92 → F1 j = F j) := by
  refine sx_enter (cc := cX7_reads) (maxL := 4) (ret := none) (own := RX7) (nm := "reads") (by decide) rfl rfl rfl (Nat.le_of_ble_eq_true rfl) ?_
  intro pp ee ss mm args below meth kc ls Q hQ X hs hP hl
  have hl : lv_has ls 4 [(0, rf G 91), (1, .int (nI (t))), (2, .int (nI (43 + 12 * c)))] := hl
  have hO : ∀ j, j ≠ 92 → F j = F j := fun _ _ => rfl
  rcases hok.2.2 with hSh | ⟨hSh, hDd⟩
  · rcases hok.2.1 with hDd | ⟨v, hv, hDd⟩
    · refine lv_aload_n X.1.1 X.1.2.1 dX7_reads_0 rfl (lv_at hl 0 rfl) ?_
      refine sx_get X hP in_X7_reads_X7 h91 (by decide) rfl 0 (by decide) lk_X7_reads_fieldLink_RX7_7_RaceWatchModel_w_I rfl dX7_reads_1 ?_
      refine lv_iload_n X.1.1 X.1.2.1 dX7_reads_4 rfl (lv_at hl 2 rfl) ?_
      refine lv_iconst (v := nI 2) X.1.1 X.1.2.1 dX7_reads_5 (by decide) ?_
      refine sx_addN X (45 + 12 * c) (by omega) dX7_reads_6 ?_
      refine sx_ald X hP h92 (by decide) (45 + 12 * c) (by omega) (by decide) dX7_reads_7 ?_
      rw [hDd]
      refine lv_istore_n (lv' := [(3, .int (-1)), (0, rf G 91), (1, .int (nI (t))), (2, .int (nI (43 + 12 * c)))]) X.1.1 X.1.2.1 dX7_reads_8 rfl hl (by decide) rfl (fun ls hl => ?_)
      refine lv_aload_n X.1.1 X.1.2.1 dX7_reads_9 rfl (lv_at hl 1 rfl) ?_
      refine sx_get X hP in_X7_reads_X7 h91 (by decide) rfl 0 (by decide) lk_X7_reads_fieldLink_RX7_7_RaceWatchModel_w_I rfl dX7_reads_10 ?_
      refine lv_iload_n X.1.1 X.1.2.1 dX7_reads_13 rfl (lv_at hl 3 rfl) ?_
      refine lv_iconst (v := nI 4) X.1.1 X.1.2.1 dX7_reads_14 (by decide) ?_
      refine sx_addN X (47 + 12 * c) (by omega) dX7_reads_15 ?_
      refine sx_ald X hP h92 (by decide) (47 + 12 * c) (by omega) (by decide) dX7_reads_16 ?_
      rw [hSh]
      refine lv_iconst (v := nI 1) X.1.1 X.1.2.1 dX7_reads_17 (by decide) ?_
      refine sx_icmp_ne X (by decide) (by decide) (tgt := 40) dX7_reads_18 (by decide) (fun _ => ?_) (fun h => absurd h (by decide))
      refine lv_iload_n X.1.1 X.1.2.1 dX7_reads_40 rfl (lv_at hl 0 rfl) ?_
      refine lv_iconst (v := (-1)) X.1.1 X.1.2.1 dX7_reads_41 (by decide) ?_
      refine lv_icmp_eq X.1.1 X.1.2.1 (tgt := 62) dX7_reads_42 (by decide) (fun _ => ?_) (fun h => absurd rfl h)
      refine lv_aload_n X.1.1 X.1.2.1 dX7_reads_62 rfl (lv_at hl 1 rfl) ?_
      refine sx_get X hP in_X7_reads_X7 h91 (by decide) rfl 0 (by decide) lk_X7_reads_fieldLink_RX7_7_RaceWatchModel_w_I rfl dX7_reads_63 ?_
      refine lv_iload_n X.1.1 X.1.2.1 dX7_reads_66 rfl (lv_at hl 3 rfl) ?_
      refine lv_iconst (v := nI 2) X.1.1 X.1.2.1 dX7_reads_67 (by decide) ?_
      refine sx_addN X (45 + 12 * c) (by omega) dX7_reads_68 ?_
      refine lv_iload_n X.1.1 X.1.2.1 dX7_reads_69 rfl (lv_at hl 2 rfl) ?_
      refine sx_ast X hP h92 (by decide) (45 + 12 * c) (by omega) (by decide) dX7_reads_70 (fun F1 H1 l1 e1 o1 hP => ?_)
      obtain ⟨w1, hw1⟩ : ∃ z, z = upd w (45 + 12 * c) (nI (t)) := ⟨_, rfl⟩
      rw [← hw1] at e1
      have hSh_1 : w1 (47 + 12 * c) = (nI (0)) := by rw [hw1]; exact (pk_un (by omega)).trans hSh
      have hDd_1 : w1 (45 + 12 * c) = (nI (t)) := by rw [hw1]; exact pk_us
      have h92 : F1 (92) = rI G (4358) (w1) := e1
      have h91 := (o1 (91) (by decide)).trans h91
      have hO : ∀ j, j ≠ 92 → F1 j = F j := fun j hj => (o1 j (by omega)).trans (hO j hj)
      refine lv_aload_n X.1.1 X.1.2.1 dX7_reads_71 rfl (lv_at hl 1 rfl) ?_
      refine sx_get X hP in_X7_reads_X7 h91 (by decide) rfl 0 (by decide) lk_X7_reads_fieldLink_RX7_7_RaceWatchModel_w_I rfl dX7_reads_72 ?_
      refine lv_iload_n X.1.1 X.1.2.1 dX7_reads_75 rfl (lv_at hl 3 rfl) ?_
      refine lv_iconst (v := nI 3) X.1.1 X.1.2.1 dX7_reads_76 (by decide) ?_
      refine sx_addN X (46 + 12 * c) (by omega) dX7_reads_77 ?_
      refine lv_aload_n X.1.1 X.1.2.1 dX7_reads_78 rfl (lv_at hl 1 rfl) ?_
      refine lv_iload_n X.1.1 X.1.2.1 dX7_reads_79 rfl (lv_at hl 2 rfl) ?_
      refine lv_iload_n X.1.1 X.1.2.1 dX7_reads_80 rfl (lv_at hl 2 rfl) ?_
      refine sx_cvI (As := [.int (nI (t)), .int (nI (t))]) (rest := .int (nI (46 + 12 * c)) :: rf G 92 :: []) X (mX7_number l (t := t) (u := t) (by omega) (by omega) h91 h92) gX7_reads_X7_number rfl yv_X7_number ⟨Nat.le_of_ble_eq_true rfl, Nat.le_of_ble_eq_true rfl⟩ h91 (by decide) rfl rfl hl.1 rfl (Nat.le_of_ble_eq_true rfl) dX7_reads_81 ⟨Nat.le_of_ble_eq_true rfl, Nat.le_of_ble_eq_true rfl⟩ hs rfl hP (fun r2 F2 H2 l2 hp hP => ?_)
      obtain ⟨rfl, rfl⟩ := hp
      rw [show w1 (4 + 4 * t + t) = w1 (4 + 5 * t) from congrArg _ (by omega)]
      refine sx_ast X hP h92 (by decide) (46 + 12 * c) (by omega) (by decide) dX7_reads_84 (fun F3 H3 l3 e3 o3 hP => ?_)
      obtain ⟨w3, hw3⟩ : ∃ z, z = upd w1 (46 + 12 * c) (w1 (4 + 5 * t)) := ⟨_, rfl⟩
      rw [← hw3] at e3
      have hSh_1_3 : w3 (47 + 12 * c) = (nI (0)) := by rw [hw3]; exact (pk_un (by omega)).trans hSh_1
      have hDd_1_3 : w3 (45 + 12 * c) = (nI (t)) := by rw [hw3]; exact (pk_un (by omega)).trans hDd_1
      have h92 : F3 (92) = rI G (4358) (w3) := e3
      have h91 := (o3 (91) (by decide)).trans h91
      have hO : ∀ j, j ≠ 92 → F3 j = F j := fun j hj => (o3 j (by omega)).trans (hO j hj)
      refine lv_goto (tgt := 162) X.1.1 X.1.2.1 dX7_reads_85 (by decide) ?_
      rw [hQ]
      exact sx_vret X rfl hs rfl hP dX7_reads_162 (⟨h92.trans (by rw [hw3, hw1]; unfold readF; rw [cif_f (by rw [hSh]; decide), cif_t (by rw [hDd]; exact notA_no)]; try rfl), hO⟩)
    · refine lv_aload_n X.1.1 X.1.2.1 dX7_reads_0 rfl (lv_at hl 0 rfl) ?_
      refine sx_get X hP in_X7_reads_X7 h91 (by decide) rfl 0 (by decide) lk_X7_reads_fieldLink_RX7_7_RaceWatchModel_w_I rfl dX7_reads_1 ?_
      refine lv_iload_n X.1.1 X.1.2.1 dX7_reads_4 rfl (lv_at hl 2 rfl) ?_
      refine lv_iconst (v := nI 2) X.1.1 X.1.2.1 dX7_reads_5 (by decide) ?_
      refine sx_addN X (45 + 12 * c) (by omega) dX7_reads_6 ?_
      refine sx_ald X hP h92 (by decide) (45 + 12 * c) (by omega) (by decide) dX7_reads_7 ?_
      rw [hDd]
      refine lv_istore_n (lv' := [(3, .int (nI (v))), (0, rf G 91), (1, .int (nI (t))), (2, .int (nI (43 + 12 * c)))]) X.1.1 X.1.2.1 dX7_reads_8 rfl hl (by decide) rfl (fun ls hl => ?_)
      refine lv_aload_n X.1.1 X.1.2.1 dX7_reads_9 rfl (lv_at hl 1 rfl) ?_
      refine sx_get X hP in_X7_reads_X7 h91 (by decide) rfl 0 (by decide) lk_X7_reads_fieldLink_RX7_7_RaceWatchModel_w_I rfl dX7_reads_10 ?_
      refine lv_iload_n X.1.1 X.1.2.1 dX7_reads_13 rfl (lv_at hl 3 rfl) ?_
      refine lv_iconst (v := nI 4) X.1.1 X.1.2.1 dX7_reads_14 (by decide) ?_
      refine sx_addN X (47 + 12 * c) (by omega) dX7_reads_15 ?_
      refine sx_ald X hP h92 (by decide) (47 + 12 * c) (by omega) (by decide) dX7_reads_16 ?_
      rw [hSh]
      refine lv_iconst (v := nI 1) X.1.1 X.1.2.1 dX7_reads_17 (by decide) ?_
      refine sx_icmp_ne X (by decide) (by decide) (tgt := 40) dX7_reads_18 (by decide) (fun _ => ?_) (fun h => absurd h (by decide))
      refine lv_iload_n X.1.1 X.1.2.1 dX7_reads_40 rfl (lv_at hl 0 rfl) ?_
      refine lv_iconst (v := (-1)) X.1.1 X.1.2.1 dX7_reads_41 (by decide) ?_
      refine lv_icmp_eq X.1.1 X.1.2.1 (tgt := 62) dX7_reads_42 (by decide) (fun h => absurd h (sx_m1 (by omega))) (fun _ => ?_)
      refine lv_aload_n X.1.1 X.1.2.1 dX7_reads_45 rfl (lv_at hl 1 rfl) ?_
      refine lv_iload_n X.1.1 X.1.2.1 dX7_reads_46 rfl (lv_at hl 2 rfl) ?_
      refine lv_iload_n X.1.1 X.1.2.1 dX7_reads_47 rfl (lv_at hl 0 rfl) ?_
      refine sx_cvI (As := [.int (nI (t)), .int (nI (v))]) (rest := []) X (mX7_number l (t := t) (u := v) (by omega) (by omega) h91 h92) gX7_reads_X7_number rfl yv_X7_number ⟨Nat.le_of_ble_eq_true rfl, Nat.le_of_ble_eq_true rfl⟩ h91 (by decide) rfl rfl hl.1 rfl (Nat.le_of_ble_eq_true rfl) dX7_reads_48 ⟨Nat.le_of_ble_eq_true rfl, Nat.le_of_ble_eq_true rfl⟩ hs rfl hP (fun r4 F4 H4 l4 hp hP => ?_)
      obtain ⟨rfl, rfl⟩ := hp
      refine lv_aload_n X.1.1 X.1.2.1 dX7_reads_51 rfl (lv_at hl 1 rfl) ?_
      refine sx_get X hP in_X7_reads_X7 h91 (by decide) rfl 0 (by decide) lk_X7_reads_fieldLink_RX7_7_RaceWatchModel_w_I rfl dX7_reads_52 ?_
      refine lv_iload_n X.1.1 X.1.2.1 dX7_reads_55 rfl (lv_at hl 3 rfl) ?_
      refine lv_iconst (v := nI 3) X.1.1 X.1.2.1 dX7_reads_56 (by decide) ?_
      refine sx_addN X (46 + 12 * c) (by omega) dX7_reads_57 ?_
      refine sx_ald X hP h92 (by decide) (46 + 12 * c) (by omega) (by decide) dX7_reads_58 ?_
      refine lv_icmp_lt X.1.1 X.1.2.1 (tgt := 88) dX7_reads_59 (by decide) (fun c59 => ?_) (fun c59 => ?_)
      · refine lv_aload_n X.1.1 X.1.2.1 dX7_reads_88 rfl (lv_at hl 1 rfl) ?_
        refine sx_get X hP in_X7_reads_X7 h91 (by decide) rfl 0 (by decide) lk_X7_reads_fieldLink_RX7_7_RaceWatchModel_w_I rfl dX7_reads_89 ?_
        refine lv_iload_n X.1.1 X.1.2.1 dX7_reads_92 rfl (lv_at hl 3 rfl) ?_
        refine lv_iconst (v := nI 4) X.1.1 X.1.2.1 dX7_reads_93 (by decide) ?_
        refine sx_addN X (47 + 12 * c) (by omega) dX7_reads_94 ?_
        refine lv_iconst (v := nI 1) X.1.1 X.1.2.1 dX7_reads_95 (by decide) ?_
        refine sx_ast X hP h92 (by decide) (47 + 12 * c) (by omega) (by decide) dX7_reads_96 (fun F5 H5 l5 e5 o5 hP => ?_)
        obtain ⟨w5, hw5⟩ : ∃ z, z = upd w (47 + 12 * c) (nI (1)) := ⟨_, rfl⟩
        rw [← hw5] at e5
        have hSh_5 : w5 (47 + 12 * c) = (nI (1)) := by rw [hw5]; exact pk_us
        have hDd_5 : w5 (45 + 12 * c) = (nI (v)) := by rw [hw5]; exact (pk_un (by omega)).trans hDd
        have h92 : F5 (92) = rI G (4358) (w5) := e5
        have h91 := (o5 (91) (by decide)).trans h91
        have hO : ∀ j, j ≠ 92 → F5 j = F j := fun j hj => (o5 j (by omega)).trans (hO j hj)
        refine lv_aload_n X.1.1 X.1.2.1 dX7_reads_97 rfl (lv_at hl 1 rfl) ?_
        refine sx_get X hP in_X7_reads_X7 h91 (by decide) rfl 0 (by decide) lk_X7_reads_fieldLink_RX7_7_RaceWatchModel_w_I rfl dX7_reads_98 ?_
        refine lv_iload_n X.1.1 X.1.2.1 dX7_reads_101 rfl (lv_at hl 3 rfl) ?_
        refine lv_iconst (v := nI 5) X.1.1 X.1.2.1 dX7_reads_102 (by decide) ?_
        refine sx_addN X (48 + 12 * c) (by omega) dX7_reads_103 ?_
        refine lv_iload_n X.1.1 X.1.2.1 dX7_reads_104 rfl (lv_at hl 0 rfl) ?_
        refine sx_addN X (48 + 12 * c + v) (by omega) dX7_reads_105 ?_
        refine lv_aload_n X.1.1 X.1.2.1 dX7_reads_106 rfl (lv_at hl 1 rfl) ?_
        refine sx_get X hP in_X7_reads_X7 h91 (by decide) rfl 0 (by decide) lk_X7_reads_fieldLink_RX7_7_RaceWatchModel_w_I rfl dX7_reads_107 ?_
        refine lv_iload_n X.1.1 X.1.2.1 dX7_reads_110 rfl (lv_at hl 3 rfl) ?_
        refine lv_iconst (v := nI 3) X.1.1 X.1.2.1 dX7_reads_111 (by decide) ?_
        refine sx_addN X (46 + 12 * c) (by omega) dX7_reads_112 ?_
        refine sx_ald X hP h92 (by decide) (46 + 12 * c) (by omega) (by decide) dX7_reads_113 ?_
        refine sx_ast X hP h92 (by decide) (48 + 12 * c + v) (by omega) (by decide) dX7_reads_114 (fun F6 H6 l6 e6 o6 hP => ?_)
        obtain ⟨w6, hw6⟩ : ∃ z, z = upd w5 (48 + 12 * c + v) (w5 (46 + 12 * c)) := ⟨_, rfl⟩
        rw [← hw6] at e6
        have hSh_5_6 : w6 (47 + 12 * c) = (nI (1)) := by rw [hw6]; exact (pk_un (by omega)).trans hSh_5
        have hDd_5_6 : w6 (45 + 12 * c) = (nI (v)) := by rw [hw6]; exact (pk_un (by omega)).trans hDd_5
        have h92 : F6 (92) = rI G (4358) (w6) := e6
        have h91 := (o6 (91) (by decide)).trans h91
        have hO : ∀ j, j ≠ 92 → F6 j = F j := fun j hj => (o6 j (by omega)).trans (hO j hj)
        refine lv_aload_n X.1.1 X.1.2.1 dX7_reads_115 rfl (lv_at hl 1 rfl) ?_
        refine sx_get X hP in_X7_reads_X7 h91 (by decide) rfl 0 (by decide) lk_X7_reads_fieldLink_RX7_7_RaceWatchModel_w_I rfl dX7_reads_116 ?_
        refine lv_iload_n X.1.1 X.1.2.1 dX7_reads_119 rfl (lv_at hl 3 rfl) ?_
        refine lv_iconst (v := nI 5) X.1.1 X.1.2.1 dX7_reads_120 (by decide) ?_
        refine sx_addN X (48 + 12 * c) (by omega) dX7_reads_121 ?_
        refine lv_iload_n X.1.1 X.1.2.1 dX7_reads_122 rfl (lv_at hl 2 rfl) ?_
        refine sx_addN X (48 + 12 * c + t) (by omega) dX7_reads_123 ?_
        refine lv_aload_n X.1.1 X.1.2.1 dX7_reads_124 rfl (lv_at hl 1 rfl) ?_
        refine lv_iload_n X.1.1 X.1.2.1 dX7_reads_125 rfl (lv_at hl 2 rfl) ?_
        refine lv_iload_n X.1.1 X.1.2.1 dX7_reads_126 rfl (lv_at hl 2 rfl) ?_
        refine sx_cvI (As := [.int (nI (t)), .int (nI (t))]) (rest := .int (nI (48 + 12 * c + t)) :: rf G 92 :: []) X (mX7_number l (t := t) (u := t) (by omega) (by omega) h91 h92) gX7_reads_X7_number rfl yv_X7_number ⟨Nat.le_of_ble_eq_true rfl, Nat.le_of_ble_eq_true rfl⟩ h91 (by decide) rfl rfl hl.1 rfl (Nat.le_of_ble_eq_true rfl) dX7_reads_127 ⟨Nat.le_of_ble_eq_true rfl, Nat.le_of_ble_eq_true rfl⟩ hs rfl hP (fun r7 F7 H7 l7 hp hP => ?_)
        obtain ⟨rfl, rfl⟩ := hp
        rw [show w6 (4 + 4 * t + t) = w6 (4 + 5 * t) from congrArg _ (by omega)]
        refine sx_ast X hP h92 (by decide) (48 + 12 * c + t) (by omega) (by decide) dX7_reads_130 (fun F8 H8 l8 e8 o8 hP => ?_)
        obtain ⟨w8, hw8⟩ : ∃ z, z = upd w6 (48 + 12 * c + t) (w6 (4 + 5 * t)) := ⟨_, rfl⟩
        rw [← hw8] at e8
        have hSh_5_6_8 : w8 (47 + 12 * c) = (nI (1)) := by rw [hw8]; exact (pk_un (by omega)).trans hSh_5_6
        have hDd_5_6_8 : w8 (45 + 12 * c) = (nI (v)) := by rw [hw8]; exact (pk_un (by omega)).trans hDd_5_6
        have h92 : F8 (92) = rI G (4358) (w8) := e8
        have h91 := (o8 (91) (by decide)).trans h91
        have hO : ∀ j, j ≠ 92 → F8 j = F j := fun j hj => (o8 j (by omega)).trans (hO j hj)
        refine lv_aload_n X.1.1 X.1.2.1 dX7_reads_131 rfl (lv_at hl 1 rfl) ?_
        refine sx_get X hP in_X7_reads_X7 h91 (by decide) rfl 0 (by decide) lk_X7_reads_fieldLink_RX7_7_RaceWatchModel_w_I rfl dX7_reads_132 ?_
        refine lv_iload_n X.1.1 X.1.2.1 dX7_reads_135 rfl (lv_at hl 3 rfl) ?_
        refine lv_iconst (v := nI 2) X.1.1 X.1.2.1 dX7_reads_136 (by decide) ?_
        refine sx_addN X (45 + 12 * c) (by omega) dX7_reads_137 ?_
        refine lv_iconst (v := (-1)) X.1.1 X.1.2.1 dX7_reads_138 (by decide) ?_
        refine sx_ast X hP h92 (by decide) (45 + 12 * c) (by omega) (by decide) dX7_reads_139 (fun F9 H9 l9 e9 o9 hP => ?_)
        obtain ⟨w9, hw9⟩ : ∃ z, z = upd w8 (45 + 12 * c) (-1) := ⟨_, rfl⟩
        rw [← hw9] at e9
        have hSh_5_6_8_9 : w9 (47 + 12 * c) = (nI (1)) := by rw [hw9]; exact (pk_un (by omega)).trans hSh_5_6_8
        have hDd_5_6_8_9 : w9 (45 + 12 * c) = (-1) := by rw [hw9]; exact pk_us
        have h92 : F9 (92) = rI G (4358) (w9) := e9
        have h91 := (o9 (91) (by decide)).trans h91
        have hO : ∀ j, j ≠ 92 → F9 j = F j := fun j hj => (o9 j (by omega)).trans (hO j hj)
        refine lv_aload_n X.1.1 X.1.2.1 dX7_reads_140 rfl (lv_at hl 1 rfl) ?_
        refine sx_get X hP in_X7_reads_X7 h91 (by decide) rfl 0 (by decide) lk_X7_reads_fieldLink_RX7_7_RaceWatchModel_w_I rfl dX7_reads_141 ?_
        refine lv_iload_n X.1.1 X.1.2.1 dX7_reads_144 rfl (lv_at hl 3 rfl) ?_
        refine lv_iconst (v := nI 3) X.1.1 X.1.2.1 dX7_reads_145 (by decide) ?_
        refine sx_addN X (46 + 12 * c) (by omega) dX7_reads_146 ?_
        refine lv_iconst (v := nI 0) X.1.1 X.1.2.1 dX7_reads_147 (by decide) ?_
        refine sx_ast X hP h92 (by decide) (46 + 12 * c) (by omega) (by decide) dX7_reads_148 (fun F10 H10 l10 e10 o10 hP => ?_)
        obtain ⟨w10, hw10⟩ : ∃ z, z = upd w9 (46 + 12 * c) (nI (0)) := ⟨_, rfl⟩
        rw [← hw10] at e10
        have hSh_5_6_8_9_10 : w10 (47 + 12 * c) = (nI (1)) := by rw [hw10]; exact (pk_un (by omega)).trans hSh_5_6_8_9
        have hDd_5_6_8_9_10 : w10 (45 + 12 * c) = (-1) := by rw [hw10]; exact (pk_un (by omega)).trans hDd_5_6_8_9
        have h92 : F10 (92) = rI G (4358) (w10) := e10
        have h91 := (o10 (91) (by decide)).trans h91
        have hO : ∀ j, j ≠ 92 → F10 j = F j := fun j hj => (o10 j (by omega)).trans (hO j hj)
        refine lv_aload_n X.1.1 X.1.2.1 dX7_reads_149 rfl (lv_at hl 1 rfl) ?_
        refine sx_get X hP in_X7_reads_X7 h91 (by decide) rfl 0 (by decide) lk_X7_reads_fieldLink_RX7_7_RaceWatchModel_w_I rfl dX7_reads_150 ?_
        refine lv_iload_n X.1.1 X.1.2.1 dX7_reads_153 rfl (lv_at hl 3 rfl) ?_
        refine lv_bipush (v := nI 9) X.1.1 X.1.2.1 dX7_reads_154 (by decide) ?_
        refine sx_addN X (52 + 12 * c) (by omega) dX7_reads_156 ?_
        refine lv_dup2_11 X.1.1 X.1.2.1 dX7_reads_157 rfl rfl ?_
        refine sx_ald X hP h92 (by decide) (52 + 12 * c) (by omega) (by decide) dX7_reads_158 ?_
        refine lv_iconst (v := nI 1) X.1.1 X.1.2.1 dX7_reads_159 (by decide) ?_
        refine lv_iadd X.1.1 X.1.2.1 dX7_reads_160 ?_
        refine sx_ast X hP h92 (by decide) (52 + 12 * c) (by omega) (by decide) dX7_reads_161 (fun F11 H11 l11 e11 o11 hP => ?_)
        obtain ⟨w11, hw11⟩ : ∃ z, z = upd w10 (52 + 12 * c) ((w10 (52 + 12 * c)) + (nI (1))) := ⟨_, rfl⟩
        rw [← hw11] at e11
        have hSh_5_6_8_9_10_11 : w11 (47 + 12 * c) = (nI (1)) := by rw [hw11]; exact (pk_un (by omega)).trans hSh_5_6_8_9_10
        have hDd_5_6_8_9_10_11 : w11 (45 + 12 * c) = (-1) := by rw [hw11]; exact (pk_un (by omega)).trans hDd_5_6_8_9_10
        have h92 : F11 (92) = rI G (4358) (w11) := e11
        have h91 := (o11 (91) (by decide)).trans h91
        have hO : ∀ j, j ≠ 92 → F11 j = F j := fun j hj => (o11 j (by omega)).trans (hO j hj)
        rw [hQ]
        exact sx_vret X rfl hs rfl hP dX7_reads_162 (⟨h92.trans (by rw [hw11, hw10, hw9, hw8, hw6, hw5]; unfold readF; rw [cif_f (by rw [hSh]; decide), cif_f (by rw [hDd]; exact fun q => q ((notA_nI hv).mpr c59)), hDd, nI_clamp (by omega)]; try rfl), hO⟩)
      · refine lv_aload_n X.1.1 X.1.2.1 dX7_reads_62 rfl (lv_at hl 1 rfl) ?_
        refine sx_get X hP in_X7_reads_X7 h91 (by decide) rfl 0 (by decide) lk_X7_reads_fieldLink_RX7_7_RaceWatchModel_w_I rfl dX7_reads_63 ?_
        refine lv_iload_n X.1.1 X.1.2.1 dX7_reads_66 rfl (lv_at hl 3 rfl) ?_
        refine lv_iconst (v := nI 2) X.1.1 X.1.2.1 dX7_reads_67 (by decide) ?_
        refine sx_addN X (45 + 12 * c) (by omega) dX7_reads_68 ?_
        refine lv_iload_n X.1.1 X.1.2.1 dX7_reads_69 rfl (lv_at hl 2 rfl) ?_
        refine sx_ast X hP h92 (by decide) (45 + 12 * c) (by omega) (by decide) dX7_reads_70 (fun F12 H12 l12 e12 o12 hP => ?_)
        obtain ⟨w12, hw12⟩ : ∃ z, z = upd w (45 + 12 * c) (nI (t)) := ⟨_, rfl⟩
        rw [← hw12] at e12
        have hSh_12 : w12 (47 + 12 * c) = (nI (0)) := by rw [hw12]; exact (pk_un (by omega)).trans hSh
        have hDd_12 : w12 (45 + 12 * c) = (nI (t)) := by rw [hw12]; exact pk_us
        have h92 : F12 (92) = rI G (4358) (w12) := e12
        have h91 := (o12 (91) (by decide)).trans h91
        have hO : ∀ j, j ≠ 92 → F12 j = F j := fun j hj => (o12 j (by omega)).trans (hO j hj)
        refine lv_aload_n X.1.1 X.1.2.1 dX7_reads_71 rfl (lv_at hl 1 rfl) ?_
        refine sx_get X hP in_X7_reads_X7 h91 (by decide) rfl 0 (by decide) lk_X7_reads_fieldLink_RX7_7_RaceWatchModel_w_I rfl dX7_reads_72 ?_
        refine lv_iload_n X.1.1 X.1.2.1 dX7_reads_75 rfl (lv_at hl 3 rfl) ?_
        refine lv_iconst (v := nI 3) X.1.1 X.1.2.1 dX7_reads_76 (by decide) ?_
        refine sx_addN X (46 + 12 * c) (by omega) dX7_reads_77 ?_
        refine lv_aload_n X.1.1 X.1.2.1 dX7_reads_78 rfl (lv_at hl 1 rfl) ?_
        refine lv_iload_n X.1.1 X.1.2.1 dX7_reads_79 rfl (lv_at hl 2 rfl) ?_
        refine lv_iload_n X.1.1 X.1.2.1 dX7_reads_80 rfl (lv_at hl 2 rfl) ?_
        refine sx_cvI (As := [.int (nI (t)), .int (nI (t))]) (rest := .int (nI (46 + 12 * c)) :: rf G 92 :: []) X (mX7_number l (t := t) (u := t) (by omega) (by omega) h91 h92) gX7_reads_X7_number rfl yv_X7_number ⟨Nat.le_of_ble_eq_true rfl, Nat.le_of_ble_eq_true rfl⟩ h91 (by decide) rfl rfl hl.1 rfl (Nat.le_of_ble_eq_true rfl) dX7_reads_81 ⟨Nat.le_of_ble_eq_true rfl, Nat.le_of_ble_eq_true rfl⟩ hs rfl hP (fun r13 F13 H13 l13 hp hP => ?_)
        obtain ⟨rfl, rfl⟩ := hp
        rw [show w12 (4 + 4 * t + t) = w12 (4 + 5 * t) from congrArg _ (by omega)]
        refine sx_ast X hP h92 (by decide) (46 + 12 * c) (by omega) (by decide) dX7_reads_84 (fun F14 H14 l14 e14 o14 hP => ?_)
        obtain ⟨w14, hw14⟩ : ∃ z, z = upd w12 (46 + 12 * c) (w12 (4 + 5 * t)) := ⟨_, rfl⟩
        rw [← hw14] at e14
        have hSh_12_14 : w14 (47 + 12 * c) = (nI (0)) := by rw [hw14]; exact (pk_un (by omega)).trans hSh_12
        have hDd_12_14 : w14 (45 + 12 * c) = (nI (t)) := by rw [hw14]; exact (pk_un (by omega)).trans hDd_12
        have h92 : F14 (92) = rI G (4358) (w14) := e14
        have h91 := (o14 (91) (by decide)).trans h91
        have hO : ∀ j, j ≠ 92 → F14 j = F j := fun j hj => (o14 j (by omega)).trans (hO j hj)
        refine lv_goto (tgt := 162) X.1.1 X.1.2.1 dX7_reads_85 (by decide) ?_
        rw [hQ]
        exact sx_vret X rfl hs rfl hP dX7_reads_162 (⟨h92.trans (by rw [hw14, hw12]; unfold readF; rw [cif_f (by rw [hSh]; decide), cif_t (by rw [hDd]; exact fun q => c59 ((notA_nI hv).mp q))]; try rfl), hO⟩)
  · refine lv_aload_n X.1.1 X.1.2.1 dX7_reads_0 rfl (lv_at hl 0 rfl) ?_
    refine sx_get X hP in_X7_reads_X7 h91 (by decide) rfl 0 (by decide) lk_X7_reads_fieldLink_RX7_7_RaceWatchModel_w_I rfl dX7_reads_1 ?_
    refine lv_iload_n X.1.1 X.1.2.1 dX7_reads_4 rfl (lv_at hl 2 rfl) ?_
    refine lv_iconst (v := nI 2) X.1.1 X.1.2.1 dX7_reads_5 (by decide) ?_
    refine sx_addN X (45 + 12 * c) (by omega) dX7_reads_6 ?_
    refine sx_ald X hP h92 (by decide) (45 + 12 * c) (by omega) (by decide) dX7_reads_7 ?_
    rw [hDd]
    refine lv_istore_n (lv' := [(3, .int (-1)), (0, rf G 91), (1, .int (nI (t))), (2, .int (nI (43 + 12 * c)))]) X.1.1 X.1.2.1 dX7_reads_8 rfl hl (by decide) rfl (fun ls hl => ?_)
    refine lv_aload_n X.1.1 X.1.2.1 dX7_reads_9 rfl (lv_at hl 1 rfl) ?_
    refine sx_get X hP in_X7_reads_X7 h91 (by decide) rfl 0 (by decide) lk_X7_reads_fieldLink_RX7_7_RaceWatchModel_w_I rfl dX7_reads_10 ?_
    refine lv_iload_n X.1.1 X.1.2.1 dX7_reads_13 rfl (lv_at hl 3 rfl) ?_
    refine lv_iconst (v := nI 4) X.1.1 X.1.2.1 dX7_reads_14 (by decide) ?_
    refine sx_addN X (47 + 12 * c) (by omega) dX7_reads_15 ?_
    refine sx_ald X hP h92 (by decide) (47 + 12 * c) (by omega) (by decide) dX7_reads_16 ?_
    rw [hSh]
    refine lv_iconst (v := nI 1) X.1.1 X.1.2.1 dX7_reads_17 (by decide) ?_
    refine sx_icmp_ne X (by decide) (by decide) (tgt := 40) dX7_reads_18 (by decide) (fun h => absurd h (by decide)) (fun _ => ?_)
    refine lv_aload_n X.1.1 X.1.2.1 dX7_reads_21 rfl (lv_at hl 1 rfl) ?_
    refine sx_get X hP in_X7_reads_X7 h91 (by decide) rfl 0 (by decide) lk_X7_reads_fieldLink_RX7_7_RaceWatchModel_w_I rfl dX7_reads_22 ?_
    refine lv_iload_n X.1.1 X.1.2.1 dX7_reads_25 rfl (lv_at hl 3 rfl) ?_
    refine lv_iconst (v := nI 5) X.1.1 X.1.2.1 dX7_reads_26 (by decide) ?_
    refine sx_addN X (48 + 12 * c) (by omega) dX7_reads_27 ?_
    refine lv_iload_n X.1.1 X.1.2.1 dX7_reads_28 rfl (lv_at hl 2 rfl) ?_
    refine sx_addN X (48 + 12 * c + t) (by omega) dX7_reads_29 ?_
    refine lv_aload_n X.1.1 X.1.2.1 dX7_reads_30 rfl (lv_at hl 1 rfl) ?_
    refine lv_iload_n X.1.1 X.1.2.1 dX7_reads_31 rfl (lv_at hl 2 rfl) ?_
    refine lv_iload_n X.1.1 X.1.2.1 dX7_reads_32 rfl (lv_at hl 2 rfl) ?_
    refine sx_cvI (As := [.int (nI (t)), .int (nI (t))]) (rest := .int (nI (48 + 12 * c + t)) :: rf G 92 :: []) X (mX7_number l (t := t) (u := t) (by omega) (by omega) h91 h92) gX7_reads_X7_number rfl yv_X7_number ⟨Nat.le_of_ble_eq_true rfl, Nat.le_of_ble_eq_true rfl⟩ h91 (by decide) rfl rfl hl.1 rfl (Nat.le_of_ble_eq_true rfl) dX7_reads_33 ⟨Nat.le_of_ble_eq_true rfl, Nat.le_of_ble_eq_true rfl⟩ hs rfl hP (fun r15 F15 H15 l15 hp hP => ?_)
    obtain ⟨rfl, rfl⟩ := hp
    rw [show w (4 + 4 * t + t) = w (4 + 5 * t) from congrArg _ (by omega)]
    refine sx_ast X hP h92 (by decide) (48 + 12 * c + t) (by omega) (by decide) dX7_reads_36 (fun F16 H16 l16 e16 o16 hP => ?_)
    obtain ⟨w16, hw16⟩ : ∃ z, z = upd w (48 + 12 * c + t) (w (4 + 5 * t)) := ⟨_, rfl⟩
    rw [← hw16] at e16
    have hSh_16 : w16 (47 + 12 * c) = (nI (1)) := by rw [hw16]; exact (pk_un (by omega)).trans hSh
    have hDd_16 : w16 (45 + 12 * c) = (-1) := by rw [hw16]; exact (pk_un (by omega)).trans hDd
    have h92 : F16 (92) = rI G (4358) (w16) := e16
    have h91 := (o16 (91) (by decide)).trans h91
    have hO : ∀ j, j ≠ 92 → F16 j = F j := fun j hj => (o16 j (by omega)).trans (hO j hj)
    refine lv_goto (tgt := 162) X.1.1 X.1.2.1 dX7_reads_37 (by decide) ?_
    rw [hQ]
    exact sx_vret X rfl hs rfl hP dX7_reads_162 (⟨h92.trans (by rw [hw16]; unfold readF; rw [cif_t hSh]; try rfl), hO⟩)
