theorem ys_X7_in : yX7_in.cls ≠ "java/lang/invoke/MethodHandle" ∧ yX7_in.cls ≠ "java/lang/invoke/VarHandle" ∧ (parseMethodDescriptor yX7_in.desc).map (fun d => d.parameters.length) = some 3 := by decide +kernel
theorem yv_X7_in : yX7_in.cls = RX7 ∧ yX7_in.cls ≠ "java/lang/invoke/MethodHandle" ∧ yX7_in.cls ≠ "java/lang/invoke/VarHandle" ∧ (parseMethodDescriptor yX7_in.desc).map (fun d => d.parameters.length) = some 3 := ⟨rfl, ys_X7_in⟩
abbrev rmX7_in : Room := { frames := 0, cells := 0, slots := 0, locals := 0 }
set_option maxHeartbeats 4000000 in
set_option maxRecDepth 100000 in
theorem mX7_in {G : sx_G} (l : Launch) {F : Nat → va_E} {n : Nat} {v lo hi : Int64} : sx_I G l yX7_in wsX7_in rmX7_in [.long (v), .long (lo), .long (hi)] (n) F (n) (fun r F1 => F = F1 ∧ ((lo ≤ v ∧ v ≤ hi) ∧ nI 1 = r ∨ ¬ (lo ≤ v ∧ v ≤ hi) ∧ nI 0 = r)) := by
  refine sx_enter (cc := cX7_in) (maxL := 6) (ret := some .boolean) (own := RX7) (nm := "in") (by decide) rfl rfl rfl (Nat.le_of_ble_eq_true rfl) ?_
  intro pp ee ss mm args below meth kc ls Q hQ X hs hP hl
  have hl : lv_has ls 6 [(0, .long (v)), (2, .long (lo)), (4, .long (hi))] := hl
  refine lv_lload_n X.1.1 X.1.2.1 dX7_in_0 rfl (lv_at hl 0 rfl) ?_
  refine lv_lload_n X.1.1 X.1.2.1 dX7_in_1 rfl (lv_at hl 1 rfl) ?_
  refine W.lcmp X.1.1 X.1.2.1 dX7_in_2 ?_
  refine lv_if_lt X.1.1 X.1.2.1 (tgt := 17) dX7_in_3 (by decide) (fun c3 => ?_) (fun c3 => ?_)
  · refine lv_iconst (v := nI 0) X.1.1 X.1.2.1 dX7_in_17 (by decide) ?_
    rw [hQ]
    exact sx_zret X rfl (by decide) hs rfl hP dX7_in_18 (⟨rfl, Or.inr ⟨fun q => Int64.not_lt.mpr q.1 ((lg_cmp_lt _ _).mp c3), rfl⟩⟩)
  · refine lv_lload_n X.1.1 X.1.2.1 dX7_in_6 rfl (lv_at hl 0 rfl) ?_
    refine lv_lload X.1.1 X.1.2.1 dX7_in_7 (lv_at hl 2 rfl) ?_
    refine W.lcmp X.1.1 X.1.2.1 dX7_in_9 ?_
    refine lv_if_gt X.1.1 X.1.2.1 (tgt := 17) dX7_in_10 (by decide) (fun c10 => ?_) (fun c10 => ?_)
    · refine lv_iconst (v := nI 0) X.1.1 X.1.2.1 dX7_in_17 (by decide) ?_
      rw [hQ]
      exact sx_zret X rfl (by decide) hs rfl hP dX7_in_18 (⟨rfl, Or.inr ⟨fun q => Int64.not_lt.mpr q.2 ((lg_cmp_gt _ _).mp c10), rfl⟩⟩)
    · refine lv_iconst (v := nI 1) X.1.1 X.1.2.1 dX7_in_13 (by decide) ?_
      refine lv_goto (tgt := 18) X.1.1 X.1.2.1 dX7_in_14 (by decide) ?_
      rw [hQ]
      exact sx_zret X rfl (by decide) hs rfl hP dX7_in_18 (⟨rfl, Or.inl ⟨⟨(lg_cmp_ge _ _).mp (Int32.not_lt.mp c3), (lg_cmp_le _ _).mp (Int32.not_lt.mp c10)⟩, rfl⟩⟩)
theorem ys_X7_isThread : yX7_isThread.cls ≠ "java/lang/invoke/MethodHandle" ∧ yX7_isThread.cls ≠ "java/lang/invoke/VarHandle" ∧ (parseMethodDescriptor yX7_isThread.desc).map (fun d => d.parameters.length) = some 1 := by decide +kernel
theorem yv_X7_isThread : yX7_isThread.cls = RX7 ∧ yX7_isThread.cls ≠ "java/lang/invoke/MethodHandle" ∧ yX7_isThread.cls ≠ "java/lang/invoke/VarHandle" ∧ (parseMethodDescriptor yX7_isThread.desc).map (fun d => d.parameters.length) = some 1 := ⟨rfl, ys_X7_isThread⟩
theorem lk_X7_isThread_constantLong_RX7_29_3 : (.constantLong RX7 29 (3) : Cond) ∈ wsX7_isThread := List.mem_cons_of_mem _ (List.mem_of_getElem? (i := 0) rfl)
abbrev rmX7_isThread : Room := { frames := 1, cells := 0, slots := 0, locals := 25 }
set_option maxHeartbeats 4000000 in
set_option maxRecDepth 100000 in
theorem mX7_isThread {G : sx_G} (l : Launch) {F : Nat → va_E} {n : Nat} {x : Int32} : sx_I G l yX7_isThread wsX7_isThread rmX7_isThread [.int (x)] (n) F (n) (fun r F1 => F = F1 ∧ ((∃ j, j < 4 ∧ x = nI j) ∧ nI 1 = r ∨ ¬ (∃ j, j < 4 ∧ x = nI j) ∧ nI 0 = r)) := by
  refine sx_enter (cc := cX7_isThread) (maxL := 1) (ret := some .boolean) (own := RX7) (nm := "isThread") (by decide) rfl rfl rfl (Nat.le_of_ble_eq_true rfl) ?_
  intro pp ee ss mm args below meth kc ls Q hQ X hs hP hl
  have hl : lv_has ls 1 [(0, .int (x))] := hl
  refine lv_iload_n X.1.1 X.1.2.1 dX7_isThread_0 rfl (lv_at hl 0 rfl) ?_
  refine lv_i2l (v := (x).toInt64) X.1.1 X.1.2.1 dX7_isThread_1 rfl ?_
  refine lv_lconst (v := 0) X.1.1 X.1.2.1 dX7_isThread_2 (by decide) ?_
  refine lv_ldc2 (v := 3) X.1.1 X.1.2.1 X.1.2.2.2.1 (X.1.2.2.2.2 _ lk_X7_isThread_constantLong_RX7_29_3) dX7_isThread_3 ?_
  refine sx_csI (As := [.long ((x).toInt64), .long (0), .long (3)]) (rest := []) X (mX7_in l) gX7_isThread_X7_in rfl ys_X7_in ⟨Nat.le_of_ble_eq_true rfl, Nat.le_of_ble_eq_true rfl⟩ hl.1 rfl (Nat.le_of_ble_eq_true rfl) dX7_isThread_6 ⟨Nat.le_of_ble_eq_true rfl, Nat.le_of_ble_eq_true rfl⟩ hs rfl hP (fun r1 F1 H1 l1 hp hP => ?_)
  obtain ⟨rfl, ⟨b2, rfl⟩ | ⟨b2, rfl⟩⟩ := hp
  · rw [hQ]
    exact sx_zret X rfl (by decide) hs rfl hP dX7_isThread_9 (⟨rfl, Or.inl ⟨sx_in64 (by decide) (by decide) b2, rfl⟩⟩)
  · rw [hQ]
    exact sx_zret X rfl (by decide) hs rfl hP dX7_isThread_9 (⟨rfl, Or.inr ⟨fun q => b2 (sx_64in (by decide) (by decide) q), rfl⟩⟩)
theorem ys_X7_isLock : yX7_isLock.cls ≠ "java/lang/invoke/MethodHandle" ∧ yX7_isLock.cls ≠ "java/lang/invoke/VarHandle" ∧ (parseMethodDescriptor yX7_isLock.desc).map (fun d => d.parameters.length) = some 1 := by decide +kernel
theorem yv_X7_isLock : yX7_isLock.cls = RX7 ∧ yX7_isLock.cls ≠ "java/lang/invoke/MethodHandle" ∧ yX7_isLock.cls ≠ "java/lang/invoke/VarHandle" ∧ (parseMethodDescriptor yX7_isLock.desc).map (fun d => d.parameters.length) = some 1 := ⟨rfl, ys_X7_isLock⟩
theorem lk_X7_isLock_constantLong_RX7_35_2 : (.constantLong RX7 35 (2) : Cond) ∈ wsX7_isLock := List.mem_cons_of_mem _ (List.mem_of_getElem? (i := 0) rfl)
abbrev rmX7_isLock : Room := { frames := 1, cells := 0, slots := 0, locals := 25 }
set_option maxHeartbeats 4000000 in
set_option maxRecDepth 100000 in
theorem mX7_isLock {G : sx_G} (l : Launch) {F : Nat → va_E} {n : Nat} {x : Int32} : sx_I G l yX7_isLock wsX7_isLock rmX7_isLock [.int (x)] (n) F (n) (fun r F1 => F = F1 ∧ ((∃ j, j < 3 ∧ x = nI j) ∧ nI 1 = r ∨ ¬ (∃ j, j < 3 ∧ x = nI j) ∧ nI 0 = r)) := by
  refine sx_enter (cc := cX7_isLock) (maxL := 1) (ret := some .boolean) (own := RX7) (nm := "isLock") (by decide) rfl rfl rfl (Nat.le_of_ble_eq_true rfl) ?_
  intro pp ee ss mm args below meth kc ls Q hQ X hs hP hl
  have hl : lv_has ls 1 [(0, .int (x))] := hl
  refine lv_iload_n X.1.1 X.1.2.1 dX7_isLock_0 rfl (lv_at hl 0 rfl) ?_
  refine lv_i2l (v := (x).toInt64) X.1.1 X.1.2.1 dX7_isLock_1 rfl ?_
  refine lv_lconst (v := 0) X.1.1 X.1.2.1 dX7_isLock_2 (by decide) ?_
  refine lv_ldc2 (v := 2) X.1.1 X.1.2.1 X.1.2.2.2.1 (X.1.2.2.2.2 _ lk_X7_isLock_constantLong_RX7_35_2) dX7_isLock_3 ?_
  refine sx_csI (As := [.long ((x).toInt64), .long (0), .long (2)]) (rest := []) X (mX7_in l) gX7_isLock_X7_in rfl ys_X7_in ⟨Nat.le_of_ble_eq_true rfl, Nat.le_of_ble_eq_true rfl⟩ hl.1 rfl (Nat.le_of_ble_eq_true rfl) dX7_isLock_6 ⟨Nat.le_of_ble_eq_true rfl, Nat.le_of_ble_eq_true rfl⟩ hs rfl hP (fun r1 F1 H1 l1 hp hP => ?_)
  obtain ⟨rfl, ⟨b2, rfl⟩ | ⟨b2, rfl⟩⟩ := hp
  · rw [hQ]
    exact sx_zret X rfl (by decide) hs rfl hP dX7_isLock_9 (⟨rfl, Or.inl ⟨sx_in64 (by decide) (by decide) b2, rfl⟩⟩)
  · rw [hQ]
    exact sx_zret X rfl (by decide) hs rfl hP dX7_isLock_9 (⟨rfl, Or.inr ⟨fun q => b2 (sx_64in (by decide) (by decide) q), rfl⟩⟩)
theorem ys_X7_isCell : yX7_isCell.cls ≠ "java/lang/invoke/MethodHandle" ∧ yX7_isCell.cls ≠ "java/lang/invoke/VarHandle" ∧ (parseMethodDescriptor yX7_isCell.desc).map (fun d => d.parameters.length) = some 1 := by decide +kernel
theorem yv_X7_isCell : yX7_isCell.cls = RX7 ∧ yX7_isCell.cls ≠ "java/lang/invoke/MethodHandle" ∧ yX7_isCell.cls ≠ "java/lang/invoke/VarHandle" ∧ (parseMethodDescriptor yX7_isCell.desc).map (fun d => d.parameters.length) = some 1 := ⟨rfl, ys_X7_isCell⟩
theorem lk_X7_isCell_constantLong_RX7_29_3 : (.constantLong RX7 29 (3) : Cond) ∈ wsX7_isCell := List.mem_cons_of_mem _ (List.mem_of_getElem? (i := 0) rfl)
abbrev rmX7_isCell : Room := { frames := 1, cells := 0, slots := 0, locals := 25 }
set_option maxHeartbeats 4000000 in
set_option maxRecDepth 100000 in
theorem mX7_isCell {G : sx_G} (l : Launch) {F : Nat → va_E} {n : Nat} {x : Int32} : sx_I G l yX7_isCell wsX7_isCell rmX7_isCell [.int (x)] (n) F (n) (fun r F1 => F = F1 ∧ ((∃ j, j < 4 ∧ x = nI j) ∧ nI 1 = r ∨ ¬ (∃ j, j < 4 ∧ x = nI j) ∧ nI 0 = r)) := by
  refine sx_enter (cc := cX7_isCell) (maxL := 1) (ret := some .boolean) (own := RX7) (nm := "isCell") (by decide) rfl rfl rfl (Nat.le_of_ble_eq_true rfl) ?_
  intro pp ee ss mm args below meth kc ls Q hQ X hs hP hl
  have hl : lv_has ls 1 [(0, .int (x))] := hl
  refine lv_iload_n X.1.1 X.1.2.1 dX7_isCell_0 rfl (lv_at hl 0 rfl) ?_
  refine lv_i2l (v := (x).toInt64) X.1.1 X.1.2.1 dX7_isCell_1 rfl ?_
  refine lv_lconst (v := 0) X.1.1 X.1.2.1 dX7_isCell_2 (by decide) ?_
  refine lv_ldc2 (v := 3) X.1.1 X.1.2.1 X.1.2.2.2.1 (X.1.2.2.2.2 _ lk_X7_isCell_constantLong_RX7_29_3) dX7_isCell_3 ?_
  refine sx_csI (As := [.long ((x).toInt64), .long (0), .long (3)]) (rest := []) X (mX7_in l) gX7_isCell_X7_in rfl ys_X7_in ⟨Nat.le_of_ble_eq_true rfl, Nat.le_of_ble_eq_true rfl⟩ hl.1 rfl (Nat.le_of_ble_eq_true rfl) dX7_isCell_6 ⟨Nat.le_of_ble_eq_true rfl, Nat.le_of_ble_eq_true rfl⟩ hs rfl hP (fun r1 F1 H1 l1 hp hP => ?_)
  obtain ⟨rfl, ⟨b2, rfl⟩ | ⟨b2, rfl⟩⟩ := hp
  · rw [hQ]
    exact sx_zret X rfl (by decide) hs rfl hP dX7_isCell_9 (⟨rfl, Or.inl ⟨sx_in64 (by decide) (by decide) b2, rfl⟩⟩)
  · rw [hQ]
    exact sx_zret X rfl (by decide) hs rfl hP dX7_isCell_9 (⟨rfl, Or.inr ⟨fun q => b2 (sx_64in (by decide) (by decide) q), rfl⟩⟩)
theorem ys_X7_isSeen : yX7_isSeen.cls ≠ "java/lang/invoke/MethodHandle" ∧ yX7_isSeen.cls ≠ "java/lang/invoke/VarHandle" ∧ (parseMethodDescriptor yX7_isSeen.desc).map (fun d => d.parameters.length) = some 1 := by decide +kernel
theorem yv_X7_isSeen : yX7_isSeen.cls = RX7 ∧ yX7_isSeen.cls ≠ "java/lang/invoke/MethodHandle" ∧ yX7_isSeen.cls ≠ "java/lang/invoke/VarHandle" ∧ (parseMethodDescriptor yX7_isSeen.desc).map (fun d => d.parameters.length) = some 1 := ⟨rfl, ys_X7_isSeen⟩
abbrev rmX7_isSeen : Room := { frames := 1, cells := 0, slots := 0, locals := 25 }
set_option maxHeartbeats 4000000 in
set_option maxRecDepth 100000 in
theorem mX7_isSeen {G : sx_G} (l : Launch) {F : Nat → va_E} {n : Nat} {x : Int32} : sx_I G l yX7_isSeen wsX7_isSeen rmX7_isSeen [.int (x)] (n) F (n) (fun r F1 => F = F1 ∧ ((∃ j, j < 2 ∧ x = nI j) ∧ nI 1 = r ∨ ¬ (∃ j, j < 2 ∧ x = nI j) ∧ nI 0 = r)) := by
  refine sx_enter (cc := cX7_isSeen) (maxL := 1) (ret := some .boolean) (own := RX7) (nm := "isSeen") (by decide) rfl rfl rfl (Nat.le_of_ble_eq_true rfl) ?_
  intro pp ee ss mm args below meth kc ls Q hQ X hs hP hl
  have hl : lv_has ls 1 [(0, .int (x))] := hl
  refine lv_iload_n X.1.1 X.1.2.1 dX7_isSeen_0 rfl (lv_at hl 0 rfl) ?_
  refine lv_i2l (v := (x).toInt64) X.1.1 X.1.2.1 dX7_isSeen_1 rfl ?_
  refine lv_lconst (v := 0) X.1.1 X.1.2.1 dX7_isSeen_2 (by decide) ?_
  refine lv_lconst (v := 1) X.1.1 X.1.2.1 dX7_isSeen_3 (by decide) ?_
  refine sx_csI (As := [.long ((x).toInt64), .long (0), .long (1)]) (rest := []) X (mX7_in l) gX7_isSeen_X7_in rfl ys_X7_in ⟨Nat.le_of_ble_eq_true rfl, Nat.le_of_ble_eq_true rfl⟩ hl.1 rfl (Nat.le_of_ble_eq_true rfl) dX7_isSeen_4 ⟨Nat.le_of_ble_eq_true rfl, Nat.le_of_ble_eq_true rfl⟩ hs rfl hP (fun r1 F1 H1 l1 hp hP => ?_)
  obtain ⟨rfl, ⟨b2, rfl⟩ | ⟨b2, rfl⟩⟩ := hp
  · rw [hQ]
    exact sx_zret X rfl (by decide) hs rfl hP dX7_isSeen_7 (⟨rfl, Or.inl ⟨sx_in64 (by decide) (by decide) b2, rfl⟩⟩)
  · rw [hQ]
    exact sx_zret X rfl (by decide) hs rfl hP dX7_isSeen_7 (⟨rfl, Or.inr ⟨fun q => b2 (sx_64in (by decide) (by decide) q), rfl⟩⟩)
theorem ys_X7_of : yX7_of.cls ≠ "java/lang/invoke/MethodHandle" ∧ yX7_of.cls ≠ "java/lang/invoke/VarHandle" ∧ (parseMethodDescriptor yX7_of.desc).map (fun d => d.parameters.length) = some 1 := by decide +kernel
theorem yv_X7_of : yX7_of.cls = RX7 ∧ yX7_of.cls ≠ "java/lang/invoke/MethodHandle" ∧ yX7_of.cls ≠ "java/lang/invoke/VarHandle" ∧ (parseMethodDescriptor yX7_of.desc).map (fun d => d.parameters.length) = some 1 := ⟨rfl, ys_X7_of⟩
abbrev rmX7_of : Room := { frames := 0, cells := 0, slots := 0, locals := 0 }
set_option maxHeartbeats 4000000 in
set_option maxRecDepth 100000 in
theorem mX7_of {G : sx_G} (l : Launch) {F : Nat → va_E} {n c : Nat} : sx_I G l yX7_of wsX7_of rmX7_of [.int (nI (c))] (n) F (n) (fun r F1 => F = F1 ∧ nI (43 + 12 * c) = r) := by
  refine sx_enter (cc := cX7_of) (maxL := 1) (ret := some .int) (own := RX7) (nm := "of") (by decide) rfl rfl rfl (Nat.le_of_ble_eq_true rfl) ?_
  intro pp ee ss mm args below meth kc ls Q hQ X hs hP hl
  have hl : lv_has ls 1 [(0, .int (nI (c)))] := hl
  refine lv_bipush (v := nI 43) X.1.1 X.1.2.1 dX7_of_0 (by decide) ?_
  refine lv_bipush (v := nI 12) X.1.1 X.1.2.1 dX7_of_2 (by decide) ?_
  refine lv_iload_n X.1.1 X.1.2.1 dX7_of_4 rfl (lv_at hl 0 rfl) ?_
  refine sx_mulN X (12 * c) (by omega) dX7_of_5 ?_
  refine sx_addN X (43 + 12 * c) (by omega) dX7_of_6 ?_
  rw [hQ]
  exact sx_iret X rfl hs rfl hP dX7_of_7 (⟨rfl, rfl⟩)
theorem ys_X7_number : yX7_number.cls ≠ "java/lang/invoke/MethodHandle" ∧ yX7_number.cls ≠ "java/lang/invoke/VarHandle" ∧ (parseMethodDescriptor yX7_number.desc).map (fun d => d.parameters.length) = some 2 := by decide +kernel
theorem yv_X7_number : yX7_number.cls = RX7 ∧ yX7_number.cls ≠ "java/lang/invoke/MethodHandle" ∧ yX7_number.cls ≠ "java/lang/invoke/VarHandle" ∧ (parseMethodDescriptor yX7_number.desc).map (fun d => d.parameters.length) = some 2 := ⟨rfl, ys_X7_number⟩
theorem in_X7_number_X7 : ∀ w ∈ wsX70, w ∈ wsX7_number := fun _ h => List.mem_cons_of_mem _ (List.mem_append_right _ (h))
theorem lk_X7_number_fieldLink_RX7_7_RaceWatchModel_w_I : (.fieldLink RX7 7 "RaceWatchModel" "w" "[I" : Cond) ∈ wsX7_number := List.mem_cons_of_mem _ (List.mem_append_left _ (List.mem_of_getElem? (i := 0) rfl))
abbrev rmX7_number : Room := { frames := 0, cells := 0, slots := 0, locals := 0 }
set_option maxHeartbeats 4000000 in
set_option maxRecDepth 100000 in
theorem mX7_number {G : sx_G} (l : Launch) {F : Nat → va_E} {w : Nat → Int32} {of : List Value} {t u : Nat} (ht : t < 4) (hu : u < 4) (h91 : F (91) = ob 7 (rf G 92 :: of)) (h92 : F (92) = rI G (4358) (w)) : sx_I G l yX7_number wsX7_number rmX7_number [rf G 91, .int (nI (t)), .int (nI (u))] (97) F (97) (fun r F1 => F = F1 ∧ w (4 + 4 * t + u) = r) := by
  refine sx_enter (cc := cX7_number) (maxL := 3) (ret := some .int) (own := RX7) (nm := "number") (by decide) rfl rfl rfl (Nat.le_of_ble_eq_true rfl) ?_
  intro pp ee ss mm args below meth kc ls Q hQ X hs hP hl
  have hl : lv_has ls 3 [(0, rf G 91), (1, .int (nI (t))), (2, .int (nI (u)))] := hl
  refine lv_aload_n X.1.1 X.1.2.1 dX7_number_0 rfl (lv_at hl 0 rfl) ?_
  refine sx_get X hP in_X7_number_X7 h91 (by decide) rfl 0 (by decide) lk_X7_number_fieldLink_RX7_7_RaceWatchModel_w_I rfl dX7_number_1 ?_
  refine lv_iconst (v := nI 4) X.1.1 X.1.2.1 dX7_number_4 (by decide) ?_
  refine lv_iconst (v := nI 4) X.1.1 X.1.2.1 dX7_number_5 (by decide) ?_
  refine lv_iload_n X.1.1 X.1.2.1 dX7_number_6 rfl (lv_at hl 1 rfl) ?_
  refine sx_mulN X (4 * t) (by omega) dX7_number_7 ?_
  refine sx_addN X (4 + 4 * t) (by omega) dX7_number_8 ?_
  refine lv_iload_n X.1.1 X.1.2.1 dX7_number_9 rfl (lv_at hl 2 rfl) ?_
  refine sx_addN X (4 + 4 * t + u) (by omega) dX7_number_10 ?_
  refine sx_ald X hP h92 (by decide) (4 + 4 * t + u) (by omega) (by decide) dX7_number_11 ?_
  rw [hQ]
  exact sx_iret X rfl hs rfl hP dX7_number_12 (⟨rfl, rfl⟩)
theorem ys_X7_held : yX7_held.cls ≠ "java/lang/invoke/MethodHandle" ∧ yX7_held.cls ≠ "java/lang/invoke/VarHandle" ∧ (parseMethodDescriptor yX7_held.desc).map (fun d => d.parameters.length) = some 1 := by decide +kernel
theorem yv_X7_held : yX7_held.cls = RX7 ∧ yX7_held.cls ≠ "java/lang/invoke/MethodHandle" ∧ yX7_held.cls ≠ "java/lang/invoke/VarHandle" ∧ (parseMethodDescriptor yX7_held.desc).map (fun d => d.parameters.length) = some 1 := ⟨rfl, ys_X7_held⟩
theorem in_X7_held_X7 : ∀ w ∈ wsX70, w ∈ wsX7_held := fun _ h => List.mem_cons_of_mem _ (List.mem_append_right _ (h))
theorem lk_X7_held_fieldLink_RX7_7_RaceWatchModel_w_I : (.fieldLink RX7 7 "RaceWatchModel" "w" "[I" : Cond) ∈ wsX7_held := List.mem_cons_of_mem _ (List.mem_append_left _ (List.mem_of_getElem? (i := 0) rfl))
abbrev rmX7_held : Room := { frames := 0, cells := 0, slots := 0, locals := 0 }
set_option maxHeartbeats 4000000 in
set_option maxRecDepth 100000 in
theorem mX7_held {G : sx_G} (l : Launch) {F : Nat → va_E} {w : Nat → Int32} {of : List Value} {t : Int32} (h91 : F (91) = ob 7 (rf G 92 :: of)) (h92 : F (92) = rI G (4358) (w)) : sx_I G l yX7_held wsX7_held rmX7_held [rf G 91, .int (t)] (97) F (97) (fun r F1 => F = F1 ∧ heldF (fun j => w (40 + j)) t = r) := by
  refine sx_enter (cc := cX7_held) (maxL := 4) (ret := some .int) (own := RX7) (nm := "held") (by decide) rfl rfl rfl (Nat.le_of_ble_eq_true rfl) ?_
  intro pp ee ss mm args below meth kc ls Q hQ X hs hP hl
  have hl : lv_has ls 4 [(0, rf G 91), (1, .int (t))] := hl
  refine lv_iconst (v := nI 0) X.1.1 X.1.2.1 dX7_held_0 (by decide) ?_
  refine lv_istore_n (lv' := [(2, .int (nI 0)), (0, rf G 91), (1, .int (t))]) X.1.1 X.1.2.1 dX7_held_1 rfl hl (by decide) rfl (fun ls hl => ?_)
  refine lv_iconst (v := nI 0) X.1.1 X.1.2.1 dX7_held_2 (by decide) ?_
  refine lv_istore_n (lv' := [(3, .int (nI 0)), (2, .int (nI 0)), (0, rf G 91), (1, .int (t))]) X.1.1 X.1.2.1 dX7_held_3 rfl hl (by decide) rfl (fun ls hl => ?_)
  refine lv_iload_n X.1.1 X.1.2.1 dX7_held_4 rfl (lv_at hl 0 rfl) ?_
  refine lv_iconst (v := nI 3) X.1.1 X.1.2.1 dX7_held_5 (by decide) ?_
  refine sx_icmp_ge X (by decide) (by decide) (tgt := 38) dX7_held_6 (by decide) (fun h => absurd h (by decide)) (fun _ => ?_)
  refine lv_iload_n X.1.1 X.1.2.1 dX7_held_9 rfl (lv_at hl 1 rfl) ?_
  refine lv_aload_n X.1.1 X.1.2.1 dX7_held_10 rfl (lv_at hl 2 rfl) ?_
  refine sx_get X hP in_X7_held_X7 h91 (by decide) rfl 0 (by decide) lk_X7_held_fieldLink_RX7_7_RaceWatchModel_w_I rfl dX7_held_11 ?_
  refine lv_bipush (v := nI 40) X.1.1 X.1.2.1 dX7_held_14 (by decide) ?_
  refine lv_iload_n X.1.1 X.1.2.1 dX7_held_16 rfl (lv_at hl 0 rfl) ?_
  refine sx_addN X (40) rfl dX7_held_17 ?_
  refine sx_ald X hP h92 (by decide) (40) (by decide) (by decide) dX7_held_18 ?_
  refine lv_iload_n X.1.1 X.1.2.1 dX7_held_19 rfl (lv_at hl 3 rfl) ?_
  refine sx_join (P := fun z => W pp l ee rmX7_held ss mm args below meth kc ss.heap [] 0 0 Q (F0 mm 30 ls (.int z :: .int (nI 0) :: []))) ((w 40) = (t)) (a := ((nI (1)) <<< ((nI (0)) &&& 31))) (b := (nI (0))) (fun ja jb => ?_) ?_
  · refine lv_icmp_ne X.1.1 X.1.2.1 (tgt := 29) dX7_held_20 (by decide) (fun c20 => ?_) (fun c20 => ?_)
    · refine lv_iconst (v := nI 0) X.1.1 X.1.2.1 dX7_held_29 (by decide) ?_
      exact jb c20
    · refine lv_iconst (v := nI 1) X.1.1 X.1.2.1 dX7_held_23 (by decide) ?_
      refine lv_iload_n X.1.1 X.1.2.1 dX7_held_24 rfl (lv_at hl 0 rfl) ?_
      refine lv_ishl X.1.1 X.1.2.1 dX7_held_25 ?_
      refine lv_goto (tgt := 30) X.1.1 X.1.2.1 dX7_held_26 (by decide) ?_
      exact ja c20
  · refine lv_ior X.1.1 X.1.2.1 dX7_held_30 ?_
    refine lv_istore_n (lv' := [(2, .int ((nI (0)) ||| (if (w 40) = (t) then ((nI (1)) <<< ((nI (0)) &&& 31)) else (nI (0))))), (3, .int (nI 0)), (0, rf G 91), (1, .int (t))]) X.1.1 X.1.2.1 dX7_held_31 rfl hl (by decide) rfl (fun ls hl => ?_)
    refine lv_iinc (v := (nI (1))) (lv' := [(3, .int (nI 1)), (2, .int ((nI (0)) ||| (if (w 40) = (t) then ((nI (1)) <<< ((nI (0)) &&& 31)) else (nI (0))))), (0, rf G 91), (1, .int (t))]) X.1.1 X.1.2.1 dX7_held_32 hl (k := 1) rfl (by decide) (by decide) rfl (fun ls hl => ?_)
    refine lv_goto (tgt := 4) X.1.1 X.1.2.1 dX7_held_35 (by decide) ?_
    refine lv_iload_n X.1.1 X.1.2.1 dX7_held_4 rfl (lv_at hl 0 rfl) ?_
    refine lv_iconst (v := nI 3) X.1.1 X.1.2.1 dX7_held_5 (by decide) ?_
    refine sx_icmp_ge X (by decide) (by decide) (tgt := 38) dX7_held_6 (by decide) (fun h => absurd h (by decide)) (fun _ => ?_)
    refine lv_iload_n X.1.1 X.1.2.1 dX7_held_9 rfl (lv_at hl 1 rfl) ?_
    refine lv_aload_n X.1.1 X.1.2.1 dX7_held_10 rfl (lv_at hl 2 rfl) ?_
    refine sx_get X hP in_X7_held_X7 h91 (by decide) rfl 0 (by decide) lk_X7_held_fieldLink_RX7_7_RaceWatchModel_w_I rfl dX7_held_11 ?_
    refine lv_bipush (v := nI 40) X.1.1 X.1.2.1 dX7_held_14 (by decide) ?_
    refine lv_iload_n X.1.1 X.1.2.1 dX7_held_16 rfl (lv_at hl 0 rfl) ?_
    refine sx_addN X (41) rfl dX7_held_17 ?_
    refine sx_ald X hP h92 (by decide) (41) (by decide) (by decide) dX7_held_18 ?_
    refine lv_iload_n X.1.1 X.1.2.1 dX7_held_19 rfl (lv_at hl 3 rfl) ?_
    refine sx_join (P := fun z => W pp l ee rmX7_held ss mm args below meth kc ss.heap [] 0 0 Q (F0 mm 30 ls (.int z :: .int ((nI (0)) ||| (if (w 40) = (t) then ((nI (1)) <<< ((nI (0)) &&& 31)) else (nI (0)))) :: []))) ((w 41) = (t)) (a := ((nI (1)) <<< ((nI (1)) &&& 31))) (b := (nI (0))) (fun ja jb => ?_) ?_
    · refine lv_icmp_ne X.1.1 X.1.2.1 (tgt := 29) dX7_held_20 (by decide) (fun c20 => ?_) (fun c20 => ?_)
      · refine lv_iconst (v := nI 0) X.1.1 X.1.2.1 dX7_held_29 (by decide) ?_
        exact jb c20
      · refine lv_iconst (v := nI 1) X.1.1 X.1.2.1 dX7_held_23 (by decide) ?_
        refine lv_iload_n X.1.1 X.1.2.1 dX7_held_24 rfl (lv_at hl 0 rfl) ?_
        refine lv_ishl X.1.1 X.1.2.1 dX7_held_25 ?_
        refine lv_goto (tgt := 30) X.1.1 X.1.2.1 dX7_held_26 (by decide) ?_
        exact ja c20
    · refine lv_ior X.1.1 X.1.2.1 dX7_held_30 ?_
      refine lv_istore_n (lv' := [(2, .int (((nI (0)) ||| (if (w 40) = (t) then ((nI (1)) <<< ((nI (0)) &&& 31)) else (nI (0)))) ||| (if (w 41) = (t) then ((nI (1)) <<< ((nI (1)) &&& 31)) else (nI (0))))), (3, .int (nI 1)), (0, rf G 91), (1, .int (t))]) X.1.1 X.1.2.1 dX7_held_31 rfl hl (by decide) rfl (fun ls hl => ?_)
      refine lv_iinc (v := (nI (2))) (lv' := [(3, .int (nI 2)), (2, .int (((nI (0)) ||| (if (w 40) = (t) then ((nI (1)) <<< ((nI (0)) &&& 31)) else (nI (0)))) ||| (if (w 41) = (t) then ((nI (1)) <<< ((nI (1)) &&& 31)) else (nI (0))))), (0, rf G 91), (1, .int (t))]) X.1.1 X.1.2.1 dX7_held_32 hl (k := 1) rfl (by decide) (by decide) rfl (fun ls hl => ?_)
      refine lv_goto (tgt := 4) X.1.1 X.1.2.1 dX7_held_35 (by decide) ?_
      refine lv_iload_n X.1.1 X.1.2.1 dX7_held_4 rfl (lv_at hl 0 rfl) ?_
      refine lv_iconst (v := nI 3) X.1.1 X.1.2.1 dX7_held_5 (by decide) ?_
      refine sx_icmp_ge X (by decide) (by decide) (tgt := 38) dX7_held_6 (by decide) (fun h => absurd h (by decide)) (fun _ => ?_)
      refine lv_iload_n X.1.1 X.1.2.1 dX7_held_9 rfl (lv_at hl 1 rfl) ?_
      refine lv_aload_n X.1.1 X.1.2.1 dX7_held_10 rfl (lv_at hl 2 rfl) ?_
      refine sx_get X hP in_X7_held_X7 h91 (by decide) rfl 0 (by decide) lk_X7_held_fieldLink_RX7_7_RaceWatchModel_w_I rfl dX7_held_11 ?_
      refine lv_bipush (v := nI 40) X.1.1 X.1.2.1 dX7_held_14 (by decide) ?_
      refine lv_iload_n X.1.1 X.1.2.1 dX7_held_16 rfl (lv_at hl 0 rfl) ?_
      refine sx_addN X (42) rfl dX7_held_17 ?_
      refine sx_ald X hP h92 (by decide) (42) (by decide) (by decide) dX7_held_18 ?_
      refine lv_iload_n X.1.1 X.1.2.1 dX7_held_19 rfl (lv_at hl 3 rfl) ?_
      refine sx_join (P := fun z => W pp l ee rmX7_held ss mm args below meth kc ss.heap [] 0 0 Q (F0 mm 30 ls (.int z :: .int (((nI (0)) ||| (if (w 40) = (t) then ((nI (1)) <<< ((nI (0)) &&& 31)) else (nI (0)))) ||| (if (w 41) = (t) then ((nI (1)) <<< ((nI (1)) &&& 31)) else (nI (0)))) :: []))) ((w 42) = (t)) (a := ((nI (1)) <<< ((nI (2)) &&& 31))) (b := (nI (0))) (fun ja jb => ?_) ?_
      · refine lv_icmp_ne X.1.1 X.1.2.1 (tgt := 29) dX7_held_20 (by decide) (fun c20 => ?_) (fun c20 => ?_)
        · refine lv_iconst (v := nI 0) X.1.1 X.1.2.1 dX7_held_29 (by decide) ?_
          exact jb c20
        · refine lv_iconst (v := nI 1) X.1.1 X.1.2.1 dX7_held_23 (by decide) ?_
          refine lv_iload_n X.1.1 X.1.2.1 dX7_held_24 rfl (lv_at hl 0 rfl) ?_
          refine lv_ishl X.1.1 X.1.2.1 dX7_held_25 ?_
          refine lv_goto (tgt := 30) X.1.1 X.1.2.1 dX7_held_26 (by decide) ?_
          exact ja c20
      · refine lv_ior X.1.1 X.1.2.1 dX7_held_30 ?_
        refine lv_istore_n (lv' := [(2, .int ((((nI (0)) ||| (if (w 40) = (t) then ((nI (1)) <<< ((nI (0)) &&& 31)) else (nI (0)))) ||| (if (w 41) = (t) then ((nI (1)) <<< ((nI (1)) &&& 31)) else (nI (0)))) ||| (if (w 42) = (t) then ((nI (1)) <<< ((nI (2)) &&& 31)) else (nI (0))))), (3, .int (nI 2)), (0, rf G 91), (1, .int (t))]) X.1.1 X.1.2.1 dX7_held_31 rfl hl (by decide) rfl (fun ls hl => ?_)
        refine lv_iinc (v := (nI (3))) (lv' := [(3, .int (nI 3)), (2, .int ((((nI (0)) ||| (if (w 40) = (t) then ((nI (1)) <<< ((nI (0)) &&& 31)) else (nI (0)))) ||| (if (w 41) = (t) then ((nI (1)) <<< ((nI (1)) &&& 31)) else (nI (0)))) ||| (if (w 42) = (t) then ((nI (1)) <<< ((nI (2)) &&& 31)) else (nI (0))))), (0, rf G 91), (1, .int (t))]) X.1.1 X.1.2.1 dX7_held_32 hl (k := 1) rfl (by decide) (by decide) rfl (fun ls hl => ?_)
        refine lv_goto (tgt := 4) X.1.1 X.1.2.1 dX7_held_35 (by decide) ?_
        refine lv_iload_n X.1.1 X.1.2.1 dX7_held_4 rfl (lv_at hl 0 rfl) ?_
        refine lv_iconst (v := nI 3) X.1.1 X.1.2.1 dX7_held_5 (by decide) ?_
        refine sx_icmp_ge X (by decide) (by decide) (tgt := 38) dX7_held_6 (by decide) (fun _ => ?_) (fun h => absurd h (by decide))
        refine lv_iload_n X.1.1 X.1.2.1 dX7_held_38 rfl (lv_at hl 1 rfl) ?_
        rw [hQ]
        exact sx_iret X rfl hs rfl hP dX7_held_39 (⟨rfl, by simp only [heldF, Nat.reduceAdd]; (repeat' split) <;> first | rfl | (exfalso; simp_all; done) | simp_all⟩)
theorem ys_X7_joins : yX7_joins.cls ≠ "java/lang/invoke/MethodHandle" ∧ yX7_joins.cls ≠ "java/lang/invoke/VarHandle" ∧ (parseMethodDescriptor yX7_joins.desc).map (fun d => d.parameters.length) = some 2 := by decide +kernel
theorem yv_X7_joins : yX7_joins.cls = RX7 ∧ yX7_joins.cls ≠ "java/lang/invoke/MethodHandle" ∧ yX7_joins.cls ≠ "java/lang/invoke/VarHandle" ∧ (parseMethodDescriptor yX7_joins.desc).map (fun d => d.parameters.length) = some 2 := ⟨rfl, ys_X7_joins⟩
theorem in_X7_joins_X7 : ∀ w ∈ wsX70, w ∈ wsX7_joins := fun _ h => List.mem_cons_of_mem _ (List.mem_append_right _ (h))
theorem lk_X7_joins_fieldLink_RX7_7_RaceWatchModel_w_I : (.fieldLink RX7 7 "RaceWatchModel" "w" "[I" : Cond) ∈ wsX7_joins := List.mem_cons_of_mem _ (List.mem_append_left _ (List.mem_of_getElem? (i := 0) rfl))
abbrev rmX7_joins : Room := { frames := 0, cells := 0, slots := 0, locals := 0 }
set_option maxHeartbeats 4000000 in
set_option maxRecDepth 100000 in
theorem mX7_joins {G : sx_G} (l : Launch) {F : Nat → va_E} {w : Nat → Int32} {of : List Value} {to fr : Nat} (ht : to < 4000) (hf : fr < 4000) (h91 : F (91) = ob 7 (rf G 92 :: of)) (h92 : F (92) = rI G (4358) (w)) : sx_V G l yX7_joins wsX7_joins rmX7_joins [rf G 91, .int (nI (to)), .int (nI (fr))] (97) F (97) (fun F1 => F1 92 = rI G 4358 (joinF w to fr) ∧ ∀ j, j ≠ 92 → F1 j = F j) := by
  refine sx_enter (cc := cX7_joins) (maxL := 4) (ret := none) (own := RX7) (nm := "joins") (by decide) rfl rfl rfl (Nat.le_of_ble_eq_true rfl) ?_
  intro pp ee ss mm args below meth kc ls Q hQ X hs hP hl
  have hl : lv_has ls 4 [(0, rf G 91), (1, .int (nI (to))), (2, .int (nI (fr)))] := hl
  have hO : ∀ j, j ≠ 92 → F j = F j := fun _ _ => rfl
  refine lv_iconst (v := nI 0) X.1.1 X.1.2.1 dX7_joins_0 (by decide) ?_
  refine lv_istore_n (lv' := [(3, .int (nI 0)), (0, rf G 91), (1, .int (nI (to))), (2, .int (nI (fr)))]) X.1.1 X.1.2.1 dX7_joins_1 rfl hl (by decide) rfl (fun ls hl => ?_)
  refine lv_iload_n X.1.1 X.1.2.1 dX7_joins_2 rfl (lv_at hl 0 rfl) ?_
  refine lv_iconst (v := nI 4) X.1.1 X.1.2.1 dX7_joins_3 (by decide) ?_
  refine sx_icmp_ge X (by decide) (by decide) (tgt := 59) dX7_joins_4 (by decide) (fun h => absurd h (by decide)) (fun _ => ?_)
  refine lv_aload_n X.1.1 X.1.2.1 dX7_joins_7 rfl (lv_at hl 1 rfl) ?_
  refine sx_get X hP in_X7_joins_X7 h91 (by decide) rfl 0 (by decide) lk_X7_joins_fieldLink_RX7_7_RaceWatchModel_w_I rfl dX7_joins_8 ?_
  refine lv_iload_n X.1.1 X.1.2.1 dX7_joins_11 rfl (lv_at hl 2 rfl) ?_
  refine lv_iload_n X.1.1 X.1.2.1 dX7_joins_12 rfl (lv_at hl 0 rfl) ?_
  refine sx_addN X (to) (by omega) dX7_joins_13 ?_
  refine lv_aload_n X.1.1 X.1.2.1 dX7_joins_14 rfl (lv_at hl 1 rfl) ?_
  refine sx_get X hP in_X7_joins_X7 h91 (by decide) rfl 0 (by decide) lk_X7_joins_fieldLink_RX7_7_RaceWatchModel_w_I rfl dX7_joins_15 ?_
  refine lv_iload_n X.1.1 X.1.2.1 dX7_joins_18 rfl (lv_at hl 3 rfl) ?_
  refine lv_iload_n X.1.1 X.1.2.1 dX7_joins_19 rfl (lv_at hl 0 rfl) ?_
  refine sx_addN X (fr) (by omega) dX7_joins_20 ?_
  refine sx_ald X hP h92 (by decide) (fr) (by omega) (by decide) dX7_joins_21 ?_
  refine lv_aload_n X.1.1 X.1.2.1 dX7_joins_22 rfl (lv_at hl 1 rfl) ?_
  refine sx_get X hP in_X7_joins_X7 h91 (by decide) rfl 0 (by decide) lk_X7_joins_fieldLink_RX7_7_RaceWatchModel_w_I rfl dX7_joins_23 ?_
  refine lv_iload_n X.1.1 X.1.2.1 dX7_joins_26 rfl (lv_at hl 2 rfl) ?_
  refine lv_iload_n X.1.1 X.1.2.1 dX7_joins_27 rfl (lv_at hl 0 rfl) ?_
  refine sx_addN X (to) (by omega) dX7_joins_28 ?_
  refine sx_ald X hP h92 (by decide) (to) (by omega) (by decide) dX7_joins_29 ?_
  refine sx_join (P := fun z => W pp l ee rmX7_joins ss mm args below meth kc ss.heap [] 0 0 Q (F0 mm 52 ls (.int z :: .int (nI (to)) :: rf G 92 :: []))) ((w (fr)) ≤ (w (to))) (a := (w (to))) (b := (w (fr))) (fun ja jb => ?_) ?_
  · refine lv_icmp_le X.1.1 X.1.2.1 (tgt := 44) dX7_joins_30 (by decide) (fun c30 => ?_) (fun c30 => ?_)
    · refine lv_aload_n X.1.1 X.1.2.1 dX7_joins_44 rfl (lv_at hl 1 rfl) ?_
      refine sx_get X hP in_X7_joins_X7 h91 (by decide) rfl 0 (by decide) lk_X7_joins_fieldLink_RX7_7_RaceWatchModel_w_I rfl dX7_joins_45 ?_
      refine lv_iload_n X.1.1 X.1.2.1 dX7_joins_48 rfl (lv_at hl 2 rfl) ?_
      refine lv_iload_n X.1.1 X.1.2.1 dX7_joins_49 rfl (lv_at hl 0 rfl) ?_
      refine sx_addN X (to) (by omega) dX7_joins_50 ?_
      refine sx_ald X hP h92 (by decide) (to) (by omega) (by decide) dX7_joins_51 ?_
      exact ja c30
    · refine lv_aload_n X.1.1 X.1.2.1 dX7_joins_33 rfl (lv_at hl 1 rfl) ?_
      refine sx_get X hP in_X7_joins_X7 h91 (by decide) rfl 0 (by decide) lk_X7_joins_fieldLink_RX7_7_RaceWatchModel_w_I rfl dX7_joins_34 ?_
      refine lv_iload_n X.1.1 X.1.2.1 dX7_joins_37 rfl (lv_at hl 3 rfl) ?_
      refine lv_iload_n X.1.1 X.1.2.1 dX7_joins_38 rfl (lv_at hl 0 rfl) ?_
      refine sx_addN X (fr) (by omega) dX7_joins_39 ?_
      refine sx_ald X hP h92 (by decide) (fr) (by omega) (by decide) dX7_joins_40 ?_
      refine lv_goto (tgt := 52) X.1.1 X.1.2.1 dX7_joins_41 (by decide) ?_
      exact jb c30
  · refine sx_ast X hP h92 (by decide) (to) (by omega) (by decide) dX7_joins_52 (fun F1 H1 l1 e1 o1 hP => ?_)
    obtain ⟨w1, hw1⟩ : ∃ z, z = upd w (to) (if (w (fr)) ≤ (w (to)) then (w (to)) else (w (fr))) := ⟨_, rfl⟩
    rw [← hw1] at e1
    have h92 : F1 (92) = rI G (4358) (w1) := e1
    have h91 := (o1 (91) (by decide)).trans h91
    have hO : ∀ j, j ≠ 92 → F1 j = F j := fun j hj => (o1 j (by omega)).trans (hO j hj)
    refine lv_iinc (v := (nI (1))) (lv' := [(3, .int (nI 1)), (0, rf G 91), (1, .int (nI (to))), (2, .int (nI (fr)))]) X.1.1 X.1.2.1 dX7_joins_53 hl (k := 0) rfl (by decide) (by decide) rfl (fun ls hl => ?_)
    refine lv_goto (tgt := 2) X.1.1 X.1.2.1 dX7_joins_56 (by decide) ?_
    refine lv_iload_n X.1.1 X.1.2.1 dX7_joins_2 rfl (lv_at hl 0 rfl) ?_
    refine lv_iconst (v := nI 4) X.1.1 X.1.2.1 dX7_joins_3 (by decide) ?_
    refine sx_icmp_ge X (by decide) (by decide) (tgt := 59) dX7_joins_4 (by decide) (fun h => absurd h (by decide)) (fun _ => ?_)
    refine lv_aload_n X.1.1 X.1.2.1 dX7_joins_7 rfl (lv_at hl 1 rfl) ?_
    refine sx_get X hP in_X7_joins_X7 h91 (by decide) rfl 0 (by decide) lk_X7_joins_fieldLink_RX7_7_RaceWatchModel_w_I rfl dX7_joins_8 ?_
    refine lv_iload_n X.1.1 X.1.2.1 dX7_joins_11 rfl (lv_at hl 2 rfl) ?_
    refine lv_iload_n X.1.1 X.1.2.1 dX7_joins_12 rfl (lv_at hl 0 rfl) ?_
    refine sx_addN X (1 + to) (by omega) dX7_joins_13 ?_
    refine lv_aload_n X.1.1 X.1.2.1 dX7_joins_14 rfl (lv_at hl 1 rfl) ?_
    refine sx_get X hP in_X7_joins_X7 h91 (by decide) rfl 0 (by decide) lk_X7_joins_fieldLink_RX7_7_RaceWatchModel_w_I rfl dX7_joins_15 ?_
    refine lv_iload_n X.1.1 X.1.2.1 dX7_joins_18 rfl (lv_at hl 3 rfl) ?_
    refine lv_iload_n X.1.1 X.1.2.1 dX7_joins_19 rfl (lv_at hl 0 rfl) ?_
    refine sx_addN X (1 + fr) (by omega) dX7_joins_20 ?_
    refine sx_ald X hP h92 (by decide) (1 + fr) (by omega) (by decide) dX7_joins_21 ?_
    refine lv_aload_n X.1.1 X.1.2.1 dX7_joins_22 rfl (lv_at hl 1 rfl) ?_
    refine sx_get X hP in_X7_joins_X7 h91 (by decide) rfl 0 (by decide) lk_X7_joins_fieldLink_RX7_7_RaceWatchModel_w_I rfl dX7_joins_23 ?_
    refine lv_iload_n X.1.1 X.1.2.1 dX7_joins_26 rfl (lv_at hl 2 rfl) ?_
    refine lv_iload_n X.1.1 X.1.2.1 dX7_joins_27 rfl (lv_at hl 0 rfl) ?_
    refine sx_addN X (1 + to) (by omega) dX7_joins_28 ?_
    refine sx_ald X hP h92 (by decide) (1 + to) (by omega) (by decide) dX7_joins_29 ?_
    refine sx_join (P := fun z => W pp l ee rmX7_joins ss mm args below meth kc H1 l1 0 0 Q (F0 mm 52 ls (.int z :: .int (nI (1 + to)) :: rf G 92 :: []))) ((w1 (1 + fr)) ≤ (w1 (1 + to))) (a := (w1 (1 + to))) (b := (w1 (1 + fr))) (fun ja jb => ?_) ?_
    · refine lv_icmp_le X.1.1 X.1.2.1 (tgt := 44) dX7_joins_30 (by decide) (fun c30 => ?_) (fun c30 => ?_)
      · refine lv_aload_n X.1.1 X.1.2.1 dX7_joins_44 rfl (lv_at hl 1 rfl) ?_
        refine sx_get X hP in_X7_joins_X7 h91 (by decide) rfl 0 (by decide) lk_X7_joins_fieldLink_RX7_7_RaceWatchModel_w_I rfl dX7_joins_45 ?_
        refine lv_iload_n X.1.1 X.1.2.1 dX7_joins_48 rfl (lv_at hl 2 rfl) ?_
        refine lv_iload_n X.1.1 X.1.2.1 dX7_joins_49 rfl (lv_at hl 0 rfl) ?_
        refine sx_addN X (1 + to) (by omega) dX7_joins_50 ?_
        refine sx_ald X hP h92 (by decide) (1 + to) (by omega) (by decide) dX7_joins_51 ?_
        exact ja c30
      · refine lv_aload_n X.1.1 X.1.2.1 dX7_joins_33 rfl (lv_at hl 1 rfl) ?_
        refine sx_get X hP in_X7_joins_X7 h91 (by decide) rfl 0 (by decide) lk_X7_joins_fieldLink_RX7_7_RaceWatchModel_w_I rfl dX7_joins_34 ?_
        refine lv_iload_n X.1.1 X.1.2.1 dX7_joins_37 rfl (lv_at hl 3 rfl) ?_
        refine lv_iload_n X.1.1 X.1.2.1 dX7_joins_38 rfl (lv_at hl 0 rfl) ?_
        refine sx_addN X (1 + fr) (by omega) dX7_joins_39 ?_
        refine sx_ald X hP h92 (by decide) (1 + fr) (by omega) (by decide) dX7_joins_40 ?_
        refine lv_goto (tgt := 52) X.1.1 X.1.2.1 dX7_joins_41 (by decide) ?_
        exact jb c30
    · refine sx_ast X hP h92 (by decide) (1 + to) (by omega) (by decide) dX7_joins_52 (fun F2 H2 l2 e2 o2 hP => ?_)
      obtain ⟨w2, hw2⟩ : ∃ z, z = upd w1 (1 + to) (if (w1 (1 + fr)) ≤ (w1 (1 + to)) then (w1 (1 + to)) else (w1 (1 + fr))) := ⟨_, rfl⟩
      rw [← hw2] at e2
      have h92 : F2 (92) = rI G (4358) (w2) := e2
      have h91 := (o2 (91) (by decide)).trans h91
      have hO : ∀ j, j ≠ 92 → F2 j = F j := fun j hj => (o2 j (by omega)).trans (hO j hj)
      refine lv_iinc (v := (nI (2))) (lv' := [(3, .int (nI 2)), (0, rf G 91), (1, .int (nI (to))), (2, .int (nI (fr)))]) X.1.1 X.1.2.1 dX7_joins_53 hl (k := 0) rfl (by decide) (by decide) rfl (fun ls hl => ?_)
      refine lv_goto (tgt := 2) X.1.1 X.1.2.1 dX7_joins_56 (by decide) ?_
      refine lv_iload_n X.1.1 X.1.2.1 dX7_joins_2 rfl (lv_at hl 0 rfl) ?_
      refine lv_iconst (v := nI 4) X.1.1 X.1.2.1 dX7_joins_3 (by decide) ?_
      refine sx_icmp_ge X (by decide) (by decide) (tgt := 59) dX7_joins_4 (by decide) (fun h => absurd h (by decide)) (fun _ => ?_)
      refine lv_aload_n X.1.1 X.1.2.1 dX7_joins_7 rfl (lv_at hl 1 rfl) ?_
      refine sx_get X hP in_X7_joins_X7 h91 (by decide) rfl 0 (by decide) lk_X7_joins_fieldLink_RX7_7_RaceWatchModel_w_I rfl dX7_joins_8 ?_
      refine lv_iload_n X.1.1 X.1.2.1 dX7_joins_11 rfl (lv_at hl 2 rfl) ?_
      refine lv_iload_n X.1.1 X.1.2.1 dX7_joins_12 rfl (lv_at hl 0 rfl) ?_
      refine sx_addN X (2 + to) (by omega) dX7_joins_13 ?_
      refine lv_aload_n X.1.1 X.1.2.1 dX7_joins_14 rfl (lv_at hl 1 rfl) ?_
      refine sx_get X hP in_X7_joins_X7 h91 (by decide) rfl 0 (by decide) lk_X7_joins_fieldLink_RX7_7_RaceWatchModel_w_I rfl dX7_joins_15 ?_
      refine lv_iload_n X.1.1 X.1.2.1 dX7_joins_18 rfl (lv_at hl 3 rfl) ?_
      refine lv_iload_n X.1.1 X.1.2.1 dX7_joins_19 rfl (lv_at hl 0 rfl) ?_
      refine sx_addN X (2 + fr) (by omega) dX7_joins_20 ?_
      refine sx_ald X hP h92 (by decide) (2 + fr) (by omega) (by decide) dX7_joins_21 ?_
      refine lv_aload_n X.1.1 X.1.2.1 dX7_joins_22 rfl (lv_at hl 1 rfl) ?_
      refine sx_get X hP in_X7_joins_X7 h91 (by decide) rfl 0 (by decide) lk_X7_joins_fieldLink_RX7_7_RaceWatchModel_w_I rfl dX7_joins_23 ?_
      refine lv_iload_n X.1.1 X.1.2.1 dX7_joins_26 rfl (lv_at hl 2 rfl) ?_
      refine lv_iload_n X.1.1 X.1.2.1 dX7_joins_27 rfl (lv_at hl 0 rfl) ?_
      refine sx_addN X (2 + to) (by omega) dX7_joins_28 ?_
      refine sx_ald X hP h92 (by decide) (2 + to) (by omega) (by decide) dX7_joins_29 ?_
      refine sx_join (P := fun z => W pp l ee rmX7_joins ss mm args below meth kc H2 l2 0 0 Q (F0 mm 52 ls (.int z :: .int (nI (2 + to)) :: rf G 92 :: []))) ((w2 (2 + fr)) ≤ (w2 (2 + to))) (a := (w2 (2 + to))) (b := (w2 (2 + fr))) (fun ja jb => ?_) ?_
      · refine lv_icmp_le X.1.1 X.1.2.1 (tgt := 44) dX7_joins_30 (by decide) (fun c30 => ?_) (fun c30 => ?_)
        · refine lv_aload_n X.1.1 X.1.2.1 dX7_joins_44 rfl (lv_at hl 1 rfl) ?_
          refine sx_get X hP in_X7_joins_X7 h91 (by decide) rfl 0 (by decide) lk_X7_joins_fieldLink_RX7_7_RaceWatchModel_w_I rfl dX7_joins_45 ?_
          refine lv_iload_n X.1.1 X.1.2.1 dX7_joins_48 rfl (lv_at hl 2 rfl) ?_
          refine lv_iload_n X.1.1 X.1.2.1 dX7_joins_49 rfl (lv_at hl 0 rfl) ?_
          refine sx_addN X (2 + to) (by omega) dX7_joins_50 ?_
          refine sx_ald X hP h92 (by decide) (2 + to) (by omega) (by decide) dX7_joins_51 ?_
          exact ja c30
        · refine lv_aload_n X.1.1 X.1.2.1 dX7_joins_33 rfl (lv_at hl 1 rfl) ?_
          refine sx_get X hP in_X7_joins_X7 h91 (by decide) rfl 0 (by decide) lk_X7_joins_fieldLink_RX7_7_RaceWatchModel_w_I rfl dX7_joins_34 ?_
          refine lv_iload_n X.1.1 X.1.2.1 dX7_joins_37 rfl (lv_at hl 3 rfl) ?_
          refine lv_iload_n X.1.1 X.1.2.1 dX7_joins_38 rfl (lv_at hl 0 rfl) ?_
          refine sx_addN X (2 + fr) (by omega) dX7_joins_39 ?_
          refine sx_ald X hP h92 (by decide) (2 + fr) (by omega) (by decide) dX7_joins_40 ?_
          refine lv_goto (tgt := 52) X.1.1 X.1.2.1 dX7_joins_41 (by decide) ?_
          exact jb c30
      · refine sx_ast X hP h92 (by decide) (2 + to) (by omega) (by decide) dX7_joins_52 (fun F3 H3 l3 e3 o3 hP => ?_)
        obtain ⟨w3, hw3⟩ : ∃ z, z = upd w2 (2 + to) (if (w2 (2 + fr)) ≤ (w2 (2 + to)) then (w2 (2 + to)) else (w2 (2 + fr))) := ⟨_, rfl⟩
        rw [← hw3] at e3
        have h92 : F3 (92) = rI G (4358) (w3) := e3
        have h91 := (o3 (91) (by decide)).trans h91
        have hO : ∀ j, j ≠ 92 → F3 j = F j := fun j hj => (o3 j (by omega)).trans (hO j hj)
        refine lv_iinc (v := (nI (3))) (lv' := [(3, .int (nI 3)), (0, rf G 91), (1, .int (nI (to))), (2, .int (nI (fr)))]) X.1.1 X.1.2.1 dX7_joins_53 hl (k := 0) rfl (by decide) (by decide) rfl (fun ls hl => ?_)
        refine lv_goto (tgt := 2) X.1.1 X.1.2.1 dX7_joins_56 (by decide) ?_
        refine lv_iload_n X.1.1 X.1.2.1 dX7_joins_2 rfl (lv_at hl 0 rfl) ?_
        refine lv_iconst (v := nI 4) X.1.1 X.1.2.1 dX7_joins_3 (by decide) ?_
        refine sx_icmp_ge X (by decide) (by decide) (tgt := 59) dX7_joins_4 (by decide) (fun h => absurd h (by decide)) (fun _ => ?_)
        refine lv_aload_n X.1.1 X.1.2.1 dX7_joins_7 rfl (lv_at hl 1 rfl) ?_
        refine sx_get X hP in_X7_joins_X7 h91 (by decide) rfl 0 (by decide) lk_X7_joins_fieldLink_RX7_7_RaceWatchModel_w_I rfl dX7_joins_8 ?_
        refine lv_iload_n X.1.1 X.1.2.1 dX7_joins_11 rfl (lv_at hl 2 rfl) ?_
        refine lv_iload_n X.1.1 X.1.2.1 dX7_joins_12 rfl (lv_at hl 0 rfl) ?_
        refine sx_addN X (3 + to) (by omega) dX7_joins_13 ?_
        refine lv_aload_n X.1.1 X.1.2.1 dX7_joins_14 rfl (lv_at hl 1 rfl) ?_
        refine sx_get X hP in_X7_joins_X7 h91 (by decide) rfl 0 (by decide) lk_X7_joins_fieldLink_RX7_7_RaceWatchModel_w_I rfl dX7_joins_15 ?_
        refine lv_iload_n X.1.1 X.1.2.1 dX7_joins_18 rfl (lv_at hl 3 rfl) ?_
        refine lv_iload_n X.1.1 X.1.2.1 dX7_joins_19 rfl (lv_at hl 0 rfl) ?_
        refine sx_addN X (3 + fr) (by omega) dX7_joins_20 ?_
        refine sx_ald X hP h92 (by decide) (3 + fr) (by omega) (by decide) dX7_joins_21 ?_
        refine lv_aload_n X.1.1 X.1.2.1 dX7_joins_22 rfl (lv_at hl 1 rfl) ?_
        refine sx_get X hP in_X7_joins_X7 h91 (by decide) rfl 0 (by decide) lk_X7_joins_fieldLink_RX7_7_RaceWatchModel_w_I rfl dX7_joins_23 ?_
        refine lv_iload_n X.1.1 X.1.2.1 dX7_joins_26 rfl (lv_at hl 2 rfl) ?_
        refine lv_iload_n X.1.1 X.1.2.1 dX7_joins_27 rfl (lv_at hl 0 rfl) ?_
        refine sx_addN X (3 + to) (by omega) dX7_joins_28 ?_
        refine sx_ald X hP h92 (by decide) (3 + to) (by omega) (by decide) dX7_joins_29 ?_
        refine sx_join (P := fun z => W pp l ee rmX7_joins ss mm args below meth kc H3 l3 0 0 Q (F0 mm 52 ls (.int z :: .int (nI (3 + to)) :: rf G 92 :: []))) ((w3 (3 + fr)) ≤ (w3 (3 + to))) (a := (w3 (3 + to))) (b := (w3 (3 + fr))) (fun ja jb => ?_) ?_
        · refine lv_icmp_le X.1.1 X.1.2.1 (tgt := 44) dX7_joins_30 (by decide) (fun c30 => ?_) (fun c30 => ?_)
          · refine lv_aload_n X.1.1 X.1.2.1 dX7_joins_44 rfl (lv_at hl 1 rfl) ?_
            refine sx_get X hP in_X7_joins_X7 h91 (by decide) rfl 0 (by decide) lk_X7_joins_fieldLink_RX7_7_RaceWatchModel_w_I rfl dX7_joins_45 ?_
            refine lv_iload_n X.1.1 X.1.2.1 dX7_joins_48 rfl (lv_at hl 2 rfl) ?_
            refine lv_iload_n X.1.1 X.1.2.1 dX7_joins_49 rfl (lv_at hl 0 rfl) ?_
            refine sx_addN X (3 + to) (by omega) dX7_joins_50 ?_
            refine sx_ald X hP h92 (by decide) (3 + to) (by omega) (by decide) dX7_joins_51 ?_
            exact ja c30
          · refine lv_aload_n X.1.1 X.1.2.1 dX7_joins_33 rfl (lv_at hl 1 rfl) ?_
            refine sx_get X hP in_X7_joins_X7 h91 (by decide) rfl 0 (by decide) lk_X7_joins_fieldLink_RX7_7_RaceWatchModel_w_I rfl dX7_joins_34 ?_
            refine lv_iload_n X.1.1 X.1.2.1 dX7_joins_37 rfl (lv_at hl 3 rfl) ?_
            refine lv_iload_n X.1.1 X.1.2.1 dX7_joins_38 rfl (lv_at hl 0 rfl) ?_
            refine sx_addN X (3 + fr) (by omega) dX7_joins_39 ?_
            refine sx_ald X hP h92 (by decide) (3 + fr) (by omega) (by decide) dX7_joins_40 ?_
            refine lv_goto (tgt := 52) X.1.1 X.1.2.1 dX7_joins_41 (by decide) ?_
            exact jb c30
        · refine sx_ast X hP h92 (by decide) (3 + to) (by omega) (by decide) dX7_joins_52 (fun F4 H4 l4 e4 o4 hP => ?_)
          obtain ⟨w4, hw4⟩ : ∃ z, z = upd w3 (3 + to) (if (w3 (3 + fr)) ≤ (w3 (3 + to)) then (w3 (3 + to)) else (w3 (3 + fr))) := ⟨_, rfl⟩
          rw [← hw4] at e4
          have h92 : F4 (92) = rI G (4358) (w4) := e4
          have h91 := (o4 (91) (by decide)).trans h91
          have hO : ∀ j, j ≠ 92 → F4 j = F j := fun j hj => (o4 j (by omega)).trans (hO j hj)
          refine lv_iinc (v := (nI (4))) (lv' := [(3, .int (nI 4)), (0, rf G 91), (1, .int (nI (to))), (2, .int (nI (fr)))]) X.1.1 X.1.2.1 dX7_joins_53 hl (k := 0) rfl (by decide) (by decide) rfl (fun ls hl => ?_)
          refine lv_goto (tgt := 2) X.1.1 X.1.2.1 dX7_joins_56 (by decide) ?_
          refine lv_iload_n X.1.1 X.1.2.1 dX7_joins_2 rfl (lv_at hl 0 rfl) ?_
          refine lv_iconst (v := nI 4) X.1.1 X.1.2.1 dX7_joins_3 (by decide) ?_
          refine sx_icmp_ge X (by decide) (by decide) (tgt := 59) dX7_joins_4 (by decide) (fun _ => ?_) (fun h => absurd h (by decide))
          rw [hQ]
          exact sx_vret X rfl hs rfl hP dX7_joins_59 (⟨h92.trans (by rw [hw4, hw3, hw2, hw1]; rfl), hO⟩)
