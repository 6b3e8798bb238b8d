theorem kb_ok {x : Int32} (h : x = nI 0 ∨ x = nI 1) : narrow .boolean (.int x) = .int x ∧ fits (tyX2 4) (.int x) = true := by
  rcases h with rfl | rfl <;> exact ⟨by decide, by decide⟩
theorem ys_X3_begin : yX3_begin.cls ≠ "java/lang/invoke/MethodHandle" ∧ yX3_begin.cls ≠ "java/lang/invoke/VarHandle" ∧ (parseMethodDescriptor yX3_begin.desc).map (fun d => d.parameters.length) = some 0 := by decide +kernel
theorem yv_X3_begin : yX3_begin.cls = RX3 ∧ yX3_begin.cls ≠ "java/lang/invoke/MethodHandle" ∧ yX3_begin.cls ≠ "java/lang/invoke/VarHandle" ∧ (parseMethodDescriptor yX3_begin.desc).map (fun d => d.parameters.length) = some 0 := ⟨rfl, ys_X3_begin⟩
theorem in_X3_begin_X3 : ∀ w ∈ wsX30, w ∈ wsX3_begin := fun _ h => List.mem_cons_of_mem _ (List.mem_append_right _ (h))
theorem lk_X3_begin_fieldLink_RX3_39_RaceWatch_Log_count_I : (.fieldLink RX3 39 "RaceWatch$Log" "count" "I" : Cond) ∈ wsX3_begin := List.mem_cons_of_mem _ (List.mem_append_left _ (List.mem_of_getElem? (i := 0) rfl))
theorem lk_X3_begin_fieldLink_RX3_36_RaceWatch_Log_raceCounts_I : (.fieldLink RX3 36 "RaceWatch$Log" "raceCounts" "[I" : Cond) ∈ wsX3_begin := List.mem_cons_of_mem _ (List.mem_append_left _ (List.mem_of_getElem? (i := 1) rfl))
abbrev rmX3_begin : Room := { frames := 1, cells := 0, slots := 0, locals := 23 }
set_option maxHeartbeats 800000 in
set_option maxRecDepth 100000 in
theorem mX3_begin {G : sx_G} (l : Launch) {F : Nat → va_E} {n B : Nat} {m : Int32} {rc : Nat → Int32}  (hB : B + 27 ≤ n) (h18___B : F (18 + B) = ob 3 ([.int (m), rf G (19 + B), rf G (20 + B), rf G (21 + B), rf G (22 + B), rf G (23 + B), rf G (25 + B), rf G (26 + B)])) (h26___B : F (26 + B) = rI G (12) (rc)) : sx_V G l yX3_begin wsX3_begin rmX3_begin [rf G (18 + B)] (n) F (n) (fun F1 => F1 (18 + B) = ob 3 ([.int (nI 0), rf G (19 + B), rf G (20 + B), rf G (21 + B), rf G (22 + B), rf G (23 + B), rf G (25 + B), rf G (26 + B)]) ∧ (∃ g1, F1 (26 + B) = rI G 12 g1 ∧ ∀ k, k < 12 → g1 k = nI 0) ∧ ∀ j, j ≠ 18 + B ∧ j ≠ 26 + B → F1 j = F j) := by
  refine sx_enter (cc := cX3_begin) (maxL := 1) (ret := none) (own := RX3) (nm := "begin") (by decide) rfl rfl rfl (Nat.le_of_ble_eq_true rfl) ?_
  intro pp ee ss mm args below meth kc ls Q hQ X hs hP hl
  have hl : lv_has ls 1 [(0, rf G (18 + B))] := hl
  have hO : ∀ j, j ≠ 18 + B ∧ j ≠ 26 + B → F j = F j := fun _ _ => rfl
  refine lv_aload_n X.1.1 X.1.2.1 dX3_begin_0 rfl (lv_at hl 0 rfl) ?_
  refine lv_iconst (v := nI 0) X.1.1 X.1.2.1 dX3_begin_1 (by decide) ?_
  refine sx_put X hP in_X3_begin_X3 tyX3 tyX3_ok nmX3 h18___B (by omega) rfl 0 (by decide) lk_X3_begin_fieldLink_RX3_39_RaceWatch_Log_count_I rfl rfl rfl (Nat.le_of_ble_eq_true rfl) dX3_begin_2 (fun F1 H1 l1 e1 o1 hP => ?_)
  have h18___B : F1 (18 + B) = ob 3 ([.int (nI 0), rf G (19 + B), rf G (20 + B), rf G (21 + B), rf G (22 + B), rf G (23 + B), rf G (25 + B), rf G (26 + B)]) := e1
  have h26___B := (o1 (26 + B) (by omega)).trans h26___B
  have hO : ∀ j, j ≠ 18 + B ∧ j ≠ 26 + B → F1 j = F j := fun j hj => (o1 j (by omega)).trans (hO j hj)
  refine lv_aload_n X.1.1 X.1.2.1 dX3_begin_5 rfl (lv_at hl 0 rfl) ?_
  refine sx_get X hP in_X3_begin_X3 h18___B (by omega) rfl 7 (by decide) lk_X3_begin_fieldLink_RX3_36_RaceWatch_Log_raceCounts_I rfl dX3_begin_6 ?_
  refine lv_iconst (v := nI 0) X.1.1 X.1.2.1 dX3_begin_9 (by decide) ?_
  refine sx_csV (As := [rf G (26 + B), .int (nI 0)]) (rest := []) X (mJ7_fill_53178 l (cj := 26 + B) (L := 12) (v := (nI (0))) (by omega) (by decide) h26___B) gX3_begin_J7_fill_53178 rfl ys_J7_fill_53178 ⟨Nat.le_of_ble_eq_true rfl, Nat.le_of_ble_eq_true rfl⟩ hl.1 rfl (Nat.le_of_ble_eq_true rfl) dX3_begin_10 ⟨Nat.le_of_ble_eq_true rfl, Nat.le_of_ble_eq_true rfl⟩ hs rfl hP (fun F2 H2 l2 hp hP => ?_)
  obtain ⟨w2, e2, hz2, o2⟩ := hp
  have h26___B : F2 (26 + B) = rI G (12) (w2) := e2
  have h18___B := (o2 (18 + B) (by omega)).trans h18___B
  have hO : ∀ j, j ≠ 18 + B ∧ j ≠ 26 + B → F2 j = F j := fun j hj => (o2 j (by omega)).trans (hO j hj)
  rw [hQ]
  exact sx_vret X rfl hs rfl hP dX3_begin_13 (⟨h18___B, ⟨_, h26___B, hz2⟩, hO⟩)
theorem ys_X3_copy : yX3_copy.cls ≠ "java/lang/invoke/MethodHandle" ∧ yX3_copy.cls ≠ "java/lang/invoke/VarHandle" ∧ (parseMethodDescriptor yX3_copy.desc).map (fun d => d.parameters.length) = some 1 := by decide +kernel
theorem yv_X3_copy : yX3_copy.cls = RX3 ∧ yX3_copy.cls ≠ "java/lang/invoke/MethodHandle" ∧ yX3_copy.cls ≠ "java/lang/invoke/VarHandle" ∧ (parseMethodDescriptor yX3_copy.desc).map (fun d => d.parameters.length) = some 1 := ⟨rfl, ys_X3_copy⟩
theorem in_X3_copy_X3 : ∀ w ∈ wsX30, w ∈ wsX3_copy := fun _ h => List.mem_cons_of_mem _ (List.mem_append_left _ (List.mem_append_right _ (h)))
theorem lk_X3_copy_fieldLink_RX3_39_RaceWatch_Log_count_I : (.fieldLink RX3 39 "RaceWatch$Log" "count" "I" : Cond) ∈ wsX3_copy := List.mem_cons_of_mem _ (List.mem_append_left _ (List.mem_append_left _ (List.mem_of_getElem? (i := 0) rfl)))
theorem lk_X3_copy_fieldLink_RX3_9_RaceWatch_Log_threads_I : (.fieldLink RX3 9 "RaceWatch$Log" "threads" "[I" : Cond) ∈ wsX3_copy := List.mem_cons_of_mem _ (List.mem_append_left _ (List.mem_append_left _ (List.mem_of_getElem? (i := 1) rfl)))
theorem lk_X3_copy_methodLink_RX3_49_arraycopyName : (.methodLink RX3 49 arraycopyName : Cond) ∈ wsX3_copy := List.mem_cons_of_mem _ (List.mem_append_left _ (List.mem_append_left _ (List.mem_of_getElem? (i := 2) rfl)))
theorem lk_X3_copy_native_arraycopyName : (.native arraycopyName : Cond) ∈ wsX3_copy := List.mem_cons_of_mem _ (List.mem_append_left _ (List.mem_append_left _ (List.mem_of_getElem? (i := 3) rfl)))
theorem lk_X3_copy_static_arraycopyName : (.static arraycopyName : Cond) ∈ wsX3_copy := List.mem_cons_of_mem _ (List.mem_append_left _ (List.mem_append_left _ (List.mem_of_getElem? (i := 4) rfl)))
theorem lk_X3_copy_initialized_java_lang_System : (.initialized "java/lang/System" : Cond) ∈ wsX3_copy := List.mem_cons_of_mem _ (List.mem_append_left _ (List.mem_append_left _ (List.mem_of_getElem? (i := 5) rfl)))
theorem lk_X3_copy_fieldLink_RX3_15_RaceWatch_Log_sorts_I : (.fieldLink RX3 15 "RaceWatch$Log" "sorts" "[I" : Cond) ∈ wsX3_copy := List.mem_cons_of_mem _ (List.mem_append_left _ (List.mem_append_left _ (List.mem_of_getElem? (i := 6) rfl)))
theorem lk_X3_copy_fieldLink_RX3_18_RaceWatch_Log_withs_I : (.fieldLink RX3 18 "RaceWatch$Log" "withs" "[I" : Cond) ∈ wsX3_copy := List.mem_cons_of_mem _ (List.mem_append_left _ (List.mem_append_left _ (List.mem_of_getElem? (i := 7) rfl)))
theorem lk_X3_copy_fieldLink_RX3_21_RaceWatch_Log_locks_I : (.fieldLink RX3 21 "RaceWatch$Log" "locks" "[I" : Cond) ∈ wsX3_copy := List.mem_cons_of_mem _ (List.mem_append_left _ (List.mem_append_left _ (List.mem_of_getElem? (i := 8) rfl)))
theorem lk_X3_copy_fieldLink_RX3_29_RaceWatch_Log_clocks_LRaceWatch_Clocks : (.fieldLink RX3 29 "RaceWatch$Log" "clocks" "LRaceWatch$Clocks;" : Cond) ∈ wsX3_copy := List.mem_cons_of_mem _ (List.mem_append_left _ (List.mem_append_left _ (List.mem_of_getElem? (i := 9) rfl)))
theorem lk_X3_copy_fieldLink_RX3_33_RaceWatch_Log_racesBehind_I : (.fieldLink RX3 33 "RaceWatch$Log" "racesBehind" "[I" : Cond) ∈ wsX3_copy := List.mem_cons_of_mem _ (List.mem_append_left _ (List.mem_append_left _ (List.mem_of_getElem? (i := 10) rfl)))
theorem lk_X3_copy_fieldLink_RX3_36_RaceWatch_Log_raceCounts_I : (.fieldLink RX3 36 "RaceWatch$Log" "raceCounts" "[I" : Cond) ∈ wsX3_copy := List.mem_cons_of_mem _ (List.mem_append_left _ (List.mem_append_left _ (List.mem_of_getElem? (i := 11) rfl)))
abbrev rmX3_copy : Room := { frames := 2, cells := 0, slots := 0, locals := 82 }
set_option maxHeartbeats 800000 in
set_option maxRecDepth 100000 in
theorem mX3_copy {G : sx_G} (l : Launch) {F : Nat → va_E} {n B C M : Nat} {m : Int32} {th so wi lo lc rb rc th2 so2 wi2 lo2 lc2 rb2 rc2 : Nat → Int32} {rr rr2 : Value}  (hB : B + 27 ≤ n) (hC : C + 27 ≤ n) (hd : C + 27 ≤ B ∨ B + 27 ≤ C) (hM : M ≤ 160) (h18___B : F (18 + B) = ob 3 ([.int (m), rf G (19 + B), rf G (20 + B), rf G (21 + B), rf G (22 + B), rf G (23 + B), rf G (25 + B), rf G (26 + B)])) (h19___B : F (19 + B) = rI G (160) (th)) (h20___B : F (20 + B) = rI G (160) (so)) (h21___B : F (21 + B) = rI G (160) (wi)) (h22___B : F (22 + B) = rI G (160) (lo)) (h23___B : F (23 + B) = ob 1 ([rr, rf G (24 + B)])) (h24___B : F (24 + B) = rI G (640) (lc)) (h25___B : F (25 + B) = rI G (160) (rb)) (h26___B : F (26 + B) = rI G (12) (rc)) (h18___C : F (18 + C) = ob 3 ([.int (nI (M)), rf G (19 + C), rf G (20 + C), rf G (21 + C), rf G (22 + C), rf G (23 + C), rf G (25 + C), rf G (26 + C)])) (h19___C : F (19 + C) = rI G (160) (th2)) (h20___C : F (20 + C) = rI G (160) (so2)) (h21___C : F (21 + C) = rI G (160) (wi2)) (h22___C : F (22 + C) = rI G (160) (lo2)) (h23___C : F (23 + C) = ob 1 ([rr2, rf G (24 + C)])) (h24___C : F (24 + C) = rI G (640) (lc2)) (h25___C : F (25 + C) = rI G (160) (rb2)) (h26___C : F (26 + C) = rI G (12) (rc2)) : sx_V G l yX3_copy wsX3_copy rmX3_copy [rf G (18 + B), rf G (18 + C)] (n) F (n) (fun F1 => F1 (18 + B) = ob 3 ([.int (nI (M)), rf G (19 + B), rf G (20 + B), rf G (21 + B), rf G (22 + B), rf G (23 + B), rf G (25 + B), rf G (26 + B)]) ∧ F1 (19 + B) = rI G (160) (va_cpy th2 th 0 0 (M)) ∧ F1 (20 + B) = rI G (160) (va_cpy so2 so 0 0 (M)) ∧ F1 (21 + B) = rI G (160) (va_cpy wi2 wi 0 0 (M)) ∧ F1 (22 + B) = rI G (160) (va_cpy lo2 lo 0 0 (M)) ∧ F1 (24 + B) = rI G (640) (va_cpy lc2 lc 0 0 (4 * M)) ∧ F1 (25 + B) = rI G (160) (va_cpy rb2 rb 0 0 (M)) ∧ F1 (26 + B) = rI G (12) (va_cpy rc2 rc 0 0 (12)) ∧ ∀ j, (j < 18 + B ∨ 26 + B < j ∨ j = 23 + B) → F1 j = F j) := by
  refine sx_enter (cc := cX3_copy) (maxL := 2) (ret := none) (own := RX3) (nm := "copy") (by decide) rfl rfl rfl (Nat.le_of_ble_eq_true rfl) ?_
  intro pp ee ss mm args below meth kc ls Q hQ X hs hP hl
  have hl : lv_has ls 2 [(0, rf G (18 + B)), (1, rf G (18 + C))] := hl
  have hO : ∀ j, j < 18 + B ∨ 26 + B < j ∨ j = 23 + B → F j = F j := fun _ _ => rfl
  refine lv_aload_n X.1.1 X.1.2.1 dX3_copy_0 rfl (lv_at hl 0 rfl) ?_
  refine lv_aload_n X.1.1 X.1.2.1 dX3_copy_1 rfl (lv_at hl 1 rfl) ?_
  refine sx_get X hP in_X3_copy_X3 h18___C (by omega) rfl 0 (by decide) lk_X3_copy_fieldLink_RX3_39_RaceWatch_Log_count_I rfl dX3_copy_2 ?_
  refine sx_put X hP in_X3_copy_X3 tyX3 tyX3_ok nmX3 h18___B (by omega) rfl 0 (by decide) lk_X3_copy_fieldLink_RX3_39_RaceWatch_Log_count_I rfl rfl rfl (Nat.le_of_ble_eq_true rfl) dX3_copy_5 (fun F1 H1 l1 e1 o1 hP => ?_)
  have h18___B : F1 (18 + B) = ob 3 ([.int (nI (M)), rf G (19 + B), rf G (20 + B), rf G (21 + B), rf G (22 + B), rf G (23 + B), rf G (25 + B), rf G (26 + B)]) := e1
  have h19___B := (o1 (19 + B) (by omega)).trans h19___B
  have h20___B := (o1 (20 + B) (by omega)).trans h20___B
  have h21___B := (o1 (21 + B) (by omega)).trans h21___B
  have h22___B := (o1 (22 + B) (by omega)).trans h22___B
  have h23___B := (o1 (23 + B) (by omega)).trans h23___B
  have h24___B := (o1 (24 + B) (by omega)).trans h24___B
  have h25___B := (o1 (25 + B) (by omega)).trans h25___B
  have h26___B := (o1 (26 + B) (by omega)).trans h26___B
  have h18___C := (o1 (18 + C) (by omega)).trans h18___C
  have h19___C := (o1 (19 + C) (by omega)).trans h19___C
  have h20___C := (o1 (20 + C) (by omega)).trans h20___C
  have h21___C := (o1 (21 + C) (by omega)).trans h21___C
  have h22___C := (o1 (22 + C) (by omega)).trans h22___C
  have h23___C := (o1 (23 + C) (by omega)).trans h23___C
  have h24___C := (o1 (24 + C) (by omega)).trans h24___C
  have h25___C := (o1 (25 + C) (by omega)).trans h25___C
  have h26___C := (o1 (26 + C) (by omega)).trans h26___C
  have hO : ∀ j, j < 18 + B ∨ 26 + B < j ∨ j = 23 + B → F1 j = F j := fun j hj => (o1 j (by omega)).trans (hO j hj)
  refine lv_aload_n X.1.1 X.1.2.1 dX3_copy_8 rfl (lv_at hl 1 rfl) ?_
  refine sx_get X hP in_X3_copy_X3 h18___C (by omega) rfl 1 (by decide) lk_X3_copy_fieldLink_RX3_9_RaceWatch_Log_threads_I rfl dX3_copy_9 ?_
  refine lv_iconst (v := nI 0) X.1.1 X.1.2.1 dX3_copy_12 (by decide) ?_
  refine lv_aload_n X.1.1 X.1.2.1 dX3_copy_13 rfl (lv_at hl 0 rfl) ?_
  refine sx_get X hP in_X3_copy_X3 h18___B (by omega) rfl 1 (by decide) lk_X3_copy_fieldLink_RX3_9_RaceWatch_Log_threads_I rfl dX3_copy_14 ?_
  refine lv_iconst (v := nI 0) X.1.1 X.1.2.1 dX3_copy_17 (by decide) ?_
  refine lv_aload_n X.1.1 X.1.2.1 dX3_copy_18 rfl (lv_at hl 0 rfl) ?_
  refine sx_get X hP in_X3_copy_X3 h18___B (by omega) rfl 0 (by decide) lk_X3_copy_fieldLink_RX3_39_RaceWatch_Log_count_I rfl dX3_copy_19 ?_
  refine sx_copy X hP hl.1 lk_X3_copy_methodLink_RX3_49_arraycopyName lk_X3_copy_native_arraycopyName lk_X3_copy_static_arraycopyName lk_X3_copy_initialized_java_lang_System h19___C h19___B (by omega) (by omega) (0) (0) (M) (by omega) (by omega) (by decide) (by decide) (Nat.le_of_ble_eq_true rfl) (Nat.le_of_ble_eq_true rfl) dX3_copy_22 (fun F2 H2 l2 e2 o2 hP => ?_)
  obtain ⟨w2, hw2⟩ : ∃ z, z = va_cpy th2 th (0) (0) (M) := ⟨_, rfl⟩
  rw [← hw2] at e2
  have h19___B : F2 (19 + B) = rI G (160) (w2) := e2
  have h18___B := (o2 (18 + B) (by omega)).trans h18___B
  have h20___B := (o2 (20 + B) (by omega)).trans h20___B
  have h21___B := (o2 (21 + B) (by omega)).trans h21___B
  have h22___B := (o2 (22 + B) (by omega)).trans h22___B
  have h23___B := (o2 (23 + B) (by omega)).trans h23___B
  have h24___B := (o2 (24 + B) (by omega)).trans h24___B
  have h25___B := (o2 (25 + B) (by omega)).trans h25___B
  have h26___B := (o2 (26 + B) (by omega)).trans h26___B
  have h18___C := (o2 (18 + C) (by omega)).trans h18___C
  have h19___C := (o2 (19 + C) (by omega)).trans h19___C
  have h20___C := (o2 (20 + C) (by omega)).trans h20___C
  have h21___C := (o2 (21 + C) (by omega)).trans h21___C
  have h22___C := (o2 (22 + C) (by omega)).trans h22___C
  have h23___C := (o2 (23 + C) (by omega)).trans h23___C
  have h24___C := (o2 (24 + C) (by omega)).trans h24___C
  have h25___C := (o2 (25 + C) (by omega)).trans h25___C
  have h26___C := (o2 (26 + C) (by omega)).trans h26___C
  have hO : ∀ j, j < 18 + B ∨ 26 + B < j ∨ j = 23 + B → F2 j = F j := fun j hj => (o2 j (by omega)).trans (hO j hj)
  refine lv_aload_n X.1.1 X.1.2.1 dX3_copy_25 rfl (lv_at hl 1 rfl) ?_
  refine sx_get X hP in_X3_copy_X3 h18___C (by omega) rfl 2 (by decide) lk_X3_copy_fieldLink_RX3_15_RaceWatch_Log_sorts_I rfl dX3_copy_26 ?_
  refine lv_iconst (v := nI 0) X.1.1 X.1.2.1 dX3_copy_29 (by decide) ?_
  refine lv_aload_n X.1.1 X.1.2.1 dX3_copy_30 rfl (lv_at hl 0 rfl) ?_
  refine sx_get X hP in_X3_copy_X3 h18___B (by omega) rfl 2 (by decide) lk_X3_copy_fieldLink_RX3_15_RaceWatch_Log_sorts_I rfl dX3_copy_31 ?_
  refine lv_iconst (v := nI 0) X.1.1 X.1.2.1 dX3_copy_34 (by decide) ?_
  refine lv_aload_n X.1.1 X.1.2.1 dX3_copy_35 rfl (lv_at hl 0 rfl) ?_
  refine sx_get X hP in_X3_copy_X3 h18___B (by omega) rfl 0 (by decide) lk_X3_copy_fieldLink_RX3_39_RaceWatch_Log_count_I rfl dX3_copy_36 ?_
  refine sx_copy X hP hl.1 lk_X3_copy_methodLink_RX3_49_arraycopyName lk_X3_copy_native_arraycopyName lk_X3_copy_static_arraycopyName lk_X3_copy_initialized_java_lang_System h20___C h20___B (by omega) (by omega) (0) (0) (M) (by omega) (by omega) (by decide) (by decide) (Nat.le_of_ble_eq_true rfl) (Nat.le_of_ble_eq_true rfl) dX3_copy_39 (fun F3 H3 l3 e3 o3 hP => ?_)
  obtain ⟨w3, hw3⟩ : ∃ z, z = va_cpy so2 so (0) (0) (M) := ⟨_, rfl⟩
  rw [← hw3] at e3
  have h20___B : F3 (20 + B) = rI G (160) (w3) := e3
  have h18___B := (o3 (18 + B) (by omega)).trans h18___B
  have h19___B := (o3 (19 + B) (by omega)).trans h19___B
  have h21___B := (o3 (21 + B) (by omega)).trans h21___B
  have h22___B := (o3 (22 + B) (by omega)).trans h22___B
  have h23___B := (o3 (23 + B) (by omega)).trans h23___B
  have h24___B := (o3 (24 + B) (by omega)).trans h24___B
  have h25___B := (o3 (25 + B) (by omega)).trans h25___B
  have h26___B := (o3 (26 + B) (by omega)).trans h26___B
  have h18___C := (o3 (18 + C) (by omega)).trans h18___C
  have h19___C := (o3 (19 + C) (by omega)).trans h19___C
  have h20___C := (o3 (20 + C) (by omega)).trans h20___C
  have h21___C := (o3 (21 + C) (by omega)).trans h21___C
  have h22___C := (o3 (22 + C) (by omega)).trans h22___C
  have h23___C := (o3 (23 + C) (by omega)).trans h23___C
  have h24___C := (o3 (24 + C) (by omega)).trans h24___C
  have h25___C := (o3 (25 + C) (by omega)).trans h25___C
  have h26___C := (o3 (26 + C) (by omega)).trans h26___C
  have hO : ∀ j, j < 18 + B ∨ 26 + B < j ∨ j = 23 + B → F3 j = F j := fun j hj => (o3 j (by omega)).trans (hO j hj)
  refine lv_aload_n X.1.1 X.1.2.1 dX3_copy_42 rfl (lv_at hl 1 rfl) ?_
  refine sx_get X hP in_X3_copy_X3 h18___C (by omega) rfl 3 (by decide) lk_X3_copy_fieldLink_RX3_18_RaceWatch_Log_withs_I rfl dX3_copy_43 ?_
  refine lv_iconst (v := nI 0) X.1.1 X.1.2.1 dX3_copy_46 (by decide) ?_
  refine lv_aload_n X.1.1 X.1.2.1 dX3_copy_47 rfl (lv_at hl 0 rfl) ?_
  refine sx_get X hP in_X3_copy_X3 h18___B (by omega) rfl 3 (by decide) lk_X3_copy_fieldLink_RX3_18_RaceWatch_Log_withs_I rfl dX3_copy_48 ?_
  refine lv_iconst (v := nI 0) X.1.1 X.1.2.1 dX3_copy_51 (by decide) ?_
  refine lv_aload_n X.1.1 X.1.2.1 dX3_copy_52 rfl (lv_at hl 0 rfl) ?_
  refine sx_get X hP in_X3_copy_X3 h18___B (by omega) rfl 0 (by decide) lk_X3_copy_fieldLink_RX3_39_RaceWatch_Log_count_I rfl dX3_copy_53 ?_
  refine sx_copy X hP hl.1 lk_X3_copy_methodLink_RX3_49_arraycopyName lk_X3_copy_native_arraycopyName lk_X3_copy_static_arraycopyName lk_X3_copy_initialized_java_lang_System h21___C h21___B (by omega) (by omega) (0) (0) (M) (by omega) (by omega) (by decide) (by decide) (Nat.le_of_ble_eq_true rfl) (Nat.le_of_ble_eq_true rfl) dX3_copy_56 (fun F4 H4 l4 e4 o4 hP => ?_)
  obtain ⟨w4, hw4⟩ : ∃ z, z = va_cpy wi2 wi (0) (0) (M) := ⟨_, rfl⟩
  rw [← hw4] at e4
  have h21___B : F4 (21 + B) = rI G (160) (w4) := e4
  have h18___B := (o4 (18 + B) (by omega)).trans h18___B
  have h19___B := (o4 (19 + B) (by omega)).trans h19___B
  have h20___B := (o4 (20 + B) (by omega)).trans h20___B
  have h22___B := (o4 (22 + B) (by omega)).trans h22___B
  have h23___B := (o4 (23 + B) (by omega)).trans h23___B
  have h24___B := (o4 (24 + B) (by omega)).trans h24___B
  have h25___B := (o4 (25 + B) (by omega)).trans h25___B
  have h26___B := (o4 (26 + B) (by omega)).trans h26___B
  have h18___C := (o4 (18 + C) (by omega)).trans h18___C
  have h19___C := (o4 (19 + C) (by omega)).trans h19___C
  have h20___C := (o4 (20 + C) (by omega)).trans h20___C
  have h21___C := (o4 (21 + C) (by omega)).trans h21___C
  have h22___C := (o4 (22 + C) (by omega)).trans h22___C
  have h23___C := (o4 (23 + C) (by omega)).trans h23___C
  have h24___C := (o4 (24 + C) (by omega)).trans h24___C
  have h25___C := (o4 (25 + C) (by omega)).trans h25___C
  have h26___C := (o4 (26 + C) (by omega)).trans h26___C
  have hO : ∀ j, j < 18 + B ∨ 26 + B < j ∨ j = 23 + B → F4 j = F j := fun j hj => (o4 j (by omega)).trans (hO j hj)
  refine lv_aload_n X.1.1 X.1.2.1 dX3_copy_59 rfl (lv_at hl 1 rfl) ?_
  refine sx_get X hP in_X3_copy_X3 h18___C (by omega) rfl 4 (by decide) lk_X3_copy_fieldLink_RX3_21_RaceWatch_Log_locks_I rfl dX3_copy_60 ?_
  refine lv_iconst (v := nI 0) X.1.1 X.1.2.1 dX3_copy_63 (by decide) ?_
  refine lv_aload_n X.1.1 X.1.2.1 dX3_copy_64 rfl (lv_at hl 0 rfl) ?_
  refine sx_get X hP in_X3_copy_X3 h18___B (by omega) rfl 4 (by decide) lk_X3_copy_fieldLink_RX3_21_RaceWatch_Log_locks_I rfl dX3_copy_65 ?_
  refine lv_iconst (v := nI 0) X.1.1 X.1.2.1 dX3_copy_68 (by decide) ?_
  refine lv_aload_n X.1.1 X.1.2.1 dX3_copy_69 rfl (lv_at hl 0 rfl) ?_
  refine sx_get X hP in_X3_copy_X3 h18___B (by omega) rfl 0 (by decide) lk_X3_copy_fieldLink_RX3_39_RaceWatch_Log_count_I rfl dX3_copy_70 ?_
  refine sx_copy X hP hl.1 lk_X3_copy_methodLink_RX3_49_arraycopyName lk_X3_copy_native_arraycopyName lk_X3_copy_static_arraycopyName lk_X3_copy_initialized_java_lang_System h22___C h22___B (by omega) (by omega) (0) (0) (M) (by omega) (by omega) (by decide) (by decide) (Nat.le_of_ble_eq_true rfl) (Nat.le_of_ble_eq_true rfl) dX3_copy_73 (fun F5 H5 l5 e5 o5 hP => ?_)
  obtain ⟨w5, hw5⟩ : ∃ z, z = va_cpy lo2 lo (0) (0) (M) := ⟨_, rfl⟩
  rw [← hw5] at e5
  have h22___B : F5 (22 + B) = rI G (160) (w5) := e5
  have h18___B := (o5 (18 + B) (by omega)).trans h18___B
  have h19___B := (o5 (19 + B) (by omega)).trans h19___B
  have h20___B := (o5 (20 + B) (by omega)).trans h20___B
  have h21___B := (o5 (21 + B) (by omega)).trans h21___B
  have h23___B := (o5 (23 + B) (by omega)).trans h23___B
  have h24___B := (o5 (24 + B) (by omega)).trans h24___B
  have h25___B := (o5 (25 + B) (by omega)).trans h25___B
  have h26___B := (o5 (26 + B) (by omega)).trans h26___B
  have h18___C := (o5 (18 + C) (by omega)).trans h18___C
  have h19___C := (o5 (19 + C) (by omega)).trans h19___C
  have h20___C := (o5 (20 + C) (by omega)).trans h20___C
  have h21___C := (o5 (21 + C) (by omega)).trans h21___C
  have h22___C := (o5 (22 + C) (by omega)).trans h22___C
  have h23___C := (o5 (23 + C) (by omega)).trans h23___C
  have h24___C := (o5 (24 + C) (by omega)).trans h24___C
  have h25___C := (o5 (25 + C) (by omega)).trans h25___C
  have h26___C := (o5 (26 + C) (by omega)).trans h26___C
  have hO : ∀ j, j < 18 + B ∨ 26 + B < j ∨ j = 23 + B → F5 j = F j := fun j hj => (o5 j (by omega)).trans (hO j hj)
  refine lv_aload_n X.1.1 X.1.2.1 dX3_copy_76 rfl (lv_at hl 0 rfl) ?_
  refine sx_get X hP in_X3_copy_X3 h18___B (by omega) rfl 5 (by decide) lk_X3_copy_fieldLink_RX3_29_RaceWatch_Log_clocks_LRaceWatch_Clocks rfl dX3_copy_77 ?_
  refine lv_aload_n X.1.1 X.1.2.1 dX3_copy_80 rfl (lv_at hl 1 rfl) ?_
  refine sx_get X hP in_X3_copy_X3 h18___C (by omega) rfl 5 (by decide) lk_X3_copy_fieldLink_RX3_29_RaceWatch_Log_clocks_LRaceWatch_Clocks rfl dX3_copy_81 ?_
  refine lv_aload_n X.1.1 X.1.2.1 dX3_copy_84 rfl (lv_at hl 0 rfl) ?_
  refine sx_get X hP in_X3_copy_X3 h18___B (by omega) rfl 0 (by decide) lk_X3_copy_fieldLink_RX3_39_RaceWatch_Log_count_I rfl dX3_copy_85 ?_
  refine sx_cvV (As := [rf G (23 + C), .int (nI (M))]) (rest := []) X (mX1_copyRows l (ci := 23 + B) (cj := 24 + B) (ck := 23 + C) (cl := 24 + C) (L := 640) (M := 640) (cnt := M) (by omega) (by omega) (by omega) (by omega) (by decide) (by decide) (by omega) (by omega) (by omega) (by omega) (by omega) (by omega) h23___B h24___B h23___C h24___C) gX3_copy_X1_copyRows rfl yv_X1_copyRows ⟨Nat.le_of_ble_eq_true rfl, Nat.le_of_ble_eq_true rfl⟩ h23___B (by omega) rfl rfl hl.1 rfl (Nat.le_of_ble_eq_true rfl) dX3_copy_88 ⟨Nat.le_of_ble_eq_true rfl, Nat.le_of_ble_eq_true rfl⟩ hs rfl hP (fun F6 H6 l6 hp hP => ?_)
  obtain ⟨e6, o6⟩ := hp
  obtain ⟨w6, hw6⟩ : ∃ z, z = va_cpy lc2 lc 0 0 (4 * M) := ⟨_, rfl⟩
  rw [← hw6] at e6
  have h24___B : F6 (24 + B) = rI G (640) (w6) := e6
  have h18___B := (o6 (18 + B) (by omega)).trans h18___B
  have h19___B := (o6 (19 + B) (by omega)).trans h19___B
  have h20___B := (o6 (20 + B) (by omega)).trans h20___B
  have h21___B := (o6 (21 + B) (by omega)).trans h21___B
  have h22___B := (o6 (22 + B) (by omega)).trans h22___B
  have h23___B := (o6 (23 + B) (by omega)).trans h23___B
  have h25___B := (o6 (25 + B) (by omega)).trans h25___B
  have h26___B := (o6 (26 + B) (by omega)).trans h26___B
  have h18___C := (o6 (18 + C) (by omega)).trans h18___C
  have h19___C := (o6 (19 + C) (by omega)).trans h19___C
  have h20___C := (o6 (20 + C) (by omega)).trans h20___C
  have h21___C := (o6 (21 + C) (by omega)).trans h21___C
  have h22___C := (o6 (22 + C) (by omega)).trans h22___C
  have h23___C := (o6 (23 + C) (by omega)).trans h23___C
  have h24___C := (o6 (24 + C) (by omega)).trans h24___C
  have h25___C := (o6 (25 + C) (by omega)).trans h25___C
  have h26___C := (o6 (26 + C) (by omega)).trans h26___C
  have hO : ∀ j, j < 18 + B ∨ 26 + B < j ∨ j = 23 + B → F6 j = F j := fun j hj => (o6 j (by omega)).trans (hO j hj)
  refine lv_aload_n X.1.1 X.1.2.1 dX3_copy_91 rfl (lv_at hl 1 rfl) ?_
  refine sx_get X hP in_X3_copy_X3 h18___C (by omega) rfl 6 (by decide) lk_X3_copy_fieldLink_RX3_33_RaceWatch_Log_racesBehind_I rfl dX3_copy_92 ?_
  refine lv_iconst (v := nI 0) X.1.1 X.1.2.1 dX3_copy_95 (by decide) ?_
  refine lv_aload_n X.1.1 X.1.2.1 dX3_copy_96 rfl (lv_at hl 0 rfl) ?_
  refine sx_get X hP in_X3_copy_X3 h18___B (by omega) rfl 6 (by decide) lk_X3_copy_fieldLink_RX3_33_RaceWatch_Log_racesBehind_I rfl dX3_copy_97 ?_
  refine lv_iconst (v := nI 0) X.1.1 X.1.2.1 dX3_copy_100 (by decide) ?_
  refine lv_aload_n X.1.1 X.1.2.1 dX3_copy_101 rfl (lv_at hl 0 rfl) ?_
  refine sx_get X hP in_X3_copy_X3 h18___B (by omega) rfl 0 (by decide) lk_X3_copy_fieldLink_RX3_39_RaceWatch_Log_count_I rfl dX3_copy_102 ?_
  refine sx_copy X hP hl.1 lk_X3_copy_methodLink_RX3_49_arraycopyName lk_X3_copy_native_arraycopyName lk_X3_copy_static_arraycopyName lk_X3_copy_initialized_java_lang_System h25___C h25___B (by omega) (by omega) (0) (0) (M) (by omega) (by omega) (by decide) (by decide) (Nat.le_of_ble_eq_true rfl) (Nat.le_of_ble_eq_true rfl) dX3_copy_105 (fun F7 H7 l7 e7 o7 hP => ?_)
  obtain ⟨w7, hw7⟩ : ∃ z, z = va_cpy rb2 rb (0) (0) (M) := ⟨_, rfl⟩
  rw [← hw7] at e7
  have h25___B : F7 (25 + B) = rI G (160) (w7) := e7
  have h18___B := (o7 (18 + B) (by omega)).trans h18___B
  have h19___B := (o7 (19 + B) (by omega)).trans h19___B
  have h20___B := (o7 (20 + B) (by omega)).trans h20___B
  have h21___B := (o7 (21 + B) (by omega)).trans h21___B
  have h22___B := (o7 (22 + B) (by omega)).trans h22___B
  have h23___B := (o7 (23 + B) (by omega)).trans h23___B
  have h24___B := (o7 (24 + B) (by omega)).trans h24___B
  have h26___B := (o7 (26 + B) (by omega)).trans h26___B
  have h18___C := (o7 (18 + C) (by omega)).trans h18___C
  have h19___C := (o7 (19 + C) (by omega)).trans h19___C
  have h20___C := (o7 (20 + C) (by omega)).trans h20___C
  have h21___C := (o7 (21 + C) (by omega)).trans h21___C
  have h22___C := (o7 (22 + C) (by omega)).trans h22___C
  have h23___C := (o7 (23 + C) (by omega)).trans h23___C
  have h24___C := (o7 (24 + C) (by omega)).trans h24___C
  have h25___C := (o7 (25 + C) (by omega)).trans h25___C
  have h26___C := (o7 (26 + C) (by omega)).trans h26___C
  have hO : ∀ j, j < 18 + B ∨ 26 + B < j ∨ j = 23 + B → F7 j = F j := fun j hj => (o7 j (by omega)).trans (hO j hj)
  refine lv_aload_n X.1.1 X.1.2.1 dX3_copy_108 rfl (lv_at hl 1 rfl) ?_
  refine sx_get X hP in_X3_copy_X3 h18___C (by omega) rfl 7 (by decide) lk_X3_copy_fieldLink_RX3_36_RaceWatch_Log_raceCounts_I rfl dX3_copy_109 ?_
  refine lv_iconst (v := nI 0) X.1.1 X.1.2.1 dX3_copy_112 (by decide) ?_
  refine lv_aload_n X.1.1 X.1.2.1 dX3_copy_113 rfl (lv_at hl 0 rfl) ?_
  refine sx_get X hP in_X3_copy_X3 h18___B (by omega) rfl 7 (by decide) lk_X3_copy_fieldLink_RX3_36_RaceWatch_Log_raceCounts_I rfl dX3_copy_114 ?_
  refine lv_iconst (v := nI 0) X.1.1 X.1.2.1 dX3_copy_117 (by decide) ?_
  refine lv_bipush (v := nI 12) X.1.1 X.1.2.1 dX3_copy_118 (by decide) ?_
  refine sx_copy X hP hl.1 lk_X3_copy_methodLink_RX3_49_arraycopyName lk_X3_copy_native_arraycopyName lk_X3_copy_static_arraycopyName lk_X3_copy_initialized_java_lang_System h26___C h26___B (by omega) (by omega) (0) (0) (12) (by decide) (by decide) (by decide) (by decide) (Nat.le_of_ble_eq_true rfl) (Nat.le_of_ble_eq_true rfl) dX3_copy_120 (fun F8 H8 l8 e8 o8 hP => ?_)
  obtain ⟨w8, hw8⟩ : ∃ z, z = va_cpy rc2 rc (0) (0) (12) := ⟨_, rfl⟩
  rw [← hw8] at e8
  have h26___B : F8 (26 + B) = rI G (12) (w8) := e8
  have h18___B := (o8 (18 + B) (by omega)).trans h18___B
  have h19___B := (o8 (19 + B) (by omega)).trans h19___B
  have h20___B := (o8 (20 + B) (by omega)).trans h20___B
  have h21___B := (o8 (21 + B) (by omega)).trans h21___B
  have h22___B := (o8 (22 + B) (by omega)).trans h22___B
  have h23___B := (o8 (23 + B) (by omega)).trans h23___B
  have h24___B := (o8 (24 + B) (by omega)).trans h24___B
  have h25___B := (o8 (25 + B) (by omega)).trans h25___B
  have h18___C := (o8 (18 + C) (by omega)).trans h18___C
  have h19___C := (o8 (19 + C) (by omega)).trans h19___C
  have h20___C := (o8 (20 + C) (by omega)).trans h20___C
  have h21___C := (o8 (21 + C) (by omega)).trans h21___C
  have h22___C := (o8 (22 + C) (by omega)).trans h22___C
  have h23___C := (o8 (23 + C) (by omega)).trans h23___C
  have h24___C := (o8 (24 + C) (by omega)).trans h24___C
  have h25___C := (o8 (25 + C) (by omega)).trans h25___C
  have h26___C := (o8 (26 + C) (by omega)).trans h26___C
  have hO : ∀ j, j < 18 + B ∨ 26 + B < j ∨ j = 23 + B → F8 j = F j := fun j hj => (o8 j (by omega)).trans (hO j hj)
  rw [hQ]
  exact sx_vret X rfl hs rfl hP dX3_copy_123 (⟨h18___B, h19___B.trans (by rw [hw2]), h20___B.trans (by rw [hw3]), h21___B.trans (by rw [hw4]), h22___B.trans (by rw [hw5]), h24___B.trans (by rw [hw6]), h25___B.trans (by rw [hw7]), h26___B.trans (by rw [hw8]), hO⟩)
