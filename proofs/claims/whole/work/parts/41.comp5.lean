theorem sx_add3 (a : Int32) (x : Nat) : (a + nI x) + nI 1 = a + nI (x + 1) := by
  rw [Int32.add_assoc, nI_add]
theorem ys_X3_hasRoom : yX3_hasRoom.cls ≠ "java/lang/invoke/MethodHandle" ∧ yX3_hasRoom.cls ≠ "java/lang/invoke/VarHandle" ∧ (parseMethodDescriptor yX3_hasRoom.desc).map (fun d => d.parameters.length) = some 1 := by decide +kernel
theorem yv_X3_hasRoom : yX3_hasRoom.cls = RX3 ∧ yX3_hasRoom.cls ≠ "java/lang/invoke/MethodHandle" ∧ yX3_hasRoom.cls ≠ "java/lang/invoke/VarHandle" ∧ (parseMethodDescriptor yX3_hasRoom.desc).map (fun d => d.parameters.length) = some 1 := ⟨rfl, ys_X3_hasRoom⟩
theorem in_X3_hasRoom_X3 : ∀ w ∈ wsX30, w ∈ wsX3_hasRoom := fun _ h => List.mem_cons_of_mem _ (List.mem_append_right _ (h))
theorem lk_X3_hasRoom_fieldLink_RX3_39_RaceWatch_Log_count_I : (.fieldLink RX3 39 "RaceWatch$Log" "count" "I" : Cond) ∈ wsX3_hasRoom := List.mem_cons_of_mem _ (List.mem_append_left _ (List.mem_of_getElem? (i := 0) rfl))
abbrev rmX3_hasRoom : Room := { frames := 0, cells := 0, slots := 0, locals := 0 }
set_option maxHeartbeats 800000 in
set_option maxRecDepth 100000 in
theorem mX3_hasRoom {G : sx_G} (l : Launch) {F : Nat → va_E} {M k : Nat}  (hM : M ≤ 160) (hk : k ≤ 1000) (h19 : F (19) = ob 3 ([.int (nI (M)), rf G 20, rf G 21, rf G 22, rf G 23, rf G 24, rf G 26, rf G 27])) : sx_I G l yX3_hasRoom wsX3_hasRoom rmX3_hasRoom [rf G 19, .int (nI (k))] (97) F (97) (fun r F1 => F = F1 ∧ ((M + k ≤ 160) ∧ nI 1 = r ∨ ¬ (M + k ≤ 160) ∧ nI 0 = r)) := by
  refine sx_enter (cc := cX3_hasRoom) (maxL := 2) (ret := some .boolean) (own := RX3) (nm := "hasRoom") (by decide) rfl rfl rfl (Nat.le_of_ble_eq_true rfl) ?_
  intro pp ee ss mm args below meth kc ls Q hQ X hs hP hl
  have hl : lv_has ls 2 [(0, rf G 19), (1, .int (nI (k)))] := hl
  refine lv_aload_n X.1.1 X.1.2.1 dX3_hasRoom_0 rfl (lv_at hl 0 rfl) ?_
  refine sx_get X hP in_X3_hasRoom_X3 h19 (by decide) rfl 0 (by decide) lk_X3_hasRoom_fieldLink_RX3_39_RaceWatch_Log_count_I rfl dX3_hasRoom_1 ?_
  refine lv_iload_n X.1.1 X.1.2.1 dX3_hasRoom_4 rfl (lv_at hl 1 rfl) ?_
  refine sx_addN X (M + k) (by omega) dX3_hasRoom_5 ?_
  refine lv_sipush (v := nI 160) X.1.1 X.1.2.1 dX3_hasRoom_6 (by decide) ?_
  refine sx_icmp_gt X (by omega) (by decide) (tgt := 16) dX3_hasRoom_9 (by decide) (fun c9 => ?_) (fun c9 => ?_)
  · refine lv_iconst (v := nI 0) X.1.1 X.1.2.1 dX3_hasRoom_16 (by decide) ?_
    rw [hQ]
    exact sx_zret X rfl (by decide) hs rfl hP dX3_hasRoom_17 (⟨rfl, Or.inr ⟨by omega, rfl⟩⟩)
  · refine lv_iconst (v := nI 1) X.1.1 X.1.2.1 dX3_hasRoom_12 (by decide) ?_
    refine lv_goto (tgt := 17) X.1.1 X.1.2.1 dX3_hasRoom_13 (by decide) ?_
    rw [hQ]
    exact sx_zret X rfl (by decide) hs rfl hP dX3_hasRoom_17 (⟨rfl, Or.inl ⟨by omega, rfl⟩⟩)
theorem ys_X3_append : yX3_append.cls ≠ "java/lang/invoke/MethodHandle" ∧ yX3_append.cls ≠ "java/lang/invoke/VarHandle" ∧ (parseMethodDescriptor yX3_append.desc).map (fun d => d.parameters.length) = some 5 := by decide +kernel
theorem yv_X3_append : yX3_append.cls = RX3 ∧ yX3_append.cls ≠ "java/lang/invoke/MethodHandle" ∧ yX3_append.cls ≠ "java/lang/invoke/VarHandle" ∧ (parseMethodDescriptor yX3_append.desc).map (fun d => d.parameters.length) = some 5 := ⟨rfl, ys_X3_append⟩
theorem in_X3_append_X3 : ∀ w ∈ wsX30, w ∈ wsX3_append := fun _ h => List.mem_cons_of_mem _ (List.mem_append_left _ (List.mem_append_right _ (h)))
theorem lk_X3_append_fieldLink_RX3_39_RaceWatch_Log_count_I : (.fieldLink RX3 39 "RaceWatch$Log" "count" "I" : Cond) ∈ wsX3_append := List.mem_cons_of_mem _ (List.mem_append_left _ (List.mem_append_left _ (List.mem_of_getElem? (i := 0) rfl)))
theorem lk_X3_append_fieldLink_RX3_9_RaceWatch_Log_threads_I : (.fieldLink RX3 9 "RaceWatch$Log" "threads" "[I" : Cond) ∈ wsX3_append := List.mem_cons_of_mem _ (List.mem_append_left _ (List.mem_append_left _ (List.mem_of_getElem? (i := 1) rfl)))
theorem lk_X3_append_fieldLink_RX3_15_RaceWatch_Log_sorts_I : (.fieldLink RX3 15 "RaceWatch$Log" "sorts" "[I" : Cond) ∈ wsX3_append := List.mem_cons_of_mem _ (List.mem_append_left _ (List.mem_append_left _ (List.mem_of_getElem? (i := 2) rfl)))
theorem lk_X3_append_fieldLink_RX3_18_RaceWatch_Log_withs_I : (.fieldLink RX3 18 "RaceWatch$Log" "withs" "[I" : Cond) ∈ wsX3_append := List.mem_cons_of_mem _ (List.mem_append_left _ (List.mem_append_left _ (List.mem_of_getElem? (i := 3) rfl)))
theorem lk_X3_append_fieldLink_RX3_21_RaceWatch_Log_locks_I : (.fieldLink RX3 21 "RaceWatch$Log" "locks" "[I" : Cond) ∈ wsX3_append := List.mem_cons_of_mem _ (List.mem_append_left _ (List.mem_append_left _ (List.mem_of_getElem? (i := 4) rfl)))
theorem lk_X3_append_fieldLink_RX3_29_RaceWatch_Log_clocks_LRaceWatch_Clocks : (.fieldLink RX3 29 "RaceWatch$Log" "clocks" "LRaceWatch$Clocks;" : Cond) ∈ wsX3_append := List.mem_cons_of_mem _ (List.mem_append_left _ (List.mem_append_left _ (List.mem_of_getElem? (i := 5) rfl)))
abbrev rmX3_append : Room := { frames := 2, cells := 0, slots := 0, locals := 83 }
set_option maxHeartbeats 800000 in
set_option maxRecDepth 100000 in
theorem mX3_append {G : sx_G} (l : Launch) {F : Nat → va_E} {th so wi lo lc ct : Nat → Int32} {rr r4 : Value} {M t s x : Nat} {lk : Int32}  (hM : M < 160) (ht : t < 4) (h19 : F (19) = ob 3 ([.int (nI (M)), rf G 20, rf G 21, rf G 22, rf G 23, rf G 24, rf G 26, rf G 27])) (h20 : F (20) = rI G (160) (th)) (h21 : F (21) = rI G (160) (so)) (h22 : F (22) = rI G (160) (wi)) (h23 : F (23) = rI G (160) (lo)) (h24 : F (24) = ob 1 ([rr, rf G 25])) (h25 : F (25) = rI G (640) (lc)) (h4 : F (4) = ob 1 ([r4, rf G 5])) (h5 : F (5) = rI G (16) (ct)) : sx_I G l yX3_append wsX3_append rmX3_append [rf G 19, .int (nI (t)), .int (nI (s)), .int (nI (x)), .int (lk), rf G 4] (97) F (97) (fun r F1 => F1 19 = ob 3 ([.int (nI (1 + M)), rf G 20, rf G 21, rf G 22, rf G 23, rf G 24, rf G 26, rf G 27]) ∧ F1 20 = rI G 160 (upd th M (nI t)) ∧ F1 21 = rI G 160 (upd so M (nI s)) ∧ F1 22 = rI G 160 (upd wi M (nI x)) ∧ F1 23 = rI G 160 (upd lo M lk) ∧ F1 25 = rI G 640 (va_cpy ct lc (4 * t) (4 * M) 4) ∧ (∀ j, j ≠ 19 ∧ j ≠ 20 ∧ j ≠ 21 ∧ j ≠ 22 ∧ j ≠ 23 ∧ j ≠ 25 → F1 j = F j) ∧ nI M = r) := by
  refine sx_enter (cc := cX3_append) (maxL := 7) (ret := some .int) (own := RX3) (nm := "append") (by decide) rfl rfl rfl (Nat.le_of_ble_eq_true rfl) ?_
  intro pp ee ss mm args below meth kc ls Q hQ X hs hP hl
  have hl : lv_has ls 7 [(0, rf G 19), (1, .int (nI (t))), (2, .int (nI (s))), (3, .int (nI (x))), (4, .int (lk)), (5, rf G 4)] := hl
  have hO : ∀ j, j ≠ 19 ∧ j ≠ 20 ∧ j ≠ 21 ∧ j ≠ 22 ∧ j ≠ 23 ∧ j ≠ 25 → F j = F j := fun _ _ => rfl
  refine lv_aload_n X.1.1 X.1.2.1 dX3_append_0 rfl (lv_at hl 0 rfl) ?_
  refine sx_get X hP in_X3_append_X3 h19 (by decide) rfl 0 (by decide) lk_X3_append_fieldLink_RX3_39_RaceWatch_Log_count_I rfl dX3_append_1 ?_
  refine lv_istore (lv' := [(6, .int (nI (M))), (0, rf G 19), (1, .int (nI (t))), (2, .int (nI (s))), (3, .int (nI (x))), (4, .int (lk)), (5, rf G 4)]) X.1.1 X.1.2.1 dX3_append_4 hl (by decide) rfl (fun ls hl => ?_)
  refine lv_aload_n X.1.1 X.1.2.1 dX3_append_6 rfl (lv_at hl 1 rfl) ?_
  refine sx_get X hP in_X3_append_X3 h19 (by decide) rfl 1 (by decide) lk_X3_append_fieldLink_RX3_9_RaceWatch_Log_threads_I rfl dX3_append_7 ?_
  refine lv_iload X.1.1 X.1.2.1 dX3_append_10 (lv_at hl 0 rfl) ?_
  refine lv_iload_n X.1.1 X.1.2.1 dX3_append_12 rfl (lv_at hl 2 rfl) ?_
  refine sx_ast X hP h20 (by decide) (M) (by omega) (by decide) dX3_append_13 (fun F1 H1 l1 e1 o1 hP => ?_)
  obtain ⟨w1, hw1⟩ : ∃ z, z = upd th (M) (nI (t)) := ⟨_, rfl⟩
  rw [← hw1] at e1
  have h20 : F1 (20) = rI G (160) (w1) := e1
  have h19 := (o1 (19) (by decide)).trans h19
  have h21 := (o1 (21) (by decide)).trans h21
  have h22 := (o1 (22) (by decide)).trans h22
  have h23 := (o1 (23) (by decide)).trans h23
  have h24 := (o1 (24) (by decide)).trans h24
  have h25 := (o1 (25) (by decide)).trans h25
  have h4 := (o1 (4) (by decide)).trans h4
  have h5 := (o1 (5) (by decide)).trans h5
  have hO : ∀ j, j ≠ 19 ∧ j ≠ 20 ∧ j ≠ 21 ∧ j ≠ 22 ∧ j ≠ 23 ∧ j ≠ 25 → F1 j = F j := fun j hj => (o1 j (by omega)).trans (hO j hj)
  refine lv_aload_n X.1.1 X.1.2.1 dX3_append_14 rfl (lv_at hl 1 rfl) ?_
  refine sx_get X hP in_X3_append_X3 h19 (by decide) rfl 2 (by decide) lk_X3_append_fieldLink_RX3_15_RaceWatch_Log_sorts_I rfl dX3_append_15 ?_
  refine lv_iload X.1.1 X.1.2.1 dX3_append_18 (lv_at hl 0 rfl) ?_
  refine lv_iload_n X.1.1 X.1.2.1 dX3_append_20 rfl (lv_at hl 3 rfl) ?_
  refine sx_ast X hP h21 (by decide) (M) (by omega) (by decide) dX3_append_21 (fun F2 H2 l2 e2 o2 hP => ?_)
  obtain ⟨w2, hw2⟩ : ∃ z, z = upd so (M) (nI (s)) := ⟨_, rfl⟩
  rw [← hw2] at e2
  have h21 : F2 (21) = rI G (160) (w2) := e2
  have h19 := (o2 (19) (by decide)).trans h19
  have h20 := (o2 (20) (by decide)).trans h20
  have h22 := (o2 (22) (by decide)).trans h22
  have h23 := (o2 (23) (by decide)).trans h23
  have h24 := (o2 (24) (by decide)).trans h24
  have h25 := (o2 (25) (by decide)).trans h25
  have h4 := (o2 (4) (by decide)).trans h4
  have h5 := (o2 (5) (by decide)).trans h5
  have hO : ∀ j, j ≠ 19 ∧ j ≠ 20 ∧ j ≠ 21 ∧ j ≠ 22 ∧ j ≠ 23 ∧ j ≠ 25 → F2 j = F j := fun j hj => (o2 j (by omega)).trans (hO j hj)
  refine lv_aload_n X.1.1 X.1.2.1 dX3_append_22 rfl (lv_at hl 1 rfl) ?_
  refine sx_get X hP in_X3_append_X3 h19 (by decide) rfl 3 (by decide) lk_X3_append_fieldLink_RX3_18_RaceWatch_Log_withs_I rfl dX3_append_23 ?_
  refine lv_iload X.1.1 X.1.2.1 dX3_append_26 (lv_at hl 0 rfl) ?_
  refine lv_iload_n X.1.1 X.1.2.1 dX3_append_28 rfl (lv_at hl 4 rfl) ?_
  refine sx_ast X hP h22 (by decide) (M) (by omega) (by decide) dX3_append_29 (fun F3 H3 l3 e3 o3 hP => ?_)
  obtain ⟨w3, hw3⟩ : ∃ z, z = upd wi (M) (nI (x)) := ⟨_, rfl⟩
  rw [← hw3] at e3
  have h22 : F3 (22) = rI G (160) (w3) := e3
  have h19 := (o3 (19) (by decide)).trans h19
  have h20 := (o3 (20) (by decide)).trans h20
  have h21 := (o3 (21) (by decide)).trans h21
  have h23 := (o3 (23) (by decide)).trans h23
  have h24 := (o3 (24) (by decide)).trans h24
  have h25 := (o3 (25) (by decide)).trans h25
  have h4 := (o3 (4) (by decide)).trans h4
  have h5 := (o3 (5) (by decide)).trans h5
  have hO : ∀ j, j ≠ 19 ∧ j ≠ 20 ∧ j ≠ 21 ∧ j ≠ 22 ∧ j ≠ 23 ∧ j ≠ 25 → F3 j = F j := fun j hj => (o3 j (by omega)).trans (hO j hj)
  refine lv_aload_n X.1.1 X.1.2.1 dX3_append_30 rfl (lv_at hl 1 rfl) ?_
  refine sx_get X hP in_X3_append_X3 h19 (by decide) rfl 4 (by decide) lk_X3_append_fieldLink_RX3_21_RaceWatch_Log_locks_I rfl dX3_append_31 ?_
  refine lv_iload X.1.1 X.1.2.1 dX3_append_34 (lv_at hl 0 rfl) ?_
  refine lv_iload X.1.1 X.1.2.1 dX3_append_36 (lv_at hl 5 rfl) ?_
  refine sx_ast X hP h23 (by decide) (M) (by omega) (by decide) dX3_append_38 (fun F4 H4 l4 e4 o4 hP => ?_)
  obtain ⟨w4, hw4⟩ : ∃ z, z = upd lo (M) (lk) := ⟨_, rfl⟩
  rw [← hw4] at e4
  have h23 : F4 (23) = rI G (160) (w4) := e4
  have h19 := (o4 (19) (by decide)).trans h19
  have h20 := (o4 (20) (by decide)).trans h20
  have h21 := (o4 (21) (by decide)).trans h21
  have h22 := (o4 (22) (by decide)).trans h22
  have h24 := (o4 (24) (by decide)).trans h24
  have h25 := (o4 (25) (by decide)).trans h25
  have h4 := (o4 (4) (by decide)).trans h4
  have h5 := (o4 (5) (by decide)).trans h5
  have hO : ∀ j, j ≠ 19 ∧ j ≠ 20 ∧ j ≠ 21 ∧ j ≠ 22 ∧ j ≠ 23 ∧ j ≠ 25 → F4 j = F j := fun j hj => (o4 j (by omega)).trans (hO j hj)
  refine lv_aload_n X.1.1 X.1.2.1 dX3_append_39 rfl (lv_at hl 1 rfl) ?_
  refine sx_get X hP in_X3_append_X3 h19 (by decide) rfl 5 (by decide) lk_X3_append_fieldLink_RX3_29_RaceWatch_Log_clocks_LRaceWatch_Clocks rfl dX3_append_40 ?_
  refine lv_iload X.1.1 X.1.2.1 dX3_append_43 (lv_at hl 0 rfl) ?_
  refine lv_aload X.1.1 X.1.2.1 dX3_append_45 (lv_at hl 6 rfl) ?_
  refine lv_iload_n X.1.1 X.1.2.1 dX3_append_47 rfl (lv_at hl 2 rfl) ?_
  refine sx_cvV (As := [.int (nI (M)), rf G 4, .int (nI (t))]) (rest := []) X (mX1_copyRow l (ci := 24) (cj := 25) (ck := 4) (cl := 5) (L := 640) (M := 16) (row := M) (orow := t) (by decide) (by decide) (by decide) (by decide) (by decide) (by decide) (by decide) (by decide) (by decide) (by decide) (by omega) (by omega) h24 h25 h4 h5) gX3_append_X1_copyRow rfl yv_X1_copyRow ⟨Nat.le_of_ble_eq_true rfl, Nat.le_of_ble_eq_true rfl⟩ h24 (by decide) rfl rfl hl.1 rfl (Nat.le_of_ble_eq_true rfl) dX3_append_48 ⟨Nat.le_of_ble_eq_true rfl, Nat.le_of_ble_eq_true rfl⟩ hs rfl hP (fun F5 H5 l5 hp hP => ?_)
  obtain ⟨e5, o5⟩ := hp
  obtain ⟨w5, hw5⟩ : ∃ z, z = va_cpy ct lc (4 * t) (4 * M) 4 := ⟨_, rfl⟩
  rw [← hw5] at e5
  have h25 : F5 (25) = rI G (640) (w5) := e5
  have h19 := (o5 (19) (by decide)).trans h19
  have h20 := (o5 (20) (by decide)).trans h20
  have h21 := (o5 (21) (by decide)).trans h21
  have h22 := (o5 (22) (by decide)).trans h22
  have h23 := (o5 (23) (by decide)).trans h23
  have h24 := (o5 (24) (by decide)).trans h24
  have h4 := (o5 (4) (by decide)).trans h4
  have h5 := (o5 (5) (by decide)).trans h5
  have hO : ∀ j, j ≠ 19 ∧ j ≠ 20 ∧ j ≠ 21 ∧ j ≠ 22 ∧ j ≠ 23 ∧ j ≠ 25 → F5 j = F j := fun j hj => (o5 j (by omega)).trans (hO j hj)
  refine lv_aload_n X.1.1 X.1.2.1 dX3_append_51 rfl (lv_at hl 1 rfl) ?_
  refine lv_dup X.1.1 X.1.2.1 dX3_append_52 rfl ?_
  refine sx_get X hP in_X3_append_X3 h19 (by decide) rfl 0 (by decide) lk_X3_append_fieldLink_RX3_39_RaceWatch_Log_count_I rfl dX3_append_53 ?_
  refine lv_iconst (v := nI 1) X.1.1 X.1.2.1 dX3_append_56 (by decide) ?_
  refine sx_addN X (1 + M) (by omega) dX3_append_57 ?_
  refine sx_put X hP in_X3_append_X3 tyX3 tyX3_ok nmX3 h19 (by decide) rfl 0 (by decide) lk_X3_append_fieldLink_RX3_39_RaceWatch_Log_count_I rfl rfl rfl (Nat.le_of_ble_eq_true rfl) dX3_append_58 (fun F6 H6 l6 e6 o6 hP => ?_)
  have h19 : F6 (19) = ob 3 ([.int (nI (1 + M)), rf G 20, rf G 21, rf G 22, rf G 23, rf G 24, rf G 26, rf G 27]) := e6
  have h20 := (o6 (20) (by decide)).trans h20
  have h21 := (o6 (21) (by decide)).trans h21
  have h22 := (o6 (22) (by decide)).trans h22
  have h23 := (o6 (23) (by decide)).trans h23
  have h24 := (o6 (24) (by decide)).trans h24
  have h25 := (o6 (25) (by decide)).trans h25
  have h4 := (o6 (4) (by decide)).trans h4
  have h5 := (o6 (5) (by decide)).trans h5
  have hO : ∀ j, j ≠ 19 ∧ j ≠ 20 ∧ j ≠ 21 ∧ j ≠ 22 ∧ j ≠ 23 ∧ j ≠ 25 → F6 j = F j := fun j hj => (o6 j (by omega)).trans (hO j hj)
  refine lv_iload X.1.1 X.1.2.1 dX3_append_61 (lv_at hl 0 rfl) ?_
  rw [hQ]
  exact sx_iret X rfl hs rfl hP dX3_append_63 (⟨h19, h20.trans (by rw [hw1]), h21.trans (by rw [hw2]), h22.trans (by rw [hw3]), h23.trans (by rw [hw4]), h25.trans (by rw [hw5]), hO, rfl⟩)
theorem ys_X3_countRaces : yX3_countRaces.cls ≠ "java/lang/invoke/MethodHandle" ∧ yX3_countRaces.cls ≠ "java/lang/invoke/VarHandle" ∧ (parseMethodDescriptor yX3_countRaces.desc).map (fun d => d.parameters.length) = some 1 := by decide +kernel
theorem yv_X3_countRaces : yX3_countRaces.cls = RX3 ∧ yX3_countRaces.cls ≠ "java/lang/invoke/MethodHandle" ∧ yX3_countRaces.cls ≠ "java/lang/invoke/VarHandle" ∧ (parseMethodDescriptor yX3_countRaces.desc).map (fun d => d.parameters.length) = some 1 := ⟨rfl, ys_X3_countRaces⟩
theorem in_X3_countRaces_X3 : ∀ w ∈ wsX30, w ∈ wsX3_countRaces := fun _ h => List.mem_cons_of_mem _ (List.mem_append_left _ (List.mem_append_right _ (h)))
theorem lk_X3_countRaces_fieldLink_RX3_33_RaceWatch_Log_racesBehind_I : (.fieldLink RX3 33 "RaceWatch$Log" "racesBehind" "[I" : Cond) ∈ wsX3_countRaces := List.mem_cons_of_mem _ (List.mem_append_left _ (List.mem_append_left _ (List.mem_append_left _ (List.mem_of_getElem? (i := 2) rfl))))
theorem lk_X3_countRaces_fieldLink_RX3_36_RaceWatch_Log_raceCounts_I : (.fieldLink RX3 36 "RaceWatch$Log" "raceCounts" "[I" : Cond) ∈ wsX3_countRaces := List.mem_cons_of_mem _ (List.mem_append_left _ (List.mem_append_left _ (List.mem_append_left _ (List.mem_of_getElem? (i := 0) rfl))))
theorem lk_X3_countRaces_fieldLink_RX3_18_RaceWatch_Log_withs_I : (.fieldLink RX3 18 "RaceWatch$Log" "withs" "[I" : Cond) ∈ wsX3_countRaces := List.mem_cons_of_mem _ (List.mem_append_left _ (List.mem_append_left _ (List.mem_append_left _ (List.mem_of_getElem? (i := 1) rfl))))
abbrev rmX3_countRaces : Room := { frames := 3, cells := 0, slots := 0, locals := 67 }
set_option maxHeartbeats 800000 in
set_option maxRecDepth 100000 in
theorem mX3_countRaces {G : sx_G} (l : Launch) {F : Nat → va_E} {v th so wi lo lc : Nat → Int32} {rr : Value} {M : Nat} {rb rc : Nat → Int32} {f c : Nat}  (hLV : LV v M th so wi lo lc) (hM : M ≤ 160) (hok : ∀ e, e < M → okE v e) (hf : f < M) (hc : c < 4) (haf : accA v f) (hcf : v (94 + 8 * f) = nI c) (h19 : F (19) = ob 3 ([.int (nI (M)), rf G 20, rf G 21, rf G 22, rf G 23, rf G 24, rf G 26, rf G 27])) (h20 : F (20) = rI G (160) (th)) (h21 : F (21) = rI G (160) (so)) (h22 : F (22) = rI G (160) (wi)) (h23 : F (23) = rI G (160) (lo)) (h24 : F (24) = ob 1 ([rr, rf G 25])) (h25 : F (25) = rI G (640) (lc)) (h26 : F (26) = rI G (160) (rb)) (h27 : F (27) = rI G (12) (rc)) : sx_V G l yX3_countRaces wsX3_countRaces rmX3_countRaces [rf G 19, .int (nI (f))] (97) F (97) (fun F1 => (∃ r, F1 27 = rI G 12 r ∧ (∀ k, k < 3 → r (3 * c + k) = rc (3 * c + k) + nI (cntE v c k f f)) ∧ ∀ j, (j < 3 * c ∨ 3 * c + 3 ≤ j) → r j = rc j) ∧ F1 26 = rI G 160 (upd rb f (nI (cntE v c 3 f f))) ∧ ∀ j, j ≠ 26 ∧ j ≠ 27 → F1 j = F j) := by
  refine sx_enter (cc := cX3_countRaces) (maxL := 5) (ret := none) (own := RX3) (nm := "countRaces") (by decide) rfl rfl rfl (Nat.le_of_ble_eq_true rfl) ?_
  intro pp ee ss mm args below meth kc ls Q hQ X hs hP hl
  have hl : lv_has ls 5 [(0, rf G 19), (1, .int (nI (f)))] := hl
  have hO : ∀ j, j ≠ 26 ∧ j ≠ 27 → F j = F j := fun _ _ => rfl
  have hwf := (hLV f hf).2.2.1.trans hcf
  refine lv_iconst (v := nI 0) X.1.1 X.1.2.1 dX3_countRaces_0 (by decide) ?_
  refine lv_istore_n (lv' := [(2, .int (nI 0)), (0, rf G 19), (1, .int (nI (f)))]) X.1.1 X.1.2.1 dX3_countRaces_1 rfl hl (by decide) rfl (fun ls hl => ?_)
  refine lv_iconst (v := nI 0) X.1.1 X.1.2.1 dX3_countRaces_2 (by decide) ?_
  refine lv_istore_n (lv' := [(3, .int (nI 0)), (2, .int (nI 0)), (0, rf G 19), (1, .int (nI (f)))]) X.1.1 X.1.2.1 dX3_countRaces_3 rfl hl (by decide) rfl (fun ls hl => ?_)
  have lo : ∀ (k_lo : Nat) (r : Nat → Int32) (a : Nat) (e : Nat) (Fv : Nat → va_E) (Hv : Heap) (lv : List Loc) (ls : Array Slot), (e + k_lo = f) → (a = cntE v c 3 f e) → (∀ k, k < 3 → r (3 * c + k) = rc (3 * c + k) + nI (cntE v c k f e)) → (∀ j, (j < 3 * c ∨ 3 * c + 3 ≤ j) → r j = rc j) → (Fv (19) = ob 3 ([.int (nI (M)), rf G 20, rf G 21, rf G 22, rf G 23, rf G 24, rf G 26, rf G 27])) → (Fv (20) = rI G (160) (th)) → (Fv (21) = rI G (160) (so)) → (Fv (22) = rI G (160) (wi)) → (Fv (23) = rI G (160) (lo)) → (Fv (24) = ob 1 ([rr, rf G 25])) → (Fv (25) = rI G (640) (lc)) → (Fv (26) = rI G (160) (rb)) → (Fv (27) = rI G (12) (r)) → (∀ j, j ≠ 26 ∧ j ≠ 27 → Fv j = F j) → sx_H G (97) Fv ss.heap Hv lv → lv_has ls 5 [(0, rf G 19), (1, .int (nI (f))), (2, .int (nI (a))), (3, .int (nI (e)))] → W pp l ee rmX3_countRaces ss mm args below meth kc Hv lv 0 0 Q (F0 mm 4 ls []) := by
    intro k_lo
    induction k_lo with
    | zero =>
      intro r a e Fv Hv lv ls hk ha hr hro h19 h20 h21 h22 h23 h24 h25 h26 h27 hO hP hl
      refine lv_iload_n X.1.1 X.1.2.1 dX3_countRaces_4 rfl (lv_at hl 3 rfl) ?_
      refine lv_iload_n X.1.1 X.1.2.1 dX3_countRaces_5 rfl (lv_at hl 1 rfl) ?_
      refine sx_icmp_ge X (by omega) (by omega) (tgt := 52) dX3_countRaces_6 (by decide) (fun c6 => ?_) (fun c6 => absurd c6 (by omega))
      refine lv_aload_n X.1.1 X.1.2.1 dX3_countRaces_52 rfl (lv_at hl 0 rfl) ?_
      refine sx_get X hP in_X3_countRaces_X3 h19 (by decide) rfl 6 (by decide) lk_X3_countRaces_fieldLink_RX3_33_RaceWatch_Log_racesBehind_I rfl dX3_countRaces_53 ?_
      refine lv_iload_n X.1.1 X.1.2.1 dX3_countRaces_56 rfl (lv_at hl 1 rfl) ?_
      refine lv_iload_n X.1.1 X.1.2.1 dX3_countRaces_57 rfl (lv_at hl 2 rfl) ?_
      refine sx_ast X hP h26 (by decide) (f) (by omega) (by decide) dX3_countRaces_58 (fun F1 H1 l1 e1 o1 hP => ?_)
      obtain ⟨w1, hw1⟩ : ∃ z, z = upd rb (f) (nI (a)) := ⟨_, rfl⟩
      rw [← hw1] at e1
      have h26 : F1 (26) = rI G (160) (w1) := e1
      have h19 := (o1 (19) (by decide)).trans h19
      have h20 := (o1 (20) (by decide)).trans h20
      have h21 := (o1 (21) (by decide)).trans h21
      have h22 := (o1 (22) (by decide)).trans h22
      have h23 := (o1 (23) (by decide)).trans h23
      have h24 := (o1 (24) (by decide)).trans h24
      have h25 := (o1 (25) (by decide)).trans h25
      have h27 := (o1 (27) (by decide)).trans h27
      have hO : ∀ j, j ≠ 26 ∧ j ≠ 27 → F1 j = F j := fun j hj => (o1 j (by omega)).trans (hO j hj)
      rw [hQ]
      exact sx_vret X rfl hs rfl hP dX3_countRaces_59 (⟨⟨_, h27, fun k hk => by have q := hr k hk; rw [show e = f by omega] at q; exact q, hro⟩, h26.trans (by rw [hw1, ha, show e = f by omega]), hO⟩)
    | succ k_lo ih_lo =>
      intro r a e Fv Hv lv ls hk ha hr hro h19 h20 h21 h22 h23 h24 h25 h26 h27 hO hP hl
      refine lv_iload_n X.1.1 X.1.2.1 dX3_countRaces_4 rfl (lv_at hl 3 rfl) ?_
      refine lv_iload_n X.1.1 X.1.2.1 dX3_countRaces_5 rfl (lv_at hl 1 rfl) ?_
      refine sx_icmp_ge X (by omega) (by omega) (tgt := 52) dX3_countRaces_6 (by decide) (fun c6 => absurd c6 (by omega)) (fun c6 => ?_)
      refine lv_aload_n X.1.1 X.1.2.1 dX3_countRaces_9 rfl (lv_at hl 0 rfl) ?_
      refine lv_iload_n X.1.1 X.1.2.1 dX3_countRaces_10 rfl (lv_at hl 3 rfl) ?_
      refine lv_iload_n X.1.1 X.1.2.1 dX3_countRaces_11 rfl (lv_at hl 1 rfl) ?_
      refine sx_cvI (As := [.int (nI (e)), .int (nI (f))]) (rest := []) X (mX3_kindOfPair l (e := e) (f := f) (c := c) hLV hM hok (by omega) (by omega) haf hcf h19 h20 h21 h22 h23 h24 h25) gX3_countRaces_X3_kindOfPair rfl yv_X3_kindOfPair ⟨Nat.le_of_ble_eq_true rfl, Nat.le_of_ble_eq_true rfl⟩ h19 (by decide) rfl rfl hl.1 rfl (Nat.le_of_ble_eq_true rfl) dX3_countRaces_12 ⟨Nat.le_of_ble_eq_true rfl, Nat.le_of_ble_eq_true rfl⟩ hs rfl hP (fun r2 F2 H2 l2 hp hP => ?_)
      obtain ⟨rfl, rfl⟩ := hp
      refine lv_istore (lv' := [(4, .int (kbF v e f c)), (0, rf G 19), (1, .int (nI (f))), (2, .int (nI (a))), (3, .int (nI (e)))]) X.1.1 X.1.2.1 dX3_countRaces_15 hl (by decide) rfl (fun ls hl => ?_)
      refine lv_iload X.1.1 X.1.2.1 dX3_countRaces_17 (lv_at hl 0 rfl) ?_
      refine lv_iconst (v := (-1)) X.1.1 X.1.2.1 dX3_countRaces_19 (by decide) ?_
      refine lv_icmp_eq X.1.1 X.1.2.1 (tgt := 46) dX3_countRaces_20 (by decide) (fun c20 => ?_) (fun c20 => ?_)
      · refine lv_iinc (v := (nI (1 + e))) (lv' := [(3, .int (nI (1 + e))), (4, .int (kbF v e f c)), (0, rf G 19), (1, .int (nI (f))), (2, .int (nI (a)))]) X.1.1 X.1.2.1 dX3_countRaces_46 hl (k := 4) rfl (sx_inc1 (by omega)) (by decide) rfl (fun ls hl => ?_)
        refine lv_goto (tgt := 4) X.1.1 X.1.2.1 dX3_countRaces_49 (by decide) ?_
        exact ih_lo (r) (a) (1 + e) _ _ _ _ (by omega) (by rw [cntE_no c20]; exact ha) (fun k hk => by rw [cntE_no c20]; exact hr k hk) (hro) h19 h20 h21 h22 h23 h24 h25 h26 h27 hO hP (lv_sub hl [2, 3, 4, 0] rfl)
      · obtain ⟨kd, hkd, hk3⟩ := kbF_kd c20
        rw [hk3] at hl
        refine lv_aload_n X.1.1 X.1.2.1 dX3_countRaces_23 rfl (lv_at hl 1 rfl) ?_
        refine sx_get X hP in_X3_countRaces_X3 h19 (by decide) rfl 7 (by decide) lk_X3_countRaces_fieldLink_RX3_36_RaceWatch_Log_raceCounts_I rfl dX3_countRaces_24 ?_
        refine lv_aload_n X.1.1 X.1.2.1 dX3_countRaces_27 rfl (lv_at hl 1 rfl) ?_
        refine sx_get X hP in_X3_countRaces_X3 h19 (by decide) rfl 3 (by decide) lk_X3_countRaces_fieldLink_RX3_18_RaceWatch_Log_withs_I rfl dX3_countRaces_28 ?_
        refine lv_iload_n X.1.1 X.1.2.1 dX3_countRaces_31 rfl (lv_at hl 2 rfl) ?_
        refine sx_ald X hP h22 (by decide) (f) (by omega) (by decide) dX3_countRaces_32 ?_
        rw [hwf]
        refine lv_iconst (v := nI 3) X.1.1 X.1.2.1 dX3_countRaces_33 (by decide) ?_
        refine sx_mulN X (3 * c) (by omega) dX3_countRaces_34 ?_
        refine lv_iload X.1.1 X.1.2.1 dX3_countRaces_35 (lv_at hl 0 rfl) ?_
        refine sx_addN X (3 * c + kd) (by omega) dX3_countRaces_37 ?_
        refine lv_dup2_11 X.1.1 X.1.2.1 dX3_countRaces_38 rfl rfl ?_
        refine sx_ald X hP h27 (by decide) (3 * c + kd) (by omega) (by decide) dX3_countRaces_39 ?_
        refine lv_iconst (v := nI 1) X.1.1 X.1.2.1 dX3_countRaces_40 (by decide) ?_
        refine lv_iadd X.1.1 X.1.2.1 dX3_countRaces_41 ?_
        refine sx_ast X hP h27 (by decide) (3 * c + kd) (by omega) (by decide) dX3_countRaces_42 (fun F3 H3 l3 e3 o3 hP => ?_)
        obtain ⟨w3, hw3⟩ : ∃ z, z = upd r (3 * c + kd) ((r (3 * c + kd)) + (nI (1))) := ⟨_, rfl⟩
        rw [← hw3] at e3
        have h27 : F3 (27) = rI G (12) (w3) := e3
        have h19 := (o3 (19) (by decide)).trans h19
        have h20 := (o3 (20) (by decide)).trans h20
        have h21 := (o3 (21) (by decide)).trans h21
        have h22 := (o3 (22) (by decide)).trans h22
        have h23 := (o3 (23) (by decide)).trans h23
        have h24 := (o3 (24) (by decide)).trans h24
        have h25 := (o3 (25) (by decide)).trans h25
        have h26 := (o3 (26) (by decide)).trans h26
        have hO : ∀ j, j ≠ 26 ∧ j ≠ 27 → F3 j = F j := fun j hj => (o3 j (by omega)).trans (hO j hj)
        refine lv_iinc (v := (nI (1 + a))) (lv' := [(2, .int (nI (1 + a))), (4, .int (nI (kd))), (0, rf G 19), (1, .int (nI (f))), (3, .int (nI (e)))]) X.1.1 X.1.2.1 dX3_countRaces_43 hl (k := 3) rfl (sx_inc1 (by omega)) (by decide) rfl (fun ls hl => ?_)
        refine lv_iinc (v := (nI (1 + e))) (lv' := [(3, .int (nI (1 + e))), (2, .int (nI (1 + a))), (4, .int (nI (kd))), (0, rf G 19), (1, .int (nI (f)))]) X.1.1 X.1.2.1 dX3_countRaces_46 hl (k := 4) rfl (sx_inc1 (by omega)) (by decide) rfl (fun ls hl => ?_)
        refine lv_goto (tgt := 4) X.1.1 X.1.2.1 dX3_countRaces_49 (by decide) ?_
        exact ih_lo (w3) (1 + a) (1 + e) _ _ _ _ (by omega) (by rw [cntE_t ⟨c20, Or.inl rfl⟩]; omega) (fun k hk => by rw [hw3, cntE_kd hkd hk3 k hk]; by_cases q : k = kd; (rw [if_pos q, q, pk_us, hr kd hkd, sx_add3]); (rw [if_neg q, pk_un (by omega)]; exact hr k hk)) (fun j hj => by rw [hw3, pk_un (by omega)]; exact hro j hj) h19 h20 h21 h22 h23 h24 h25 h26 h27 hO hP (lv_sub hl [3, 4, 1, 0] rfl)
  exact lo (f) (rc) (0) (0) _ _ _ _ (by omega) (rfl) (fun k hk => by show _ = _ + nI 0; rw [nI_0]; simp) (fun _ _ => rfl) h19 h20 h21 h22 h23 h24 h25 h26 h27 hO hP (lv_sub hl [2, 3, 1, 0] rfl)
