theorem min_jn {en : Nat} (h : en ≤ 24) : (if nI 24 < nI (1 + en) then nI 24 else nI (1 + en)) = nI (jnE en) := by
  unfold jnE
  by_cases e : en = 24
  · subst e; rw [if_pos (by decide), if_pos rfl]
  · rw [if_neg (Int32.not_lt.mpr ((nI_leI (by omega) (by decide)).mpr (by omega))), if_neg e]
theorem ys_X0_enter : yX0_enter.cls ≠ "java/lang/invoke/MethodHandle" ∧ yX0_enter.cls ≠ "java/lang/invoke/VarHandle" ∧ (parseMethodDescriptor yX0_enter.desc).map (fun d => d.parameters.length) = some 2 := by decide +kernel
theorem yv_X0_enter : yX0_enter.cls = RX0 ∧ yX0_enter.cls ≠ "java/lang/invoke/MethodHandle" ∧ yX0_enter.cls ≠ "java/lang/invoke/VarHandle" ∧ (parseMethodDescriptor yX0_enter.desc).map (fun d => d.parameters.length) = some 2 := ⟨rfl, ys_X0_enter⟩
theorem in_X0_enter_X0 : ∀ w ∈ wsX00, w ∈ wsX0_enter := fun _ h => List.mem_cons_of_mem _ (List.mem_append_right _ (h))
theorem lk_X0_enter_fieldLink_RX0_9_RaceWatch_Book_locks_I : (.fieldLink RX0 9 "RaceWatch$Book" "locks" "[I" : Cond) ∈ wsX0_enter := List.mem_cons_of_mem _ (List.mem_append_left _ (List.mem_of_getElem? (i := 0) rfl))
theorem lk_X0_enter_methodLink_RX0_18_arraycopyName : (.methodLink RX0 18 arraycopyName : Cond) ∈ wsX0_enter := List.mem_cons_of_mem _ (List.mem_append_left _ (List.mem_of_getElem? (i := 1) rfl))
theorem lk_X0_enter_native_arraycopyName : (.native arraycopyName : Cond) ∈ wsX0_enter := List.mem_cons_of_mem _ (List.mem_append_left _ (List.mem_of_getElem? (i := 2) rfl))
theorem lk_X0_enter_static_arraycopyName : (.static arraycopyName : Cond) ∈ wsX0_enter := List.mem_cons_of_mem _ (List.mem_append_left _ (List.mem_of_getElem? (i := 3) rfl))
theorem lk_X0_enter_initialized_java_lang_System : (.initialized "java/lang/System" : Cond) ∈ wsX0_enter := List.mem_cons_of_mem _ (List.mem_append_left _ (List.mem_of_getElem? (i := 4) rfl))
theorem lk_X0_enter_fieldLink_RX0_15_RaceWatch_Book_opened_I : (.fieldLink RX0 15 "RaceWatch$Book" "opened" "[I" : Cond) ∈ wsX0_enter := List.mem_cons_of_mem _ (List.mem_append_left _ (List.mem_of_getElem? (i := 5) rfl))
theorem lk_X0_enter_fieldLink_RX0_24_RaceWatch_Book_count_I : (.fieldLink RX0 24 "RaceWatch$Book" "count" "I" : Cond) ∈ wsX0_enter := List.mem_cons_of_mem _ (List.mem_append_left _ (List.mem_of_getElem? (i := 6) rfl))
theorem lk_X0_enter_methodLink_RX0_28_Lib_Math_min_name : (.methodLink RX0 28 Lib.Math.min.name : Cond) ∈ wsX0_enter := List.mem_cons_of_mem _ (List.mem_append_left _ (List.mem_of_getElem? (i := 7) rfl))
theorem lk_X0_enter_static_Lib_Math_min_name : (.static Lib.Math.min.name : Cond) ∈ wsX0_enter := List.mem_cons_of_mem _ (List.mem_append_left _ (List.mem_of_getElem? (i := 8) rfl))
theorem lk_X0_enter_initialized_java_lang_Math : (.initialized "java/lang/Math" : Cond) ∈ wsX0_enter := List.mem_cons_of_mem _ (List.mem_append_left _ (List.mem_of_getElem? (i := 9) rfl))
theorem lk_X0_enter_code_Lib_Math_min_name_Lib_Math_min_code_2_some_int : (.code Lib.Math.min.name Lib.Math.min.code 2 (some .int) : Cond) ∈ wsX0_enter := List.mem_cons_of_mem _ (List.mem_append_left _ (List.mem_of_getElem? (i := 10) rfl))
abbrev rmX0_enter : Room := { frames := 1, cells := 0, slots := 0, locals := 60 }
set_option maxHeartbeats 800000 in
set_option maxRecDepth 100000 in
theorem mX0_enter {G : sx_G} (l : Launch) {F : Nat → va_E} {en : Nat} {jl jp : Nat → Int32} {a b : Int32}  (hen : en ≤ 24) (h85 : F (85) = ob 0 ([.int (nI (en)), rf G 86, rf G 87])) (h86 : F (86) = rI G (24) (jl)) (h87 : F (87) = rI G (24) (jp)) : sx_V G l yX0_enter wsX0_enter rmX0_enter [rf G 85, .int (a), .int (b)] (97) F (97) (fun F1 => F1 85 = ob 0 ([.int (nI (jnE en)), rf G 86, rf G 87]) ∧ F1 86 = rI G 24 (upd (va_cpy jl jl 0 1 23) 0 a) ∧ F1 87 = rI G 24 (upd (va_cpy jp jp 0 1 23) 0 b) ∧ ∀ j, j ≠ 85 ∧ j ≠ 86 ∧ j ≠ 87 → F1 j = F j) := by
  refine sx_enter (cc := cX0_enter) (maxL := 3) (ret := none) (own := RX0) (nm := "enter") (by decide) rfl rfl rfl (Nat.le_of_ble_eq_true rfl) ?_
  intro pp ee ss mm args below meth kc ls Q hQ X hs hP hl
  have hl : lv_has ls 3 [(0, rf G 85), (1, .int (a)), (2, .int (b))] := hl
  have hO : ∀ j, j ≠ 85 ∧ j ≠ 86 ∧ j ≠ 87 → F j = F j := fun _ _ => rfl
  refine lv_aload_n X.1.1 X.1.2.1 dX0_enter_0 rfl (lv_at hl 0 rfl) ?_
  refine sx_get X hP in_X0_enter_X0 h85 (by decide) rfl 1 (by decide) lk_X0_enter_fieldLink_RX0_9_RaceWatch_Book_locks_I rfl dX0_enter_1 ?_
  refine lv_iconst (v := nI 0) X.1.1 X.1.2.1 dX0_enter_4 (by decide) ?_
  refine lv_aload_n X.1.1 X.1.2.1 dX0_enter_5 rfl (lv_at hl 0 rfl) ?_
  refine sx_get X hP in_X0_enter_X0 h85 (by decide) rfl 1 (by decide) lk_X0_enter_fieldLink_RX0_9_RaceWatch_Book_locks_I rfl dX0_enter_6 ?_
  refine lv_iconst (v := nI 1) X.1.1 X.1.2.1 dX0_enter_9 (by decide) ?_
  refine lv_bipush (v := nI 23) X.1.1 X.1.2.1 dX0_enter_10 (by decide) ?_
  refine sx_copy X hP hl.1 lk_X0_enter_methodLink_RX0_18_arraycopyName lk_X0_enter_native_arraycopyName lk_X0_enter_static_arraycopyName lk_X0_enter_initialized_java_lang_System h86 h86 (by decide) (by decide) (0) (1) (23) (by decide) (by decide) (by decide) (by decide) (Nat.le_of_ble_eq_true rfl) (Nat.le_of_ble_eq_true rfl) dX0_enter_12 (fun F1 H1 l1 e1 o1 hP => ?_)
  obtain ⟨w1, hw1⟩ : ∃ z, z = va_cpy jl jl (0) (1) (23) := ⟨_, rfl⟩
  rw [← hw1] at e1
  have h86 : F1 (86) = rI G (24) (w1) := e1
  have h85 := (o1 (85) (by decide)).trans h85
  have h87 := (o1 (87) (by decide)).trans h87
  have hO : ∀ j, j ≠ 85 ∧ j ≠ 86 ∧ j ≠ 87 → F1 j = F j := fun j hj => (o1 j (by omega)).trans (hO j hj)
  refine lv_aload_n X.1.1 X.1.2.1 dX0_enter_15 rfl (lv_at hl 0 rfl) ?_
  refine sx_get X hP in_X0_enter_X0 h85 (by decide) rfl 2 (by decide) lk_X0_enter_fieldLink_RX0_15_RaceWatch_Book_opened_I rfl dX0_enter_16 ?_
  refine lv_iconst (v := nI 0) X.1.1 X.1.2.1 dX0_enter_19 (by decide) ?_
  refine lv_aload_n X.1.1 X.1.2.1 dX0_enter_20 rfl (lv_at hl 0 rfl) ?_
  refine sx_get X hP in_X0_enter_X0 h85 (by decide) rfl 2 (by decide) lk_X0_enter_fieldLink_RX0_15_RaceWatch_Book_opened_I rfl dX0_enter_21 ?_
  refine lv_iconst (v := nI 1) X.1.1 X.1.2.1 dX0_enter_24 (by decide) ?_
  refine lv_bipush (v := nI 23) X.1.1 X.1.2.1 dX0_enter_25 (by decide) ?_
  refine sx_copy X hP hl.1 lk_X0_enter_methodLink_RX0_18_arraycopyName lk_X0_enter_native_arraycopyName lk_X0_enter_static_arraycopyName lk_X0_enter_initialized_java_lang_System h87 h87 (by decide) (by decide) (0) (1) (23) (by decide) (by decide) (by decide) (by decide) (Nat.le_of_ble_eq_true rfl) (Nat.le_of_ble_eq_true rfl) dX0_enter_27 (fun F2 H2 l2 e2 o2 hP => ?_)
  obtain ⟨w2, hw2⟩ : ∃ z, z = va_cpy jp jp (0) (1) (23) := ⟨_, rfl⟩
  rw [← hw2] at e2
  have h87 : F2 (87) = rI G (24) (w2) := e2
  have h85 := (o2 (85) (by decide)).trans h85
  have h86 := (o2 (86) (by decide)).trans h86
  have hO : ∀ j, j ≠ 85 ∧ j ≠ 86 ∧ j ≠ 87 → F2 j = F j := fun j hj => (o2 j (by omega)).trans (hO j hj)
  refine lv_aload_n X.1.1 X.1.2.1 dX0_enter_30 rfl (lv_at hl 0 rfl) ?_
  refine sx_get X hP in_X0_enter_X0 h85 (by decide) rfl 1 (by decide) lk_X0_enter_fieldLink_RX0_9_RaceWatch_Book_locks_I rfl dX0_enter_31 ?_
  refine lv_iconst (v := nI 0) X.1.1 X.1.2.1 dX0_enter_34 (by decide) ?_
  refine lv_iload_n X.1.1 X.1.2.1 dX0_enter_35 rfl (lv_at hl 1 rfl) ?_
  refine sx_ast X hP h86 (by decide) (0) (by decide) (by decide) dX0_enter_36 (fun F3 H3 l3 e3 o3 hP => ?_)
  obtain ⟨w3, hw3⟩ : ∃ z, z = upd w1 (0) (a) := ⟨_, rfl⟩
  rw [← hw3] at e3
  have h86 : F3 (86) = rI G (24) (w3) := e3
  have h85 := (o3 (85) (by decide)).trans h85
  have h87 := (o3 (87) (by decide)).trans h87
  have hO : ∀ j, j ≠ 85 ∧ j ≠ 86 ∧ j ≠ 87 → F3 j = F j := fun j hj => (o3 j (by omega)).trans (hO j hj)
  refine lv_aload_n X.1.1 X.1.2.1 dX0_enter_37 rfl (lv_at hl 0 rfl) ?_
  refine sx_get X hP in_X0_enter_X0 h85 (by decide) rfl 2 (by decide) lk_X0_enter_fieldLink_RX0_15_RaceWatch_Book_opened_I rfl dX0_enter_38 ?_
  refine lv_iconst (v := nI 0) X.1.1 X.1.2.1 dX0_enter_41 (by decide) ?_
  refine lv_iload_n X.1.1 X.1.2.1 dX0_enter_42 rfl (lv_at hl 2 rfl) ?_
  refine sx_ast X hP h87 (by decide) (0) (by decide) (by decide) dX0_enter_43 (fun F4 H4 l4 e4 o4 hP => ?_)
  obtain ⟨w4, hw4⟩ : ∃ z, z = upd w2 (0) (b) := ⟨_, rfl⟩
  rw [← hw4] at e4
  have h87 : F4 (87) = rI G (24) (w4) := e4
  have h85 := (o4 (85) (by decide)).trans h85
  have h86 := (o4 (86) (by decide)).trans h86
  have hO : ∀ j, j ≠ 85 ∧ j ≠ 86 ∧ j ≠ 87 → F4 j = F j := fun j hj => (o4 j (by omega)).trans (hO j hj)
  refine lv_aload_n X.1.1 X.1.2.1 dX0_enter_44 rfl (lv_at hl 0 rfl) ?_
  refine lv_aload_n X.1.1 X.1.2.1 dX0_enter_45 rfl (lv_at hl 0 rfl) ?_
  refine sx_get X hP in_X0_enter_X0 h85 (by decide) rfl 0 (by decide) lk_X0_enter_fieldLink_RX0_24_RaceWatch_Book_count_I rfl dX0_enter_46 ?_
  refine lv_iconst (v := nI 1) X.1.1 X.1.2.1 dX0_enter_49 (by decide) ?_
  refine sx_addN X (1 + en) (by omega) dX0_enter_50 ?_
  refine lv_bipush (v := nI 24) X.1.1 X.1.2.1 dX0_enter_51 (by decide) ?_
  refine sx_min X hl.1 lk_X0_enter_methodLink_RX0_28_Lib_Math_min_name lk_X0_enter_static_Lib_Math_min_name lk_X0_enter_initialized_java_lang_Math lk_X0_enter_code_Lib_Math_min_name_Lib_Math_min_code_2_some_int (Nat.le_of_ble_eq_true rfl) (Nat.le_of_ble_eq_true rfl) (Nat.le_of_ble_eq_true rfl) (Nat.le_of_ble_eq_true rfl) dX0_enter_53 ?_
  refine sx_put X hP in_X0_enter_X0 tyX0 tyX0_ok nmX0 h85 (by decide) rfl 0 (by decide) lk_X0_enter_fieldLink_RX0_24_RaceWatch_Book_count_I rfl rfl rfl (Nat.le_of_ble_eq_true rfl) dX0_enter_56 (fun F5 H5 l5 e5 o5 hP => ?_)
  have h85 : F5 (85) = ob 0 ([.int (if (nI (24)) < (nI (1 + en)) then (nI (24)) else (nI (1 + en))), rf G 86, rf G 87]) := e5
  have h86 := (o5 (86) (by decide)).trans h86
  have h87 := (o5 (87) (by decide)).trans h87
  have hO : ∀ j, j ≠ 85 ∧ j ≠ 86 ∧ j ≠ 87 → F5 j = F j := fun j hj => (o5 j (by omega)).trans (hO j hj)
  rw [hQ]
  exact sx_vret X rfl hs rfl hP dX0_enter_59 (⟨h85.trans (by rw [min_jn hen]), h86.trans (by rw [hw3, hw1]), h87.trans (by rw [hw4, hw2]), hO⟩)
theorem ys_X4_open : yX4_open.cls ≠ "java/lang/invoke/MethodHandle" ∧ yX4_open.cls ≠ "java/lang/invoke/VarHandle" ∧ (parseMethodDescriptor yX4_open.desc).map (fun d => d.parameters.length) = some 1 := by decide +kernel
theorem yv_X4_open : yX4_open.cls = RX4 ∧ yX4_open.cls ≠ "java/lang/invoke/MethodHandle" ∧ yX4_open.cls ≠ "java/lang/invoke/VarHandle" ∧ (parseMethodDescriptor yX4_open.desc).map (fun d => d.parameters.length) = some 1 := ⟨rfl, ys_X4_open⟩
theorem in_X4_open_X4 : ∀ w ∈ wsX40, w ∈ wsX4_open := fun _ h => List.mem_cons_of_mem _ (List.mem_append_right _ (h))
theorem lk_X4_open_fieldLink_RX4_45_RaceWatch_Telling_depth_I : (.fieldLink RX4 45 "RaceWatch$Telling" "depth" "I" : Cond) ∈ wsX4_open := List.mem_cons_of_mem _ (List.mem_append_left _ (List.mem_of_getElem? (i := 0) rfl))
theorem lk_X4_open_fieldLink_RX4_26_RaceWatch_Telling_lockOf_I : (.fieldLink RX4 26 "RaceWatch$Telling" "lockOf" "[I" : Cond) ∈ wsX4_open := List.mem_cons_of_mem _ (List.mem_append_left _ (List.mem_of_getElem? (i := 1) rfl))
theorem lk_X4_open_fieldLink_RX4_29_RaceWatch_Telling_threadBefore_I : (.fieldLink RX4 29 "RaceWatch$Telling" "threadBefore" "[I" : Cond) ∈ wsX4_open := List.mem_cons_of_mem _ (List.mem_append_left _ (List.mem_of_getElem? (i := 2) rfl))
theorem lk_X4_open_fieldLink_RX4_39_RaceWatch_Telling_threadAtIt_I : (.fieldLink RX4 39 "RaceWatch$Telling" "threadAtIt" "I" : Cond) ∈ wsX4_open := List.mem_cons_of_mem _ (List.mem_append_left _ (List.mem_of_getElem? (i := 3) rfl))
abbrev rmX4_open : Room := { frames := 0, cells := 0, slots := 0, locals := 0 }
set_option maxHeartbeats 800000 in
set_option maxRecDepth 100000 in
theorem mX4_open {G : sx_G} (l : Launch) {F : Nat → va_E} {d : Nat} {tw a : Int32} {ol ot : Nat → Int32} {q0 q1 q4 q5 q7 : Value}  (hd : d < 240) (h84 : F (84) = ob 4 ([q0, q1, rf G 85, rf G 88, q4, q5, .int (tw), q7, .int (nI (d)), rf G 89, rf G 90])) (h89 : F (89) = rI G (240) (ol)) (h90 : F (90) = rI G (240) (ot)) : sx_V G l yX4_open wsX4_open rmX4_open [rf G 84, .int (a)] (97) F (97) (fun F1 => F1 84 = ob 4 ([q0, q1, rf G 85, rf G 88, q4, q5, .int (tw), q7, .int (nI (1 + d)), rf G 89, rf G 90]) ∧ F1 89 = rI G 240 (upd ol d a) ∧ F1 90 = rI G 240 (upd ot d tw) ∧ ∀ j, j ≠ 84 ∧ j ≠ 89 ∧ j ≠ 90 → F1 j = F j) := by
  refine sx_enter (cc := cX4_open) (maxL := 2) (ret := none) (own := RX4) (nm := "open") (by decide) rfl rfl rfl (Nat.le_of_ble_eq_true rfl) ?_
  intro pp ee ss mm args below meth kc ls Q hQ X hs hP hl
  have hl : lv_has ls 2 [(0, rf G 84), (1, .int (a))] := hl
  have hO : ∀ j, j ≠ 84 ∧ j ≠ 89 ∧ j ≠ 90 → F j = F j := fun _ _ => rfl
  refine lv_aload_n X.1.1 X.1.2.1 dX4_open_0 rfl (lv_at hl 0 rfl) ?_
  refine sx_get X hP in_X4_open_X4 h84 (by decide) rfl 8 (by decide) lk_X4_open_fieldLink_RX4_45_RaceWatch_Telling_depth_I rfl dX4_open_1 ?_
  refine lv_sipush (v := nI 240) X.1.1 X.1.2.1 dX4_open_4 (by decide) ?_
  refine sx_icmp_ge X (by omega) (by decide) (tgt := 43) dX4_open_7 (by decide) (fun c7 => absurd c7 (by omega)) (fun c7 => ?_)
  refine lv_aload_n X.1.1 X.1.2.1 dX4_open_10 rfl (lv_at hl 0 rfl) ?_
  refine sx_get X hP in_X4_open_X4 h84 (by decide) rfl 9 (by decide) lk_X4_open_fieldLink_RX4_26_RaceWatch_Telling_lockOf_I rfl dX4_open_11 ?_
  refine lv_aload_n X.1.1 X.1.2.1 dX4_open_14 rfl (lv_at hl 0 rfl) ?_
  refine sx_get X hP in_X4_open_X4 h84 (by decide) rfl 8 (by decide) lk_X4_open_fieldLink_RX4_45_RaceWatch_Telling_depth_I rfl dX4_open_15 ?_
  refine lv_iload_n X.1.1 X.1.2.1 dX4_open_18 rfl (lv_at hl 1 rfl) ?_
  refine sx_ast X hP h89 (by decide) (d) (by omega) (by decide) dX4_open_19 (fun F1 H1 l1 e1 o1 hP => ?_)
  obtain ⟨w1, hw1⟩ : ∃ z, z = upd ol (d) (a) := ⟨_, rfl⟩
  rw [← hw1] at e1
  have h89 : F1 (89) = rI G (240) (w1) := e1
  have h84 := (o1 (84) (by decide)).trans h84
  have h90 := (o1 (90) (by decide)).trans h90
  have hO : ∀ j, j ≠ 84 ∧ j ≠ 89 ∧ j ≠ 90 → F1 j = F j := fun j hj => (o1 j (by omega)).trans (hO j hj)
  refine lv_aload_n X.1.1 X.1.2.1 dX4_open_20 rfl (lv_at hl 0 rfl) ?_
  refine sx_get X hP in_X4_open_X4 h84 (by decide) rfl 10 (by decide) lk_X4_open_fieldLink_RX4_29_RaceWatch_Telling_threadBefore_I rfl dX4_open_21 ?_
  refine lv_aload_n X.1.1 X.1.2.1 dX4_open_24 rfl (lv_at hl 0 rfl) ?_
  refine sx_get X hP in_X4_open_X4 h84 (by decide) rfl 8 (by decide) lk_X4_open_fieldLink_RX4_45_RaceWatch_Telling_depth_I rfl dX4_open_25 ?_
  refine lv_aload_n X.1.1 X.1.2.1 dX4_open_28 rfl (lv_at hl 0 rfl) ?_
  refine sx_get X hP in_X4_open_X4 h84 (by decide) rfl 6 (by decide) lk_X4_open_fieldLink_RX4_39_RaceWatch_Telling_threadAtIt_I rfl dX4_open_29 ?_
  refine sx_ast X hP h90 (by decide) (d) (by omega) (by decide) dX4_open_32 (fun F2 H2 l2 e2 o2 hP => ?_)
  obtain ⟨w2, hw2⟩ : ∃ z, z = upd ot (d) (tw) := ⟨_, rfl⟩
  rw [← hw2] at e2
  have h90 : F2 (90) = rI G (240) (w2) := e2
  have h84 := (o2 (84) (by decide)).trans h84
  have h89 := (o2 (89) (by decide)).trans h89
  have hO : ∀ j, j ≠ 84 ∧ j ≠ 89 ∧ j ≠ 90 → F2 j = F j := fun j hj => (o2 j (by omega)).trans (hO j hj)
  refine lv_aload_n X.1.1 X.1.2.1 dX4_open_33 rfl (lv_at hl 0 rfl) ?_
  refine lv_dup X.1.1 X.1.2.1 dX4_open_34 rfl ?_
  refine sx_get X hP in_X4_open_X4 h84 (by decide) rfl 8 (by decide) lk_X4_open_fieldLink_RX4_45_RaceWatch_Telling_depth_I rfl dX4_open_35 ?_
  refine lv_iconst (v := nI 1) X.1.1 X.1.2.1 dX4_open_38 (by decide) ?_
  refine sx_addN X (1 + d) (by omega) dX4_open_39 ?_
  refine sx_put X hP in_X4_open_X4 tyX4 tyX4_ok nmX4 h84 (by decide) rfl 8 (by decide) lk_X4_open_fieldLink_RX4_45_RaceWatch_Telling_depth_I rfl rfl rfl (Nat.le_of_ble_eq_true rfl) dX4_open_40 (fun F3 H3 l3 e3 o3 hP => ?_)
  have h84 : F3 (84) = ob 4 ([q0, q1, rf G 85, rf G 88, q4, q5, .int (tw), q7, .int (nI (1 + d)), rf G 89, rf G 90]) := e3
  have h89 := (o3 (89) (by decide)).trans h89
  have h90 := (o3 (90) (by decide)).trans h90
  have hO : ∀ j, j ≠ 84 ∧ j ≠ 89 ∧ j ≠ 90 → F3 j = F j := fun j hj => (o3 j (by omega)).trans (hO j hj)
  rw [hQ]
  exact sx_vret X rfl hs rfl hP dX4_open_43 (⟨h84, h89.trans (by rw [hw1]), h90.trans (by rw [hw2]), hO⟩)
