theorem ys_X1_init : yX1_init.cls ≠ "java/lang/invoke/MethodHandle" ∧ yX1_init.cls ≠ "java/lang/invoke/VarHandle" ∧ (parseMethodDescriptor yX1_init.desc).map (fun d => d.parameters.length) = some 1 := by decide +kernel
theorem yv_X1_init : yX1_init.cls = RX1 ∧ yX1_init.cls ≠ "java/lang/invoke/MethodHandle" ∧ yX1_init.cls ≠ "java/lang/invoke/VarHandle" ∧ (parseMethodDescriptor yX1_init.desc).map (fun d => d.parameters.length) = some 1 := ⟨rfl, ys_X1_init⟩
theorem lk_X1_init_methodLink_RX1_3_objectInit : (.methodLink RX1 3 objectInit : Cond) ∈ wsX1_init := List.mem_cons_of_mem _ (List.mem_append_left _ (List.mem_of_getElem? (i := 0) rfl))
theorem lk_X1_init_instanceMethod_objectInit : (.instanceMethod objectInit : Cond) ∈ wsX1_init := List.mem_cons_of_mem _ (List.mem_append_left _ (List.mem_of_getElem? (i := 1) rfl))
theorem lk_X1_init_code_objectInit_0xb1_1_none : (.code objectInit ⟨#[0xb1]⟩ 1 none : Cond) ∈ wsX1_init := List.mem_cons_of_mem _ (List.mem_append_left _ (List.mem_of_getElem? (i := 2) rfl))
theorem lk_X1_init_methodLink_RX1_9_Lib_Math_max_name : (.methodLink RX1 9 Lib.Math.max.name : Cond) ∈ wsX1_init := List.mem_cons_of_mem _ (List.mem_append_left _ (List.mem_of_getElem? (i := 3) rfl))
theorem lk_X1_init_static_Lib_Math_max_name : (.static Lib.Math.max.name : Cond) ∈ wsX1_init := List.mem_cons_of_mem _ (List.mem_append_left _ (List.mem_of_getElem? (i := 4) rfl))
theorem lk_X1_init_initialized_java_lang_Math : (.initialized "java/lang/Math" : Cond) ∈ wsX1_init := List.mem_cons_of_mem _ (List.mem_append_left _ (List.mem_of_getElem? (i := 5) rfl))
theorem lk_X1_init_code_Lib_Math_max_name_Lib_Math_max_code_2_some_int : (.code Lib.Math.max.name Lib.Math.max.code 2 (some .int) : Cond) ∈ wsX1_init := List.mem_cons_of_mem _ (List.mem_append_left _ (List.mem_of_getElem? (i := 6) rfl))
theorem in_X1_init_X1 : ∀ w ∈ wsX10, w ∈ wsX1_init := fun _ h => List.mem_cons_of_mem _ (List.mem_append_right _ (h))
theorem lk_X1_init_fieldLink_RX1_15_RaceWatch_Clocks_rows_I : (.fieldLink RX1 15 "RaceWatch$Clocks" "rows" "I" : Cond) ∈ wsX1_init := List.mem_cons_of_mem _ (List.mem_append_left _ (List.mem_of_getElem? (i := 7) rfl))
theorem lk_X1_init_arrayClass_int : (.arrayClass .int : Cond) ∈ wsX1_init := List.mem_cons_of_mem _ (List.mem_append_left _ (List.mem_of_getElem? (i := 8) rfl))
theorem lk_X1_init_fieldLink_RX1_21_RaceWatch_Clocks_numbers_I : (.fieldLink RX1 21 "RaceWatch$Clocks" "numbers" "[I" : Cond) ∈ wsX1_init := List.mem_cons_of_mem _ (List.mem_append_left _ (List.mem_of_getElem? (i := 9) rfl))
abbrev rmX1_init : Room := { frames := 1, cells := 1, slots := 640, locals := 15 }
set_option maxHeartbeats 800000 in
set_option maxRecDepth 100000 in
theorem mX1_init_4 {G : sx_G} (l : Launch) {F : Nat → va_E} {n ca : Nat}  (hlt : ca < n) (hca : F (ca) = ob 1 ([.int (0), .null])) : sx_V G l yX1_init wsX1_init rmX1_init [rf G (ca), .int (nI 4)] (n) F (n + 1) (fun F1 => F1 ca = ob 1 [.int (nI 4), rf G n] ∧ F1 n = rI G 16 (fun _ => 0) ∧ ∀ j, j ≠ ca ∧ j ≠ n → F1 j = F j) := by
  refine sx_enter (cc := cX1_init) (maxL := 2) (ret := none) (own := RX1) (nm := "<init>") (by decide) rfl rfl rfl (Nat.le_of_ble_eq_true rfl) ?_
  intro pp ee ss mm args below meth kc ls Q hQ X hs hP hl
  have hl : lv_has ls 2 [(0, rf G (ca)), (1, .int (nI 4))] := hl
  have hO : ∀ j, j ≠ ca ∧ j ≠ n → F j = F j := fun _ _ => rfl
  refine lv_aload_n X.1.1 X.1.2.1 dX1_init_0 rfl (lv_at hl 0 rfl) ?_
  refine sx_obj X lk_X1_init_methodLink_RX1_3_objectInit lk_X1_init_instanceMethod_objectInit lk_X1_init_code_objectInit_0xb1_1_none hl.1 dX1_init_1 (Nat.le_of_ble_eq_true rfl) (Nat.le_of_ble_eq_true rfl) ?_
  refine lv_aload_n X.1.1 X.1.2.1 dX1_init_4 rfl (lv_at hl 0 rfl) ?_
  refine lv_iload_n X.1.1 X.1.2.1 dX1_init_5 rfl (lv_at hl 1 rfl) ?_
  refine lv_iconst (v := nI 0) X.1.1 X.1.2.1 dX1_init_6 (by decide) ?_
  refine sx_max X hl.1 lk_X1_init_methodLink_RX1_9_Lib_Math_max_name lk_X1_init_static_Lib_Math_max_name lk_X1_init_initialized_java_lang_Math lk_X1_init_code_Lib_Math_max_name_Lib_Math_max_code_2_some_int (Nat.le_of_ble_eq_true rfl) (Nat.le_of_ble_eq_true rfl) (Nat.le_of_ble_eq_true rfl) (Nat.le_of_ble_eq_true rfl) dX1_init_7 ?_
  rw [if_neg (show ¬ nI 4 < nI 0 by decide)]
  refine sx_putF X hP in_X1_init_X1 tyX1 tyX1_ok nmX1 hca (by omega) rfl 0 (by decide) lk_X1_init_fieldLink_RX1_15_RaceWatch_Clocks_rows_I rfl rfl rfl rfl rfl (Nat.le_of_ble_eq_true rfl) dX1_init_10 (fun F1 H1 l1 e1 o1 hP => ?_)
  have hca : F1 (ca) = ob 1 ([.int (nI 4), .null]) := e1
  have hO : ∀ j, j ≠ ca ∧ j ≠ n → F1 j = F j := fun j hj => (o1 j (by omega)).trans (hO j hj)
  refine lv_aload_n X.1.1 X.1.2.1 dX1_init_13 rfl (lv_at hl 0 rfl) ?_
  refine lv_aload_n X.1.1 X.1.2.1 dX1_init_14 rfl (lv_at hl 0 rfl) ?_
  refine sx_get X hP in_X1_init_X1 hca (by omega) rfl 0 (by decide) lk_X1_init_fieldLink_RX1_15_RaceWatch_Clocks_rows_I rfl dX1_init_15 ?_
  refine lv_iconst (v := nI 4) X.1.1 X.1.2.1 dX1_init_18 (by decide) ?_
  refine sx_mulN X (16) rfl dX1_init_19 ?_
  refine sx_newi X hP 16 lk_X1_init_arrayClass_int (by decide) (Nat.le_of_ble_eq_true rfl) (Nat.le_of_ble_eq_true rfl) hs rfl dX1_init_20 (fun F2 H2 e2 o2 hP => ?_)
  have hn : F2 (n) = rI G (16) (fun _ => 0) := e2
  have hca := (o2 (ca) (by omega)).trans hca
  have hO : ∀ j, j ≠ ca ∧ j ≠ n → F2 j = F j := fun j hj => (o2 j (by omega)).trans (hO j hj)
  refine sx_putF X hP in_X1_init_X1 tyX1 tyX1_ok nmX1 hca (by omega) rfl 1 (by decide) lk_X1_init_fieldLink_RX1_21_RaceWatch_Clocks_numbers_I rfl rfl rfl rfl rfl (Nat.le_of_ble_eq_true rfl) dX1_init_22 (fun F3 H3 l3 e3 o3 hP => ?_)
  have hca : F3 (ca) = ob 1 ([.int (nI 4), rf G (n)]) := e3
  have hn := (o3 (n) (by omega)).trans hn
  have hO : ∀ j, j ≠ ca ∧ j ≠ n → F3 j = F j := fun j hj => (o3 j (by omega)).trans (hO j hj)
  refine W.widen (k := 1) (n := 640) (by decide) (by decide) ?_
  rw [hQ]
  exact sx_vret X rfl hs rfl hP dX1_init_25 (⟨hca, hn, hO⟩)
set_option maxHeartbeats 800000 in
set_option maxRecDepth 100000 in
theorem mX1_init_3 {G : sx_G} (l : Launch) {F : Nat → va_E} {n ca : Nat}  (hlt : ca < n) (hca : F (ca) = ob 1 ([.int (0), .null])) : sx_V G l yX1_init wsX1_init rmX1_init [rf G (ca), .int (nI 3)] (n) F (n + 1) (fun F1 => F1 ca = ob 1 [.int (nI 3), rf G n] ∧ F1 n = rI G 12 (fun _ => 0) ∧ ∀ j, j ≠ ca ∧ j ≠ n → F1 j = F j) := by
  refine sx_enter (cc := cX1_init) (maxL := 2) (ret := none) (own := RX1) (nm := "<init>") (by decide) rfl rfl rfl (Nat.le_of_ble_eq_true rfl) ?_
  intro pp ee ss mm args below meth kc ls Q hQ X hs hP hl
  have hl : lv_has ls 2 [(0, rf G (ca)), (1, .int (nI 3))] := hl
  have hO : ∀ j, j ≠ ca ∧ j ≠ n → F j = F j := fun _ _ => rfl
  refine lv_aload_n X.1.1 X.1.2.1 dX1_init_0 rfl (lv_at hl 0 rfl) ?_
  refine sx_obj X lk_X1_init_methodLink_RX1_3_objectInit lk_X1_init_instanceMethod_objectInit lk_X1_init_code_objectInit_0xb1_1_none hl.1 dX1_init_1 (Nat.le_of_ble_eq_true rfl) (Nat.le_of_ble_eq_true rfl) ?_
  refine lv_aload_n X.1.1 X.1.2.1 dX1_init_4 rfl (lv_at hl 0 rfl) ?_
  refine lv_iload_n X.1.1 X.1.2.1 dX1_init_5 rfl (lv_at hl 1 rfl) ?_
  refine lv_iconst (v := nI 0) X.1.1 X.1.2.1 dX1_init_6 (by decide) ?_
  refine sx_max X hl.1 lk_X1_init_methodLink_RX1_9_Lib_Math_max_name lk_X1_init_static_Lib_Math_max_name lk_X1_init_initialized_java_lang_Math lk_X1_init_code_Lib_Math_max_name_Lib_Math_max_code_2_some_int (Nat.le_of_ble_eq_true rfl) (Nat.le_of_ble_eq_true rfl) (Nat.le_of_ble_eq_true rfl) (Nat.le_of_ble_eq_true rfl) dX1_init_7 ?_
  rw [if_neg (show ¬ nI 3 < nI 0 by decide)]
  refine sx_putF X hP in_X1_init_X1 tyX1 tyX1_ok nmX1 hca (by omega) rfl 0 (by decide) lk_X1_init_fieldLink_RX1_15_RaceWatch_Clocks_rows_I rfl rfl rfl rfl rfl (Nat.le_of_ble_eq_true rfl) dX1_init_10 (fun F1 H1 l1 e1 o1 hP => ?_)
  have hca : F1 (ca) = ob 1 ([.int (nI 3), .null]) := e1
  have hO : ∀ j, j ≠ ca ∧ j ≠ n → F1 j = F j := fun j hj => (o1 j (by omega)).trans (hO j hj)
  refine lv_aload_n X.1.1 X.1.2.1 dX1_init_13 rfl (lv_at hl 0 rfl) ?_
  refine lv_aload_n X.1.1 X.1.2.1 dX1_init_14 rfl (lv_at hl 0 rfl) ?_
  refine sx_get X hP in_X1_init_X1 hca (by omega) rfl 0 (by decide) lk_X1_init_fieldLink_RX1_15_RaceWatch_Clocks_rows_I rfl dX1_init_15 ?_
  refine lv_iconst (v := nI 4) X.1.1 X.1.2.1 dX1_init_18 (by decide) ?_
  refine sx_mulN X (12) rfl dX1_init_19 ?_
  refine sx_newi X hP 12 lk_X1_init_arrayClass_int (by decide) (Nat.le_of_ble_eq_true rfl) (Nat.le_of_ble_eq_true rfl) hs rfl dX1_init_20 (fun F2 H2 e2 o2 hP => ?_)
  have hn : F2 (n) = rI G (12) (fun _ => 0) := e2
  have hca := (o2 (ca) (by omega)).trans hca
  have hO : ∀ j, j ≠ ca ∧ j ≠ n → F2 j = F j := fun j hj => (o2 j (by omega)).trans (hO j hj)
  refine sx_putF X hP in_X1_init_X1 tyX1 tyX1_ok nmX1 hca (by omega) rfl 1 (by decide) lk_X1_init_fieldLink_RX1_21_RaceWatch_Clocks_numbers_I rfl rfl rfl rfl rfl (Nat.le_of_ble_eq_true rfl) dX1_init_22 (fun F3 H3 l3 e3 o3 hP => ?_)
  have hca : F3 (ca) = ob 1 ([.int (nI 3), rf G (n)]) := e3
  have hn := (o3 (n) (by omega)).trans hn
  have hO : ∀ j, j ≠ ca ∧ j ≠ n → F3 j = F j := fun j hj => (o3 j (by omega)).trans (hO j hj)
  refine W.widen (k := 1) (n := 640) (by decide) (by decide) ?_
  rw [hQ]
  exact sx_vret X rfl hs rfl hP dX1_init_25 (⟨hca, hn, hO⟩)
set_option maxHeartbeats 800000 in
set_option maxRecDepth 100000 in
theorem mX1_init_2 {G : sx_G} (l : Launch) {F : Nat → va_E} {n ca : Nat}  (hlt : ca < n) (hca : F (ca) = ob 1 ([.int (0), .null])) : sx_V G l yX1_init wsX1_init rmX1_init [rf G (ca), .int (nI 2)] (n) F (n + 1) (fun F1 => F1 ca = ob 1 [.int (nI 2), rf G n] ∧ F1 n = rI G 8 (fun _ => 0) ∧ ∀ j, j ≠ ca ∧ j ≠ n → F1 j = F j) := by
  refine sx_enter (cc := cX1_init) (maxL := 2) (ret := none) (own := RX1) (nm := "<init>") (by decide) rfl rfl rfl (Nat.le_of_ble_eq_true rfl) ?_
  intro pp ee ss mm args below meth kc ls Q hQ X hs hP hl
  have hl : lv_has ls 2 [(0, rf G (ca)), (1, .int (nI 2))] := hl
  have hO : ∀ j, j ≠ ca ∧ j ≠ n → F j = F j := fun _ _ => rfl
  refine lv_aload_n X.1.1 X.1.2.1 dX1_init_0 rfl (lv_at hl 0 rfl) ?_
  refine sx_obj X lk_X1_init_methodLink_RX1_3_objectInit lk_X1_init_instanceMethod_objectInit lk_X1_init_code_objectInit_0xb1_1_none hl.1 dX1_init_1 (Nat.le_of_ble_eq_true rfl) (Nat.le_of_ble_eq_true rfl) ?_
  refine lv_aload_n X.1.1 X.1.2.1 dX1_init_4 rfl (lv_at hl 0 rfl) ?_
  refine lv_iload_n X.1.1 X.1.2.1 dX1_init_5 rfl (lv_at hl 1 rfl) ?_
  refine lv_iconst (v := nI 0) X.1.1 X.1.2.1 dX1_init_6 (by decide) ?_
  refine sx_max X hl.1 lk_X1_init_methodLink_RX1_9_Lib_Math_max_name lk_X1_init_static_Lib_Math_max_name lk_X1_init_initialized_java_lang_Math lk_X1_init_code_Lib_Math_max_name_Lib_Math_max_code_2_some_int (Nat.le_of_ble_eq_true rfl) (Nat.le_of_ble_eq_true rfl) (Nat.le_of_ble_eq_true rfl) (Nat.le_of_ble_eq_true rfl) dX1_init_7 ?_
  rw [if_neg (show ¬ nI 2 < nI 0 by decide)]
  refine sx_putF X hP in_X1_init_X1 tyX1 tyX1_ok nmX1 hca (by omega) rfl 0 (by decide) lk_X1_init_fieldLink_RX1_15_RaceWatch_Clocks_rows_I rfl rfl rfl rfl rfl (Nat.le_of_ble_eq_true rfl) dX1_init_10 (fun F1 H1 l1 e1 o1 hP => ?_)
  have hca : F1 (ca) = ob 1 ([.int (nI 2), .null]) := e1
  have hO : ∀ j, j ≠ ca ∧ j ≠ n → F1 j = F j := fun j hj => (o1 j (by omega)).trans (hO j hj)
  refine lv_aload_n X.1.1 X.1.2.1 dX1_init_13 rfl (lv_at hl 0 rfl) ?_
  refine lv_aload_n X.1.1 X.1.2.1 dX1_init_14 rfl (lv_at hl 0 rfl) ?_
  refine sx_get X hP in_X1_init_X1 hca (by omega) rfl 0 (by decide) lk_X1_init_fieldLink_RX1_15_RaceWatch_Clocks_rows_I rfl dX1_init_15 ?_
  refine lv_iconst (v := nI 4) X.1.1 X.1.2.1 dX1_init_18 (by decide) ?_
  refine sx_mulN X (8) rfl dX1_init_19 ?_
  refine sx_newi X hP 8 lk_X1_init_arrayClass_int (by decide) (Nat.le_of_ble_eq_true rfl) (Nat.le_of_ble_eq_true rfl) hs rfl dX1_init_20 (fun F2 H2 e2 o2 hP => ?_)
  have hn : F2 (n) = rI G (8) (fun _ => 0) := e2
  have hca := (o2 (ca) (by omega)).trans hca
  have hO : ∀ j, j ≠ ca ∧ j ≠ n → F2 j = F j := fun j hj => (o2 j (by omega)).trans (hO j hj)
  refine sx_putF X hP in_X1_init_X1 tyX1 tyX1_ok nmX1 hca (by omega) rfl 1 (by decide) lk_X1_init_fieldLink_RX1_21_RaceWatch_Clocks_numbers_I rfl rfl rfl rfl rfl (Nat.le_of_ble_eq_true rfl) dX1_init_22 (fun F3 H3 l3 e3 o3 hP => ?_)
  have hca : F3 (ca) = ob 1 ([.int (nI 2), rf G (n)]) := e3
  have hn := (o3 (n) (by omega)).trans hn
  have hO : ∀ j, j ≠ ca ∧ j ≠ n → F3 j = F j := fun j hj => (o3 j (by omega)).trans (hO j hj)
  refine W.widen (k := 1) (n := 640) (by decide) (by decide) ?_
  rw [hQ]
  exact sx_vret X rfl hs rfl hP dX1_init_25 (⟨hca, hn, hO⟩)
set_option maxHeartbeats 800000 in
set_option maxRecDepth 100000 in
theorem mX1_init_160 {G : sx_G} (l : Launch) {F : Nat → va_E} {n ca : Nat}  (hlt : ca < n) (hca : F (ca) = ob 1 ([.int (0), .null])) : sx_V G l yX1_init wsX1_init rmX1_init [rf G (ca), .int (nI 160)] (n) F (n + 1) (fun F1 => F1 ca = ob 1 [.int (nI 160), rf G n] ∧ F1 n = rI G 640 (fun _ => 0) ∧ ∀ j, j ≠ ca ∧ j ≠ n → F1 j = F j) := by
  refine sx_enter (cc := cX1_init) (maxL := 2) (ret := none) (own := RX1) (nm := "<init>") (by decide) rfl rfl rfl (Nat.le_of_ble_eq_true rfl) ?_
  intro pp ee ss mm args below meth kc ls Q hQ X hs hP hl
  have hl : lv_has ls 2 [(0, rf G (ca)), (1, .int (nI 160))] := hl
  have hO : ∀ j, j ≠ ca ∧ j ≠ n → F j = F j := fun _ _ => rfl
  refine lv_aload_n X.1.1 X.1.2.1 dX1_init_0 rfl (lv_at hl 0 rfl) ?_
  refine sx_obj X lk_X1_init_methodLink_RX1_3_objectInit lk_X1_init_instanceMethod_objectInit lk_X1_init_code_objectInit_0xb1_1_none hl.1 dX1_init_1 (Nat.le_of_ble_eq_true rfl) (Nat.le_of_ble_eq_true rfl) ?_
  refine lv_aload_n X.1.1 X.1.2.1 dX1_init_4 rfl (lv_at hl 0 rfl) ?_
  refine lv_iload_n X.1.1 X.1.2.1 dX1_init_5 rfl (lv_at hl 1 rfl) ?_
  refine lv_iconst (v := nI 0) X.1.1 X.1.2.1 dX1_init_6 (by decide) ?_
  refine sx_max X hl.1 lk_X1_init_methodLink_RX1_9_Lib_Math_max_name lk_X1_init_static_Lib_Math_max_name lk_X1_init_initialized_java_lang_Math lk_X1_init_code_Lib_Math_max_name_Lib_Math_max_code_2_some_int (Nat.le_of_ble_eq_true rfl) (Nat.le_of_ble_eq_true rfl) (Nat.le_of_ble_eq_true rfl) (Nat.le_of_ble_eq_true rfl) dX1_init_7 ?_
  rw [if_neg (show ¬ nI 160 < nI 0 by decide)]
  refine sx_putF X hP in_X1_init_X1 tyX1 tyX1_ok nmX1 hca (by omega) rfl 0 (by decide) lk_X1_init_fieldLink_RX1_15_RaceWatch_Clocks_rows_I rfl rfl rfl rfl rfl (Nat.le_of_ble_eq_true rfl) dX1_init_10 (fun F1 H1 l1 e1 o1 hP => ?_)
  have hca : F1 (ca) = ob 1 ([.int (nI 160), .null]) := e1
  have hO : ∀ j, j ≠ ca ∧ j ≠ n → F1 j = F j := fun j hj => (o1 j (by omega)).trans (hO j hj)
  refine lv_aload_n X.1.1 X.1.2.1 dX1_init_13 rfl (lv_at hl 0 rfl) ?_
  refine lv_aload_n X.1.1 X.1.2.1 dX1_init_14 rfl (lv_at hl 0 rfl) ?_
  refine sx_get X hP in_X1_init_X1 hca (by omega) rfl 0 (by decide) lk_X1_init_fieldLink_RX1_15_RaceWatch_Clocks_rows_I rfl dX1_init_15 ?_
  refine lv_iconst (v := nI 4) X.1.1 X.1.2.1 dX1_init_18 (by decide) ?_
  refine sx_mulN X (640) rfl dX1_init_19 ?_
  refine sx_newi X hP 640 lk_X1_init_arrayClass_int (by decide) (Nat.le_of_ble_eq_true rfl) (Nat.le_of_ble_eq_true rfl) hs rfl dX1_init_20 (fun F2 H2 e2 o2 hP => ?_)
  have hn : F2 (n) = rI G (640) (fun _ => 0) := e2
  have hca := (o2 (ca) (by omega)).trans hca
  have hO : ∀ j, j ≠ ca ∧ j ≠ n → F2 j = F j := fun j hj => (o2 j (by omega)).trans (hO j hj)
  refine sx_putF X hP in_X1_init_X1 tyX1 tyX1_ok nmX1 hca (by omega) rfl 1 (by decide) lk_X1_init_fieldLink_RX1_21_RaceWatch_Clocks_numbers_I rfl rfl rfl rfl rfl (Nat.le_of_ble_eq_true rfl) dX1_init_22 (fun F3 H3 l3 e3 o3 hP => ?_)
  have hca : F3 (ca) = ob 1 ([.int (nI 160), rf G (n)]) := e3
  have hn := (o3 (n) (by omega)).trans hn
  have hO : ∀ j, j ≠ ca ∧ j ≠ n → F3 j = F j := fun j hj => (o3 j (by omega)).trans (hO j hj)
  refine W.widen (k := 1) (n := 640) (by decide) (by decide) ?_
  rw [hQ]
  exact sx_vret X rfl hs rfl hP dX1_init_25 (⟨hca, hn, hO⟩)
theorem ys_X2_init : yX2_init.cls ≠ "java/lang/invoke/MethodHandle" ∧ yX2_init.cls ≠ "java/lang/invoke/VarHandle" ∧ (parseMethodDescriptor yX2_init.desc).map (fun d => d.parameters.length) = some 0 := by decide +kernel
theorem yv_X2_init : yX2_init.cls = RX2 ∧ yX2_init.cls ≠ "java/lang/invoke/MethodHandle" ∧ yX2_init.cls ≠ "java/lang/invoke/VarHandle" ∧ (parseMethodDescriptor yX2_init.desc).map (fun d => d.parameters.length) = some 0 := ⟨rfl, ys_X2_init⟩
theorem lk_X2_init_methodLink_RX2_3_objectInit : (.methodLink RX2 3 objectInit : Cond) ∈ wsX2_init := List.mem_cons_of_mem _ (List.mem_append_left _ (List.mem_of_getElem? (i := 0) rfl))
theorem lk_X2_init_instanceMethod_objectInit : (.instanceMethod objectInit : Cond) ∈ wsX2_init := List.mem_cons_of_mem _ (List.mem_append_left _ (List.mem_of_getElem? (i := 1) rfl))
theorem lk_X2_init_code_objectInit_0xb1_1_none : (.code objectInit ⟨#[0xb1]⟩ 1 none : Cond) ∈ wsX2_init := List.mem_cons_of_mem _ (List.mem_append_left _ (List.mem_of_getElem? (i := 2) rfl))
theorem lk_X2_init_arrayClass_int : (.arrayClass .int : Cond) ∈ wsX2_init := List.mem_cons_of_mem _ (List.mem_append_left _ (List.mem_of_getElem? (i := 3) rfl))
theorem in_X2_init_X2 : ∀ w ∈ wsX20, w ∈ wsX2_init := fun _ h => List.mem_cons_of_mem _ (List.mem_append_right _ (h))
theorem lk_X2_init_fieldLink_RX2_9_RaceWatch_Kept_readNumbers_I : (.fieldLink RX2 9 "RaceWatch$Kept" "readNumbers" "[I" : Cond) ∈ wsX2_init := List.mem_cons_of_mem _ (List.mem_append_left _ (List.mem_of_getElem? (i := 4) rfl))
abbrev rmX2_init : Room := { frames := 1, cells := 1, slots := 4, locals := 12 }
set_option maxHeartbeats 800000 in
set_option maxRecDepth 100000 in
theorem mX2_init {G : sx_G} (l : Launch) {F : Nat → va_E} {n ca : Nat}  (hlt : ca < n) (hca : F (ca) = ob 2 ([.int (0), .int (0), .int (0), .int (0), .int (0), .null, .int (0), .int (0), .int (0), .int (0)])) : sx_V G l yX2_init wsX2_init rmX2_init [rf G (ca)] (n) F (n + 1) (fun F1 => F1 ca = ob 2 ([.int (0), .int (0), .int (0), .int (0), .int (0), rf G (n), .int (0), .int (0), .int (0), .int (0)]) ∧ F1 n = rI G 4 (fun _ => 0) ∧ ∀ j, j ≠ ca ∧ j ≠ n → F1 j = F j) := by
  refine sx_enter (cc := cX2_init) (maxL := 1) (ret := none) (own := RX2) (nm := "<init>") (by decide) rfl rfl rfl (Nat.le_of_ble_eq_true rfl) ?_
  intro pp ee ss mm args below meth kc ls Q hQ X hs hP hl
  have hl : lv_has ls 1 [(0, rf G (ca))] := hl
  have hO : ∀ j, j ≠ ca ∧ j ≠ n → F j = F j := fun _ _ => rfl
  refine lv_aload_n X.1.1 X.1.2.1 dX2_init_0 rfl (lv_at hl 0 rfl) ?_
  refine sx_obj X lk_X2_init_methodLink_RX2_3_objectInit lk_X2_init_instanceMethod_objectInit lk_X2_init_code_objectInit_0xb1_1_none hl.1 dX2_init_1 (Nat.le_of_ble_eq_true rfl) (Nat.le_of_ble_eq_true rfl) ?_
  refine lv_aload_n X.1.1 X.1.2.1 dX2_init_4 rfl (lv_at hl 0 rfl) ?_
  refine lv_iconst (v := nI 4) X.1.1 X.1.2.1 dX2_init_5 (by decide) ?_
  refine sx_newi X hP 4 lk_X2_init_arrayClass_int (by decide) (Nat.le_of_ble_eq_true rfl) (Nat.le_of_ble_eq_true rfl) hs rfl dX2_init_6 (fun F1 H1 e1 o1 hP => ?_)
  have hn : F1 (n) = rI G (4) (fun _ => 0) := e1
  have hca := (o1 (ca) (by omega)).trans hca
  have hO : ∀ j, j ≠ ca ∧ j ≠ n → F1 j = F j := fun j hj => (o1 j (by omega)).trans (hO j hj)
  refine sx_putF X hP in_X2_init_X2 tyX2 tyX2_ok nmX2 hca (by omega) rfl 5 (by decide) lk_X2_init_fieldLink_RX2_9_RaceWatch_Kept_readNumbers_I rfl rfl rfl rfl rfl (Nat.le_of_ble_eq_true rfl) dX2_init_8 (fun F2 H2 l2 e2 o2 hP => ?_)
  have hca : F2 (ca) = ob 2 ([.int (0), .int (0), .int (0), .int (0), .int (0), rf G (n), .int (0), .int (0), .int (0), .int (0)]) := e2
  have hn := (o2 (n) (by omega)).trans hn
  have hO : ∀ j, j ≠ ca ∧ j ≠ n → F2 j = F j := fun j hj => (o2 j (by omega)).trans (hO j hj)
  rw [hQ]
  exact sx_vret X rfl hs rfl hP dX2_init_11 (⟨hca, hn, hO⟩)
theorem ys_X3_init : yX3_init.cls ≠ "java/lang/invoke/MethodHandle" ∧ yX3_init.cls ≠ "java/lang/invoke/VarHandle" ∧ (parseMethodDescriptor yX3_init.desc).map (fun d => d.parameters.length) = some 0 := by decide +kernel
theorem yv_X3_init : yX3_init.cls = RX3 ∧ yX3_init.cls ≠ "java/lang/invoke/MethodHandle" ∧ yX3_init.cls ≠ "java/lang/invoke/VarHandle" ∧ (parseMethodDescriptor yX3_init.desc).map (fun d => d.parameters.length) = some 0 := ⟨rfl, ys_X3_init⟩
theorem lk_X3_init_methodLink_RX3_3_objectInit : (.methodLink RX3 3 objectInit : Cond) ∈ wsX3_init := List.mem_cons_of_mem _ (List.mem_append_left _ (List.mem_append_left _ (List.mem_of_getElem? (i := 0) rfl)))
theorem lk_X3_init_instanceMethod_objectInit : (.instanceMethod objectInit : Cond) ∈ wsX3_init := List.mem_cons_of_mem _ (List.mem_append_left _ (List.mem_append_left _ (List.mem_of_getElem? (i := 1) rfl)))
theorem lk_X3_init_code_objectInit_0xb1_1_none : (.code objectInit ⟨#[0xb1]⟩ 1 none : Cond) ∈ wsX3_init := List.mem_cons_of_mem _ (List.mem_append_left _ (List.mem_append_left _ (List.mem_of_getElem? (i := 2) rfl)))
theorem lk_X3_init_arrayClass_int : (.arrayClass .int : Cond) ∈ wsX3_init := List.mem_cons_of_mem _ (List.mem_append_left _ (List.mem_append_left _ (List.mem_of_getElem? (i := 3) rfl)))
theorem in_X3_init_X3 : ∀ w ∈ wsX30, w ∈ wsX3_init := fun _ h => List.mem_cons_of_mem _ (List.mem_append_left _ (List.mem_append_right _ (h)))
theorem lk_X3_init_fieldLink_RX3_9_RaceWatch_Log_threads_I : (.fieldLink RX3 9 "RaceWatch$Log" "threads" "[I" : Cond) ∈ wsX3_init := List.mem_cons_of_mem _ (List.mem_append_left _ (List.mem_append_left _ (List.mem_of_getElem? (i := 4) rfl)))
theorem lk_X3_init_fieldLink_RX3_15_RaceWatch_Log_sorts_I : (.fieldLink RX3 15 "RaceWatch$Log" "sorts" "[I" : Cond) ∈ wsX3_init := List.mem_cons_of_mem _ (List.mem_append_left _ (List.mem_append_left _ (List.mem_of_getElem? (i := 5) rfl)))
theorem lk_X3_init_fieldLink_RX3_18_RaceWatch_Log_withs_I : (.fieldLink RX3 18 "RaceWatch$Log" "withs" "[I" : Cond) ∈ wsX3_init := List.mem_cons_of_mem _ (List.mem_append_left _ (List.mem_append_left _ (List.mem_of_getElem? (i := 6) rfl)))
theorem lk_X3_init_fieldLink_RX3_21_RaceWatch_Log_locks_I : (.fieldLink RX3 21 "RaceWatch$Log" "locks" "[I" : Cond) ∈ wsX3_init := List.mem_cons_of_mem _ (List.mem_append_left _ (List.mem_append_left _ (List.mem_of_getElem? (i := 7) rfl)))
theorem in_X3_init_X1 : ∀ w ∈ wsX10, w ∈ wsX3_init := fun _ h => List.mem_cons_of_mem _ (List.mem_append_right _ (h))
theorem lk_X3_init_classLink_RX3_24_RX1 : (.classLink RX3 24 RX1 : Cond) ∈ wsX3_init := List.mem_cons_of_mem _ (List.mem_append_left _ (List.mem_append_left _ (List.mem_of_getElem? (i := 8) rfl)))
theorem lk_X3_init_instantiable_RX1_2 : (.instantiable RX1 2 : Cond) ∈ wsX3_init := List.mem_cons_of_mem _ (List.mem_append_left _ (List.mem_append_left _ (List.mem_of_getElem? (i := 9) rfl)))
theorem lk_X3_init_initialized_RX1 : (.initialized RX1 : Cond) ∈ wsX3_init := List.mem_cons_of_mem _ (List.mem_append_left _ (List.mem_append_left _ (List.mem_of_getElem? (i := 10) rfl)))
theorem lk_X3_init_methodLink_RX3_26_yX1_init : (.methodLink RX3 26 yX1_init : Cond) ∈ wsX3_init := List.mem_cons_of_mem _ (List.mem_append_left _ (List.mem_append_left _ (List.mem_of_getElem? (i := 14) rfl)))
theorem lk_X3_init_instanceMethod_yX1_init : (.instanceMethod yX1_init : Cond) ∈ wsX3_init := List.mem_cons_of_mem _ (List.mem_append_left _ (List.mem_append_left _ (List.mem_of_getElem? (i := 15) rfl)))
theorem lk_X3_init_fieldLink_RX3_29_RaceWatch_Log_clocks_LRaceWatch_Clocks : (.fieldLink RX3 29 "RaceWatch$Log" "clocks" "LRaceWatch$Clocks;" : Cond) ∈ wsX3_init := List.mem_cons_of_mem _ (List.mem_append_left _ (List.mem_append_left _ (List.mem_of_getElem? (i := 11) rfl)))
theorem lk_X3_init_fieldLink_RX3_33_RaceWatch_Log_racesBehind_I : (.fieldLink RX3 33 "RaceWatch$Log" "racesBehind" "[I" : Cond) ∈ wsX3_init := List.mem_cons_of_mem _ (List.mem_append_left _ (List.mem_append_left _ (List.mem_of_getElem? (i := 12) rfl)))
theorem lk_X3_init_fieldLink_RX3_36_RaceWatch_Log_raceCounts_I : (.fieldLink RX3 36 "RaceWatch$Log" "raceCounts" "[I" : Cond) ∈ wsX3_init := List.mem_cons_of_mem _ (List.mem_append_left _ (List.mem_append_left _ (List.mem_of_getElem? (i := 13) rfl)))
abbrev rmX3_init : Room := { frames := 2, cells := 8, slots := 1454, locals := 36 }
set_option maxHeartbeats 800000 in
set_option maxRecDepth 100000 in
theorem mX3_init_19 {G : sx_G} (l : Launch) {F : Nat → va_E}  (h19 : F (19) = ob 3 ([.int (0), .null, .null, .null, .null, .null, .null, .null])) : sx_V G l yX3_init wsX3_init rmX3_init [rf G 19] (20) F (28) (fun F1 => F1 19 = ob 3 ([.int (0), rf G 20, rf G 21, rf G 22, rf G 23, rf G 24, rf G 26, rf G 27]) ∧ F1 20 = rI G (160) (fun _ => 0) ∧ F1 21 = rI G (160) (fun _ => 0) ∧ F1 22 = rI G (160) (fun _ => 0) ∧ F1 23 = rI G (160) (fun _ => 0) ∧ F1 24 = ob 1 ([.int (nI 160), rf G 25]) ∧ F1 25 = rI G (640) (fun _ => 0) ∧ F1 26 = rI G (160) (fun _ => 0) ∧ F1 27 = rI G (12) (fun _ => 0) ∧ ∀ j, j < 19 → F1 j = F j) := by
  refine sx_enter (cc := cX3_init) (maxL := 1) (ret := none) (own := RX3) (nm := "<init>") (by decide) rfl rfl rfl (Nat.le_of_ble_eq_true rfl) ?_
  intro pp ee ss mm args below meth kc ls Q hQ X hs hP hl
  have hl : lv_has ls 1 [(0, rf G 19)] := hl
  have hO : ∀ j, j < 19 → F j = F j := fun _ _ => rfl
  refine lv_aload_n X.1.1 X.1.2.1 dX3_init_0 rfl (lv_at hl 0 rfl) ?_
  refine sx_obj X lk_X3_init_methodLink_RX3_3_objectInit lk_X3_init_instanceMethod_objectInit lk_X3_init_code_objectInit_0xb1_1_none hl.1 dX3_init_1 (Nat.le_of_ble_eq_true rfl) (Nat.le_of_ble_eq_true rfl) ?_
  refine lv_aload_n X.1.1 X.1.2.1 dX3_init_4 rfl (lv_at hl 0 rfl) ?_
  refine lv_sipush (v := nI 160) X.1.1 X.1.2.1 dX3_init_5 (by decide) ?_
  refine sx_newi X hP 160 lk_X3_init_arrayClass_int (by decide) (Nat.le_of_ble_eq_true rfl) (Nat.le_of_ble_eq_true rfl) hs rfl dX3_init_8 (fun F1 H1 e1 o1 hP => ?_)
  have h20 : F1 (20) = rI G (160) (fun _ => 0) := e1
  have h19 := (o1 (19) (by decide)).trans h19
  have hO : ∀ j, j < 19 → F1 j = F j := fun j hj => (o1 j (by omega)).trans (hO j hj)
  refine sx_putF X hP in_X3_init_X3 tyX3 tyX3_ok nmX3 h19 (by decide) rfl 1 (by decide) lk_X3_init_fieldLink_RX3_9_RaceWatch_Log_threads_I rfl rfl rfl rfl rfl (Nat.le_of_ble_eq_true rfl) dX3_init_10 (fun F2 H2 l2 e2 o2 hP => ?_)
  have h19 : F2 (19) = ob 3 ([.int (0), rf G 20, .null, .null, .null, .null, .null, .null]) := e2
  have h20 := (o2 (20) (by decide)).trans h20
  have hO : ∀ j, j < 19 → F2 j = F j := fun j hj => (o2 j (by omega)).trans (hO j hj)
  refine lv_aload_n X.1.1 X.1.2.1 dX3_init_13 rfl (lv_at hl 0 rfl) ?_
  refine lv_sipush (v := nI 160) X.1.1 X.1.2.1 dX3_init_14 (by decide) ?_
  refine sx_newi X hP 160 lk_X3_init_arrayClass_int (by decide) (Nat.le_of_ble_eq_true rfl) (Nat.le_of_ble_eq_true rfl) hs rfl dX3_init_17 (fun F3 H3 e3 o3 hP => ?_)
  have h21 : F3 (21) = rI G (160) (fun _ => 0) := e3
  have h19 := (o3 (19) (by decide)).trans h19
  have h20 := (o3 (20) (by decide)).trans h20
  have hO : ∀ j, j < 19 → F3 j = F j := fun j hj => (o3 j (by omega)).trans (hO j hj)
  refine sx_putF X hP in_X3_init_X3 tyX3 tyX3_ok nmX3 h19 (by decide) rfl 2 (by decide) lk_X3_init_fieldLink_RX3_15_RaceWatch_Log_sorts_I rfl rfl rfl rfl rfl (Nat.le_of_ble_eq_true rfl) dX3_init_19 (fun F4 H4 l4 e4 o4 hP => ?_)
  have h19 : F4 (19) = ob 3 ([.int (0), rf G 20, rf G 21, .null, .null, .null, .null, .null]) := e4
  have h20 := (o4 (20) (by decide)).trans h20
  have h21 := (o4 (21) (by decide)).trans h21
  have hO : ∀ j, j < 19 → F4 j = F j := fun j hj => (o4 j (by omega)).trans (hO j hj)
  refine lv_aload_n X.1.1 X.1.2.1 dX3_init_22 rfl (lv_at hl 0 rfl) ?_
  refine lv_sipush (v := nI 160) X.1.1 X.1.2.1 dX3_init_23 (by decide) ?_
  refine sx_newi X hP 160 lk_X3_init_arrayClass_int (by decide) (Nat.le_of_ble_eq_true rfl) (Nat.le_of_ble_eq_true rfl) hs rfl dX3_init_26 (fun F5 H5 e5 o5 hP => ?_)
  have h22 : F5 (22) = rI G (160) (fun _ => 0) := e5
  have h19 := (o5 (19) (by decide)).trans h19
  have h20 := (o5 (20) (by decide)).trans h20
  have h21 := (o5 (21) (by decide)).trans h21
  have hO : ∀ j, j < 19 → F5 j = F j := fun j hj => (o5 j (by omega)).trans (hO j hj)
  refine sx_putF X hP in_X3_init_X3 tyX3 tyX3_ok nmX3 h19 (by decide) rfl 3 (by decide) lk_X3_init_fieldLink_RX3_18_RaceWatch_Log_withs_I rfl rfl rfl rfl rfl (Nat.le_of_ble_eq_true rfl) dX3_init_28 (fun F6 H6 l6 e6 o6 hP => ?_)
  have h19 : F6 (19) = ob 3 ([.int (0), rf G 20, rf G 21, rf G 22, .null, .null, .null, .null]) := e6
  have h20 := (o6 (20) (by decide)).trans h20
  have h21 := (o6 (21) (by decide)).trans h21
  have h22 := (o6 (22) (by decide)).trans h22
  have hO : ∀ j, j < 19 → F6 j = F j := fun j hj => (o6 j (by omega)).trans (hO j hj)
  refine lv_aload_n X.1.1 X.1.2.1 dX3_init_31 rfl (lv_at hl 0 rfl) ?_
  refine lv_sipush (v := nI 160) X.1.1 X.1.2.1 dX3_init_32 (by decide) ?_
  refine sx_newi X hP 160 lk_X3_init_arrayClass_int (by decide) (Nat.le_of_ble_eq_true rfl) (Nat.le_of_ble_eq_true rfl) hs rfl dX3_init_35 (fun F7 H7 e7 o7 hP => ?_)
  have h23 : F7 (23) = rI G (160) (fun _ => 0) := e7
  have h19 := (o7 (19) (by decide)).trans h19
  have h20 := (o7 (20) (by decide)).trans h20
  have h21 := (o7 (21) (by decide)).trans h21
  have h22 := (o7 (22) (by decide)).trans h22
  have hO : ∀ j, j < 19 → F7 j = F j := fun j hj => (o7 j (by omega)).trans (hO j hj)
  refine sx_putF X hP in_X3_init_X3 tyX3 tyX3_ok nmX3 h19 (by decide) rfl 4 (by decide) lk_X3_init_fieldLink_RX3_21_RaceWatch_Log_locks_I rfl rfl rfl rfl rfl (Nat.le_of_ble_eq_true rfl) dX3_init_37 (fun F8 H8 l8 e8 o8 hP => ?_)
  have h19 : F8 (19) = ob 3 ([.int (0), rf G 20, rf G 21, rf G 22, rf G 23, .null, .null, .null]) := e8
  have h20 := (o8 (20) (by decide)).trans h20
  have h21 := (o8 (21) (by decide)).trans h21
  have h22 := (o8 (22) (by decide)).trans h22
  have h23 := (o8 (23) (by decide)).trans h23
  have hO : ∀ j, j < 19 → F8 j = F j := fun j hj => (o8 j (by omega)).trans (hO j hj)
  refine lv_aload_n X.1.1 X.1.2.1 dX3_init_40 rfl (lv_at hl 0 rfl) ?_
  refine sx_new (ci := 1) X hP in_X3_init_X1 tyX1 tyX1_ok lk_X3_init_classLink_RX3_24_RX1 lk_X3_init_instantiable_RX1_2 lk_X3_init_initialized_RX1 rfl (fs := [.int (0), .null]) (fun j hj => by rcases (show j = 0 ∨ j = 1 by omega) with rfl | rfl <;> rfl) (Nat.le_of_ble_eq_true rfl) (Nat.le_of_ble_eq_true rfl) hs rfl dX3_init_41 (fun F9 H9 e9 o9 hP => ?_)
  have h24 : F9 (24) = ob 1 ([.int (0), .null]) := e9
  have h19 := (o9 (19) (by decide)).trans h19
  have h20 := (o9 (20) (by decide)).trans h20
  have h21 := (o9 (21) (by decide)).trans h21
  have h22 := (o9 (22) (by decide)).trans h22
  have h23 := (o9 (23) (by decide)).trans h23
  have hO : ∀ j, j < 19 → F9 j = F j := fun j hj => (o9 j (by omega)).trans (hO j hj)
  refine lv_dup X.1.1 X.1.2.1 dX3_init_44 rfl ?_
  refine lv_sipush (v := nI 160) X.1.1 X.1.2.1 dX3_init_45 (by decide) ?_
  refine sx_ci (As := [.int (nI 160)]) (rest := rf G 24 :: rf G 19 :: []) X (mX1_init_160 l (n := 25) (ca := 24) (by decide) h24) gX3_init_X1_init rfl lk_X3_init_initialized_RX1 lk_X3_init_methodLink_RX3_26_yX1_init lk_X3_init_instanceMethod_yX1_init rfl ys_X1_init ⟨Nat.le_of_ble_eq_true rfl, Nat.le_of_ble_eq_true rfl⟩ hl.1 rfl (Nat.le_of_ble_eq_true rfl) dX3_init_48 ⟨Nat.le_of_ble_eq_true rfl, Nat.le_of_ble_eq_true rfl⟩ hs rfl hP (fun F10 H10 l10 hp hP => ?_)
  obtain ⟨e10, f10, o10⟩ := hp
  have h19 := (o10 (19) (by decide)).trans h19
  have h20 := (o10 (20) (by decide)).trans h20
  have h21 := (o10 (21) (by decide)).trans h21
  have h22 := (o10 (22) (by decide)).trans h22
  have h23 := (o10 (23) (by decide)).trans h23
  have h24 : F10 (24) = ob 1 ([.int (nI 160), rf G 25]) := e10
  have h25 : F10 (25) = rI G (640) (fun _ => 0) := f10
  have hO : ∀ j, j < 19 → F10 j = F j := fun j hj => (o10 j (by omega)).trans (hO j hj)
  refine sx_putF X hP in_X3_init_X3 tyX3 tyX3_ok nmX3 h19 (by decide) rfl 5 (by decide) lk_X3_init_fieldLink_RX3_29_RaceWatch_Log_clocks_LRaceWatch_Clocks rfl rfl rfl rfl rfl (Nat.le_of_ble_eq_true rfl) dX3_init_51 (fun F11 H11 l11 e11 o11 hP => ?_)
  have h19 : F11 (19) = ob 3 ([.int (0), rf G 20, rf G 21, rf G 22, rf G 23, rf G 24, .null, .null]) := e11
  have h20 := (o11 (20) (by decide)).trans h20
  have h21 := (o11 (21) (by decide)).trans h21
  have h22 := (o11 (22) (by decide)).trans h22
  have h23 := (o11 (23) (by decide)).trans h23
  have h24 := (o11 (24) (by decide)).trans h24
  have h25 := (o11 (25) (by decide)).trans h25
  have hO : ∀ j, j < 19 → F11 j = F j := fun j hj => (o11 j (by omega)).trans (hO j hj)
  refine lv_aload_n X.1.1 X.1.2.1 dX3_init_54 rfl (lv_at hl 0 rfl) ?_
  refine lv_sipush (v := nI 160) X.1.1 X.1.2.1 dX3_init_55 (by decide) ?_
  refine sx_newi X hP 160 lk_X3_init_arrayClass_int (by decide) (Nat.le_of_ble_eq_true rfl) (Nat.le_of_ble_eq_true rfl) hs rfl dX3_init_58 (fun F12 H12 e12 o12 hP => ?_)
  have h26 : F12 (26) = rI G (160) (fun _ => 0) := e12
  have h19 := (o12 (19) (by decide)).trans h19
  have h20 := (o12 (20) (by decide)).trans h20
  have h21 := (o12 (21) (by decide)).trans h21
  have h22 := (o12 (22) (by decide)).trans h22
  have h23 := (o12 (23) (by decide)).trans h23
  have h24 := (o12 (24) (by decide)).trans h24
  have h25 := (o12 (25) (by decide)).trans h25
  have hO : ∀ j, j < 19 → F12 j = F j := fun j hj => (o12 j (by omega)).trans (hO j hj)
  refine sx_putF X hP in_X3_init_X3 tyX3 tyX3_ok nmX3 h19 (by decide) rfl 6 (by decide) lk_X3_init_fieldLink_RX3_33_RaceWatch_Log_racesBehind_I rfl rfl rfl rfl rfl (Nat.le_of_ble_eq_true rfl) dX3_init_60 (fun F13 H13 l13 e13 o13 hP => ?_)
  have h19 : F13 (19) = ob 3 ([.int (0), rf G 20, rf G 21, rf G 22, rf G 23, rf G 24, rf G 26, .null]) := e13
  have h20 := (o13 (20) (by decide)).trans h20
  have h21 := (o13 (21) (by decide)).trans h21
  have h22 := (o13 (22) (by decide)).trans h22
  have h23 := (o13 (23) (by decide)).trans h23
  have h24 := (o13 (24) (by decide)).trans h24
  have h25 := (o13 (25) (by decide)).trans h25
  have h26 := (o13 (26) (by decide)).trans h26
  have hO : ∀ j, j < 19 → F13 j = F j := fun j hj => (o13 j (by omega)).trans (hO j hj)
  refine lv_aload_n X.1.1 X.1.2.1 dX3_init_63 rfl (lv_at hl 0 rfl) ?_
  refine lv_bipush (v := nI 12) X.1.1 X.1.2.1 dX3_init_64 (by decide) ?_
  refine sx_newi X hP 12 lk_X3_init_arrayClass_int (by decide) (Nat.le_of_ble_eq_true rfl) (Nat.le_of_ble_eq_true rfl) hs rfl dX3_init_66 (fun F14 H14 e14 o14 hP => ?_)
  have h27 : F14 (27) = rI G (12) (fun _ => 0) := e14
  have h19 := (o14 (19) (by decide)).trans h19
  have h20 := (o14 (20) (by decide)).trans h20
  have h21 := (o14 (21) (by decide)).trans h21
  have h22 := (o14 (22) (by decide)).trans h22
  have h23 := (o14 (23) (by decide)).trans h23
  have h24 := (o14 (24) (by decide)).trans h24
  have h25 := (o14 (25) (by decide)).trans h25
  have h26 := (o14 (26) (by decide)).trans h26
  have hO : ∀ j, j < 19 → F14 j = F j := fun j hj => (o14 j (by omega)).trans (hO j hj)
  refine sx_putF X hP in_X3_init_X3 tyX3 tyX3_ok nmX3 h19 (by decide) rfl 7 (by decide) lk_X3_init_fieldLink_RX3_36_RaceWatch_Log_raceCounts_I rfl rfl rfl rfl rfl (Nat.le_of_ble_eq_true rfl) dX3_init_68 (fun F15 H15 l15 e15 o15 hP => ?_)
  have h19 : F15 (19) = ob 3 ([.int (0), rf G 20, rf G 21, rf G 22, rf G 23, rf G 24, rf G 26, rf G 27]) := e15
  have h20 := (o15 (20) (by decide)).trans h20
  have h21 := (o15 (21) (by decide)).trans h21
  have h22 := (o15 (22) (by decide)).trans h22
  have h23 := (o15 (23) (by decide)).trans h23
  have h24 := (o15 (24) (by decide)).trans h24
  have h25 := (o15 (25) (by decide)).trans h25
  have h26 := (o15 (26) (by decide)).trans h26
  have h27 := (o15 (27) (by decide)).trans h27
  have hO : ∀ j, j < 19 → F15 j = F j := fun j hj => (o15 j (by omega)).trans (hO j hj)
  rw [hQ]
  exact sx_vret X rfl hs rfl hP dX3_init_71 (⟨h19, h20, h21, h22, h23, h24, h25, h26, h27, hO⟩)
set_option maxHeartbeats 800000 in
set_option maxRecDepth 100000 in
theorem mX3_init_47 {G : sx_G} (l : Launch) {F : Nat → va_E}  (h47 : F (47) = ob 3 ([.int (0), .null, .null, .null, .null, .null, .null, .null])) : sx_V G l yX3_init wsX3_init rmX3_init [rf G 47] (48) F (56) (fun F1 => F1 47 = ob 3 ([.int (0), rf G 48, rf G 49, rf G 50, rf G 51, rf G 52, rf G 54, rf G 55]) ∧ F1 48 = rI G (160) (fun _ => 0) ∧ F1 49 = rI G (160) (fun _ => 0) ∧ F1 50 = rI G (160) (fun _ => 0) ∧ F1 51 = rI G (160) (fun _ => 0) ∧ F1 52 = ob 1 ([.int (nI 160), rf G 53]) ∧ F1 53 = rI G (640) (fun _ => 0) ∧ F1 54 = rI G (160) (fun _ => 0) ∧ F1 55 = rI G (12) (fun _ => 0) ∧ ∀ j, j < 47 → F1 j = F j) := by
  refine sx_enter (cc := cX3_init) (maxL := 1) (ret := none) (own := RX3) (nm := "<init>") (by decide) rfl rfl rfl (Nat.le_of_ble_eq_true rfl) ?_
  intro pp ee ss mm args below meth kc ls Q hQ X hs hP hl
  have hl : lv_has ls 1 [(0, rf G 47)] := hl
  have hO : ∀ j, j < 47 → F j = F j := fun _ _ => rfl
  refine lv_aload_n X.1.1 X.1.2.1 dX3_init_0 rfl (lv_at hl 0 rfl) ?_
  refine sx_obj X lk_X3_init_methodLink_RX3_3_objectInit lk_X3_init_instanceMethod_objectInit lk_X3_init_code_objectInit_0xb1_1_none hl.1 dX3_init_1 (Nat.le_of_ble_eq_true rfl) (Nat.le_of_ble_eq_true rfl) ?_
  refine lv_aload_n X.1.1 X.1.2.1 dX3_init_4 rfl (lv_at hl 0 rfl) ?_
  refine lv_sipush (v := nI 160) X.1.1 X.1.2.1 dX3_init_5 (by decide) ?_
  refine sx_newi X hP 160 lk_X3_init_arrayClass_int (by decide) (Nat.le_of_ble_eq_true rfl) (Nat.le_of_ble_eq_true rfl) hs rfl dX3_init_8 (fun F1 H1 e1 o1 hP => ?_)
  have h48 : F1 (48) = rI G (160) (fun _ => 0) := e1
  have h47 := (o1 (47) (by decide)).trans h47
  have hO : ∀ j, j < 47 → F1 j = F j := fun j hj => (o1 j (by omega)).trans (hO j hj)
  refine sx_putF X hP in_X3_init_X3 tyX3 tyX3_ok nmX3 h47 (by decide) rfl 1 (by decide) lk_X3_init_fieldLink_RX3_9_RaceWatch_Log_threads_I rfl rfl rfl rfl rfl (Nat.le_of_ble_eq_true rfl) dX3_init_10 (fun F2 H2 l2 e2 o2 hP => ?_)
  have h47 : F2 (47) = ob 3 ([.int (0), rf G 48, .null, .null, .null, .null, .null, .null]) := e2
  have h48 := (o2 (48) (by decide)).trans h48
  have hO : ∀ j, j < 47 → F2 j = F j := fun j hj => (o2 j (by omega)).trans (hO j hj)
  refine lv_aload_n X.1.1 X.1.2.1 dX3_init_13 rfl (lv_at hl 0 rfl) ?_
  refine lv_sipush (v := nI 160) X.1.1 X.1.2.1 dX3_init_14 (by decide) ?_
  refine sx_newi X hP 160 lk_X3_init_arrayClass_int (by decide) (Nat.le_of_ble_eq_true rfl) (Nat.le_of_ble_eq_true rfl) hs rfl dX3_init_17 (fun F3 H3 e3 o3 hP => ?_)
  have h49 : F3 (49) = rI G (160) (fun _ => 0) := e3
  have h47 := (o3 (47) (by decide)).trans h47
  have h48 := (o3 (48) (by decide)).trans h48
  have hO : ∀ j, j < 47 → F3 j = F j := fun j hj => (o3 j (by omega)).trans (hO j hj)
  refine sx_putF X hP in_X3_init_X3 tyX3 tyX3_ok nmX3 h47 (by decide) rfl 2 (by decide) lk_X3_init_fieldLink_RX3_15_RaceWatch_Log_sorts_I rfl rfl rfl rfl rfl (Nat.le_of_ble_eq_true rfl) dX3_init_19 (fun F4 H4 l4 e4 o4 hP => ?_)
  have h47 : F4 (47) = ob 3 ([.int (0), rf G 48, rf G 49, .null, .null, .null, .null, .null]) := e4
  have h48 := (o4 (48) (by decide)).trans h48
  have h49 := (o4 (49) (by decide)).trans h49
  have hO : ∀ j, j < 47 → F4 j = F j := fun j hj => (o4 j (by omega)).trans (hO j hj)
  refine lv_aload_n X.1.1 X.1.2.1 dX3_init_22 rfl (lv_at hl 0 rfl) ?_
  refine lv_sipush (v := nI 160) X.1.1 X.1.2.1 dX3_init_23 (by decide) ?_
  refine sx_newi X hP 160 lk_X3_init_arrayClass_int (by decide) (Nat.le_of_ble_eq_true rfl) (Nat.le_of_ble_eq_true rfl) hs rfl dX3_init_26 (fun F5 H5 e5 o5 hP => ?_)
  have h50 : F5 (50) = rI G (160) (fun _ => 0) := e5
  have h47 := (o5 (47) (by decide)).trans h47
  have h48 := (o5 (48) (by decide)).trans h48
  have h49 := (o5 (49) (by decide)).trans h49
  have hO : ∀ j, j < 47 → F5 j = F j := fun j hj => (o5 j (by omega)).trans (hO j hj)
  refine sx_putF X hP in_X3_init_X3 tyX3 tyX3_ok nmX3 h47 (by decide) rfl 3 (by decide) lk_X3_init_fieldLink_RX3_18_RaceWatch_Log_withs_I rfl rfl rfl rfl rfl (Nat.le_of_ble_eq_true rfl) dX3_init_28 (fun F6 H6 l6 e6 o6 hP => ?_)
  have h47 : F6 (47) = ob 3 ([.int (0), rf G 48, rf G 49, rf G 50, .null, .null, .null, .null]) := e6
  have h48 := (o6 (48) (by decide)).trans h48
  have h49 := (o6 (49) (by decide)).trans h49
  have h50 := (o6 (50) (by decide)).trans h50
  have hO : ∀ j, j < 47 → F6 j = F j := fun j hj => (o6 j (by omega)).trans (hO j hj)
  refine lv_aload_n X.1.1 X.1.2.1 dX3_init_31 rfl (lv_at hl 0 rfl) ?_
  refine lv_sipush (v := nI 160) X.1.1 X.1.2.1 dX3_init_32 (by decide) ?_
  refine sx_newi X hP 160 lk_X3_init_arrayClass_int (by decide) (Nat.le_of_ble_eq_true rfl) (Nat.le_of_ble_eq_true rfl) hs rfl dX3_init_35 (fun F7 H7 e7 o7 hP => ?_)
  have h51 : F7 (51) = rI G (160) (fun _ => 0) := e7
  have h47 := (o7 (47) (by decide)).trans h47
  have h48 := (o7 (48) (by decide)).trans h48
  have h49 := (o7 (49) (by decide)).trans h49
  have h50 := (o7 (50) (by decide)).trans h50
  have hO : ∀ j, j < 47 → F7 j = F j := fun j hj => (o7 j (by omega)).trans (hO j hj)
  refine sx_putF X hP in_X3_init_X3 tyX3 tyX3_ok nmX3 h47 (by decide) rfl 4 (by decide) lk_X3_init_fieldLink_RX3_21_RaceWatch_Log_locks_I rfl rfl rfl rfl rfl (Nat.le_of_ble_eq_true rfl) dX3_init_37 (fun F8 H8 l8 e8 o8 hP => ?_)
  have h47 : F8 (47) = ob 3 ([.int (0), rf G 48, rf G 49, rf G 50, rf G 51, .null, .null, .null]) := e8
  have h48 := (o8 (48) (by decide)).trans h48
  have h49 := (o8 (49) (by decide)).trans h49
  have h50 := (o8 (50) (by decide)).trans h50
  have h51 := (o8 (51) (by decide)).trans h51
  have hO : ∀ j, j < 47 → F8 j = F j := fun j hj => (o8 j (by omega)).trans (hO j hj)
  refine lv_aload_n X.1.1 X.1.2.1 dX3_init_40 rfl (lv_at hl 0 rfl) ?_
  refine sx_new (ci := 1) X hP in_X3_init_X1 tyX1 tyX1_ok lk_X3_init_classLink_RX3_24_RX1 lk_X3_init_instantiable_RX1_2 lk_X3_init_initialized_RX1 rfl (fs := [.int (0), .null]) (fun j hj => by rcases (show j = 0 ∨ j = 1 by omega) with rfl | rfl <;> rfl) (Nat.le_of_ble_eq_true rfl) (Nat.le_of_ble_eq_true rfl) hs rfl dX3_init_41 (fun F9 H9 e9 o9 hP => ?_)
  have h52 : F9 (52) = ob 1 ([.int (0), .null]) := e9
  have h47 := (o9 (47) (by decide)).trans h47
  have h48 := (o9 (48) (by decide)).trans h48
  have h49 := (o9 (49) (by decide)).trans h49
  have h50 := (o9 (50) (by decide)).trans h50
  have h51 := (o9 (51) (by decide)).trans h51
  have hO : ∀ j, j < 47 → F9 j = F j := fun j hj => (o9 j (by omega)).trans (hO j hj)
  refine lv_dup X.1.1 X.1.2.1 dX3_init_44 rfl ?_
  refine lv_sipush (v := nI 160) X.1.1 X.1.2.1 dX3_init_45 (by decide) ?_
  refine sx_ci (As := [.int (nI 160)]) (rest := rf G 52 :: rf G 47 :: []) X (mX1_init_160 l (n := 53) (ca := 52) (by decide) h52) gX3_init_X1_init rfl lk_X3_init_initialized_RX1 lk_X3_init_methodLink_RX3_26_yX1_init lk_X3_init_instanceMethod_yX1_init rfl ys_X1_init ⟨Nat.le_of_ble_eq_true rfl, Nat.le_of_ble_eq_true rfl⟩ hl.1 rfl (Nat.le_of_ble_eq_true rfl) dX3_init_48 ⟨Nat.le_of_ble_eq_true rfl, Nat.le_of_ble_eq_true rfl⟩ hs rfl hP (fun F10 H10 l10 hp hP => ?_)
  obtain ⟨e10, f10, o10⟩ := hp
  have h47 := (o10 (47) (by decide)).trans h47
  have h48 := (o10 (48) (by decide)).trans h48
  have h49 := (o10 (49) (by decide)).trans h49
  have h50 := (o10 (50) (by decide)).trans h50
  have h51 := (o10 (51) (by decide)).trans h51
  have h52 : F10 (52) = ob 1 ([.int (nI 160), rf G 53]) := e10
  have h53 : F10 (53) = rI G (640) (fun _ => 0) := f10
  have hO : ∀ j, j < 47 → F10 j = F j := fun j hj => (o10 j (by omega)).trans (hO j hj)
  refine sx_putF X hP in_X3_init_X3 tyX3 tyX3_ok nmX3 h47 (by decide) rfl 5 (by decide) lk_X3_init_fieldLink_RX3_29_RaceWatch_Log_clocks_LRaceWatch_Clocks rfl rfl rfl rfl rfl (Nat.le_of_ble_eq_true rfl) dX3_init_51 (fun F11 H11 l11 e11 o11 hP => ?_)
  have h47 : F11 (47) = ob 3 ([.int (0), rf G 48, rf G 49, rf G 50, rf G 51, rf G 52, .null, .null]) := e11
  have h48 := (o11 (48) (by decide)).trans h48
  have h49 := (o11 (49) (by decide)).trans h49
  have h50 := (o11 (50) (by decide)).trans h50
  have h51 := (o11 (51) (by decide)).trans h51
  have h52 := (o11 (52) (by decide)).trans h52
  have h53 := (o11 (53) (by decide)).trans h53
  have hO : ∀ j, j < 47 → F11 j = F j := fun j hj => (o11 j (by omega)).trans (hO j hj)
  refine lv_aload_n X.1.1 X.1.2.1 dX3_init_54 rfl (lv_at hl 0 rfl) ?_
  refine lv_sipush (v := nI 160) X.1.1 X.1.2.1 dX3_init_55 (by decide) ?_
  refine sx_newi X hP 160 lk_X3_init_arrayClass_int (by decide) (Nat.le_of_ble_eq_true rfl) (Nat.le_of_ble_eq_true rfl) hs rfl dX3_init_58 (fun F12 H12 e12 o12 hP => ?_)
  have h54 : F12 (54) = rI G (160) (fun _ => 0) := e12
  have h47 := (o12 (47) (by decide)).trans h47
  have h48 := (o12 (48) (by decide)).trans h48
  have h49 := (o12 (49) (by decide)).trans h49
  have h50 := (o12 (50) (by decide)).trans h50
  have h51 := (o12 (51) (by decide)).trans h51
  have h52 := (o12 (52) (by decide)).trans h52
  have h53 := (o12 (53) (by decide)).trans h53
  have hO : ∀ j, j < 47 → F12 j = F j := fun j hj => (o12 j (by omega)).trans (hO j hj)
  refine sx_putF X hP in_X3_init_X3 tyX3 tyX3_ok nmX3 h47 (by decide) rfl 6 (by decide) lk_X3_init_fieldLink_RX3_33_RaceWatch_Log_racesBehind_I rfl rfl rfl rfl rfl (Nat.le_of_ble_eq_true rfl) dX3_init_60 (fun F13 H13 l13 e13 o13 hP => ?_)
  have h47 : F13 (47) = ob 3 ([.int (0), rf G 48, rf G 49, rf G 50, rf G 51, rf G 52, rf G 54, .null]) := e13
  have h48 := (o13 (48) (by decide)).trans h48
  have h49 := (o13 (49) (by decide)).trans h49
  have h50 := (o13 (50) (by decide)).trans h50
  have h51 := (o13 (51) (by decide)).trans h51
  have h52 := (o13 (52) (by decide)).trans h52
  have h53 := (o13 (53) (by decide)).trans h53
  have h54 := (o13 (54) (by decide)).trans h54
  have hO : ∀ j, j < 47 → F13 j = F j := fun j hj => (o13 j (by omega)).trans (hO j hj)
  refine lv_aload_n X.1.1 X.1.2.1 dX3_init_63 rfl (lv_at hl 0 rfl) ?_
  refine lv_bipush (v := nI 12) X.1.1 X.1.2.1 dX3_init_64 (by decide) ?_
  refine sx_newi X hP 12 lk_X3_init_arrayClass_int (by decide) (Nat.le_of_ble_eq_true rfl) (Nat.le_of_ble_eq_true rfl) hs rfl dX3_init_66 (fun F14 H14 e14 o14 hP => ?_)
  have h55 : F14 (55) = rI G (12) (fun _ => 0) := e14
  have h47 := (o14 (47) (by decide)).trans h47
  have h48 := (o14 (48) (by decide)).trans h48
  have h49 := (o14 (49) (by decide)).trans h49
  have h50 := (o14 (50) (by decide)).trans h50
  have h51 := (o14 (51) (by decide)).trans h51
  have h52 := (o14 (52) (by decide)).trans h52
  have h53 := (o14 (53) (by decide)).trans h53
  have h54 := (o14 (54) (by decide)).trans h54
  have hO : ∀ j, j < 47 → F14 j = F j := fun j hj => (o14 j (by omega)).trans (hO j hj)
  refine sx_putF X hP in_X3_init_X3 tyX3 tyX3_ok nmX3 h47 (by decide) rfl 7 (by decide) lk_X3_init_fieldLink_RX3_36_RaceWatch_Log_raceCounts_I rfl rfl rfl rfl rfl (Nat.le_of_ble_eq_true rfl) dX3_init_68 (fun F15 H15 l15 e15 o15 hP => ?_)
  have h47 : F15 (47) = ob 3 ([.int (0), rf G 48, rf G 49, rf G 50, rf G 51, rf G 52, rf G 54, rf G 55]) := e15
  have h48 := (o15 (48) (by decide)).trans h48
  have h49 := (o15 (49) (by decide)).trans h49
  have h50 := (o15 (50) (by decide)).trans h50
  have h51 := (o15 (51) (by decide)).trans h51
  have h52 := (o15 (52) (by decide)).trans h52
  have h53 := (o15 (53) (by decide)).trans h53
  have h54 := (o15 (54) (by decide)).trans h54
  have h55 := (o15 (55) (by decide)).trans h55
  have hO : ∀ j, j < 47 → F15 j = F j := fun j hj => (o15 j (by omega)).trans (hO j hj)
  rw [hQ]
  exact sx_vret X rfl hs rfl hP dX3_init_71 (⟨h47, h48, h49, h50, h51, h52, h53, h54, h55, hO⟩)
set_option maxHeartbeats 800000 in
set_option maxRecDepth 100000 in
theorem mX3_init_74 {G : sx_G} (l : Launch) {F : Nat → va_E}  (h74 : F (74) = ob 3 ([.int (0), .null, .null, .null, .null, .null, .null, .null])) : sx_V G l yX3_init wsX3_init rmX3_init [rf G 74] (75) F (83) (fun F1 => F1 74 = ob 3 ([.int (0), rf G 75, rf G 76, rf G 77, rf G 78, rf G 79, rf G 81, rf G 82]) ∧ F1 75 = rI G (160) (fun _ => 0) ∧ F1 76 = rI G (160) (fun _ => 0) ∧ F1 77 = rI G (160) (fun _ => 0) ∧ F1 78 = rI G (160) (fun _ => 0) ∧ F1 79 = ob 1 ([.int (nI 160), rf G 80]) ∧ F1 80 = rI G (640) (fun _ => 0) ∧ F1 81 = rI G (160) (fun _ => 0) ∧ F1 82 = rI G (12) (fun _ => 0) ∧ ∀ j, j < 74 → F1 j = F j) := by
  refine sx_enter (cc := cX3_init) (maxL := 1) (ret := none) (own := RX3) (nm := "<init>") (by decide) rfl rfl rfl (Nat.le_of_ble_eq_true rfl) ?_
  intro pp ee ss mm args below meth kc ls Q hQ X hs hP hl
  have hl : lv_has ls 1 [(0, rf G 74)] := hl
  have hO : ∀ j, j < 74 → F j = F j := fun _ _ => rfl
  refine lv_aload_n X.1.1 X.1.2.1 dX3_init_0 rfl (lv_at hl 0 rfl) ?_
  refine sx_obj X lk_X3_init_methodLink_RX3_3_objectInit lk_X3_init_instanceMethod_objectInit lk_X3_init_code_objectInit_0xb1_1_none hl.1 dX3_init_1 (Nat.le_of_ble_eq_true rfl) (Nat.le_of_ble_eq_true rfl) ?_
  refine lv_aload_n X.1.1 X.1.2.1 dX3_init_4 rfl (lv_at hl 0 rfl) ?_
  refine lv_sipush (v := nI 160) X.1.1 X.1.2.1 dX3_init_5 (by decide) ?_
  refine sx_newi X hP 160 lk_X3_init_arrayClass_int (by decide) (Nat.le_of_ble_eq_true rfl) (Nat.le_of_ble_eq_true rfl) hs rfl dX3_init_8 (fun F1 H1 e1 o1 hP => ?_)
  have h75 : F1 (75) = rI G (160) (fun _ => 0) := e1
  have h74 := (o1 (74) (by decide)).trans h74
  have hO : ∀ j, j < 74 → F1 j = F j := fun j hj => (o1 j (by omega)).trans (hO j hj)
  refine sx_putF X hP in_X3_init_X3 tyX3 tyX3_ok nmX3 h74 (by decide) rfl 1 (by decide) lk_X3_init_fieldLink_RX3_9_RaceWatch_Log_threads_I rfl rfl rfl rfl rfl (Nat.le_of_ble_eq_true rfl) dX3_init_10 (fun F2 H2 l2 e2 o2 hP => ?_)
  have h74 : F2 (74) = ob 3 ([.int (0), rf G 75, .null, .null, .null, .null, .null, .null]) := e2
  have h75 := (o2 (75) (by decide)).trans h75
  have hO : ∀ j, j < 74 → F2 j = F j := fun j hj => (o2 j (by omega)).trans (hO j hj)
  refine lv_aload_n X.1.1 X.1.2.1 dX3_init_13 rfl (lv_at hl 0 rfl) ?_
  refine lv_sipush (v := nI 160) X.1.1 X.1.2.1 dX3_init_14 (by decide) ?_
  refine sx_newi X hP 160 lk_X3_init_arrayClass_int (by decide) (Nat.le_of_ble_eq_true rfl) (Nat.le_of_ble_eq_true rfl) hs rfl dX3_init_17 (fun F3 H3 e3 o3 hP => ?_)
  have h76 : F3 (76) = rI G (160) (fun _ => 0) := e3
  have h74 := (o3 (74) (by decide)).trans h74
  have h75 := (o3 (75) (by decide)).trans h75
  have hO : ∀ j, j < 74 → F3 j = F j := fun j hj => (o3 j (by omega)).trans (hO j hj)
  refine sx_putF X hP in_X3_init_X3 tyX3 tyX3_ok nmX3 h74 (by decide) rfl 2 (by decide) lk_X3_init_fieldLink_RX3_15_RaceWatch_Log_sorts_I rfl rfl rfl rfl rfl (Nat.le_of_ble_eq_true rfl) dX3_init_19 (fun F4 H4 l4 e4 o4 hP => ?_)
  have h74 : F4 (74) = ob 3 ([.int (0), rf G 75, rf G 76, .null, .null, .null, .null, .null]) := e4
  have h75 := (o4 (75) (by decide)).trans h75
  have h76 := (o4 (76) (by decide)).trans h76
  have hO : ∀ j, j < 74 → F4 j = F j := fun j hj => (o4 j (by omega)).trans (hO j hj)
  refine lv_aload_n X.1.1 X.1.2.1 dX3_init_22 rfl (lv_at hl 0 rfl) ?_
  refine lv_sipush (v := nI 160) X.1.1 X.1.2.1 dX3_init_23 (by decide) ?_
  refine sx_newi X hP 160 lk_X3_init_arrayClass_int (by decide) (Nat.le_of_ble_eq_true rfl) (Nat.le_of_ble_eq_true rfl) hs rfl dX3_init_26 (fun F5 H5 e5 o5 hP => ?_)
  have h77 : F5 (77) = rI G (160) (fun _ => 0) := e5
  have h74 := (o5 (74) (by decide)).trans h74
  have h75 := (o5 (75) (by decide)).trans h75
  have h76 := (o5 (76) (by decide)).trans h76
  have hO : ∀ j, j < 74 → F5 j = F j := fun j hj => (o5 j (by omega)).trans (hO j hj)
  refine sx_putF X hP in_X3_init_X3 tyX3 tyX3_ok nmX3 h74 (by decide) rfl 3 (by decide) lk_X3_init_fieldLink_RX3_18_RaceWatch_Log_withs_I rfl rfl rfl rfl rfl (Nat.le_of_ble_eq_true rfl) dX3_init_28 (fun F6 H6 l6 e6 o6 hP => ?_)
  have h74 : F6 (74) = ob 3 ([.int (0), rf G 75, rf G 76, rf G 77, .null, .null, .null, .null]) := e6
  have h75 := (o6 (75) (by decide)).trans h75
  have h76 := (o6 (76) (by decide)).trans h76
  have h77 := (o6 (77) (by decide)).trans h77
  have hO : ∀ j, j < 74 → F6 j = F j := fun j hj => (o6 j (by omega)).trans (hO j hj)
  refine lv_aload_n X.1.1 X.1.2.1 dX3_init_31 rfl (lv_at hl 0 rfl) ?_
  refine lv_sipush (v := nI 160) X.1.1 X.1.2.1 dX3_init_32 (by decide) ?_
  refine sx_newi X hP 160 lk_X3_init_arrayClass_int (by decide) (Nat.le_of_ble_eq_true rfl) (Nat.le_of_ble_eq_true rfl) hs rfl dX3_init_35 (fun F7 H7 e7 o7 hP => ?_)
  have h78 : F7 (78) = rI G (160) (fun _ => 0) := e7
  have h74 := (o7 (74) (by decide)).trans h74
  have h75 := (o7 (75) (by decide)).trans h75
  have h76 := (o7 (76) (by decide)).trans h76
  have h77 := (o7 (77) (by decide)).trans h77
  have hO : ∀ j, j < 74 → F7 j = F j := fun j hj => (o7 j (by omega)).trans (hO j hj)
  refine sx_putF X hP in_X3_init_X3 tyX3 tyX3_ok nmX3 h74 (by decide) rfl 4 (by decide) lk_X3_init_fieldLink_RX3_21_RaceWatch_Log_locks_I rfl rfl rfl rfl rfl (Nat.le_of_ble_eq_true rfl) dX3_init_37 (fun F8 H8 l8 e8 o8 hP => ?_)
  have h74 : F8 (74) = ob 3 ([.int (0), rf G 75, rf G 76, rf G 77, rf G 78, .null, .null, .null]) := e8
  have h75 := (o8 (75) (by decide)).trans h75
  have h76 := (o8 (76) (by decide)).trans h76
  have h77 := (o8 (77) (by decide)).trans h77
  have h78 := (o8 (78) (by decide)).trans h78
  have hO : ∀ j, j < 74 → F8 j = F j := fun j hj => (o8 j (by omega)).trans (hO j hj)
  refine lv_aload_n X.1.1 X.1.2.1 dX3_init_40 rfl (lv_at hl 0 rfl) ?_
  refine sx_new (ci := 1) X hP in_X3_init_X1 tyX1 tyX1_ok lk_X3_init_classLink_RX3_24_RX1 lk_X3_init_instantiable_RX1_2 lk_X3_init_initialized_RX1 rfl (fs := [.int (0), .null]) (fun j hj => by rcases (show j = 0 ∨ j = 1 by omega) with rfl | rfl <;> rfl) (Nat.le_of_ble_eq_true rfl) (Nat.le_of_ble_eq_true rfl) hs rfl dX3_init_41 (fun F9 H9 e9 o9 hP => ?_)
  have h79 : F9 (79) = ob 1 ([.int (0), .null]) := e9
  have h74 := (o9 (74) (by decide)).trans h74
  have h75 := (o9 (75) (by decide)).trans h75
  have h76 := (o9 (76) (by decide)).trans h76
  have h77 := (o9 (77) (by decide)).trans h77
  have h78 := (o9 (78) (by decide)).trans h78
  have hO : ∀ j, j < 74 → F9 j = F j := fun j hj => (o9 j (by omega)).trans (hO j hj)
  refine lv_dup X.1.1 X.1.2.1 dX3_init_44 rfl ?_
  refine lv_sipush (v := nI 160) X.1.1 X.1.2.1 dX3_init_45 (by decide) ?_
  refine sx_ci (As := [.int (nI 160)]) (rest := rf G 79 :: rf G 74 :: []) X (mX1_init_160 l (n := 80) (ca := 79) (by decide) h79) gX3_init_X1_init rfl lk_X3_init_initialized_RX1 lk_X3_init_methodLink_RX3_26_yX1_init lk_X3_init_instanceMethod_yX1_init rfl ys_X1_init ⟨Nat.le_of_ble_eq_true rfl, Nat.le_of_ble_eq_true rfl⟩ hl.1 rfl (Nat.le_of_ble_eq_true rfl) dX3_init_48 ⟨Nat.le_of_ble_eq_true rfl, Nat.le_of_ble_eq_true rfl⟩ hs rfl hP (fun F10 H10 l10 hp hP => ?_)
  obtain ⟨e10, f10, o10⟩ := hp
  have h74 := (o10 (74) (by decide)).trans h74
  have h75 := (o10 (75) (by decide)).trans h75
  have h76 := (o10 (76) (by decide)).trans h76
  have h77 := (o10 (77) (by decide)).trans h77
  have h78 := (o10 (78) (by decide)).trans h78
  have h79 : F10 (79) = ob 1 ([.int (nI 160), rf G 80]) := e10
  have h80 : F10 (80) = rI G (640) (fun _ => 0) := f10
  have hO : ∀ j, j < 74 → F10 j = F j := fun j hj => (o10 j (by omega)).trans (hO j hj)
  refine sx_putF X hP in_X3_init_X3 tyX3 tyX3_ok nmX3 h74 (by decide) rfl 5 (by decide) lk_X3_init_fieldLink_RX3_29_RaceWatch_Log_clocks_LRaceWatch_Clocks rfl rfl rfl rfl rfl (Nat.le_of_ble_eq_true rfl) dX3_init_51 (fun F11 H11 l11 e11 o11 hP => ?_)
  have h74 : F11 (74) = ob 3 ([.int (0), rf G 75, rf G 76, rf G 77, rf G 78, rf G 79, .null, .null]) := e11
  have h75 := (o11 (75) (by decide)).trans h75
  have h76 := (o11 (76) (by decide)).trans h76
  have h77 := (o11 (77) (by decide)).trans h77
  have h78 := (o11 (78) (by decide)).trans h78
  have h79 := (o11 (79) (by decide)).trans h79
  have h80 := (o11 (80) (by decide)).trans h80
  have hO : ∀ j, j < 74 → F11 j = F j := fun j hj => (o11 j (by omega)).trans (hO j hj)
  refine lv_aload_n X.1.1 X.1.2.1 dX3_init_54 rfl (lv_at hl 0 rfl) ?_
  refine lv_sipush (v := nI 160) X.1.1 X.1.2.1 dX3_init_55 (by decide) ?_
  refine sx_newi X hP 160 lk_X3_init_arrayClass_int (by decide) (Nat.le_of_ble_eq_true rfl) (Nat.le_of_ble_eq_true rfl) hs rfl dX3_init_58 (fun F12 H12 e12 o12 hP => ?_)
  have h81 : F12 (81) = rI G (160) (fun _ => 0) := e12
  have h74 := (o12 (74) (by decide)).trans h74
  have h75 := (o12 (75) (by decide)).trans h75
  have h76 := (o12 (76) (by decide)).trans h76
  have h77 := (o12 (77) (by decide)).trans h77
  have h78 := (o12 (78) (by decide)).trans h78
  have h79 := (o12 (79) (by decide)).trans h79
  have h80 := (o12 (80) (by decide)).trans h80
  have hO : ∀ j, j < 74 → F12 j = F j := fun j hj => (o12 j (by omega)).trans (hO j hj)
  refine sx_putF X hP in_X3_init_X3 tyX3 tyX3_ok nmX3 h74 (by decide) rfl 6 (by decide) lk_X3_init_fieldLink_RX3_33_RaceWatch_Log_racesBehind_I rfl rfl rfl rfl rfl (Nat.le_of_ble_eq_true rfl) dX3_init_60 (fun F13 H13 l13 e13 o13 hP => ?_)
  have h74 : F13 (74) = ob 3 ([.int (0), rf G 75, rf G 76, rf G 77, rf G 78, rf G 79, rf G 81, .null]) := e13
  have h75 := (o13 (75) (by decide)).trans h75
  have h76 := (o13 (76) (by decide)).trans h76
  have h77 := (o13 (77) (by decide)).trans h77
  have h78 := (o13 (78) (by decide)).trans h78
  have h79 := (o13 (79) (by decide)).trans h79
  have h80 := (o13 (80) (by decide)).trans h80
  have h81 := (o13 (81) (by decide)).trans h81
  have hO : ∀ j, j < 74 → F13 j = F j := fun j hj => (o13 j (by omega)).trans (hO j hj)
  refine lv_aload_n X.1.1 X.1.2.1 dX3_init_63 rfl (lv_at hl 0 rfl) ?_
  refine lv_bipush (v := nI 12) X.1.1 X.1.2.1 dX3_init_64 (by decide) ?_
  refine sx_newi X hP 12 lk_X3_init_arrayClass_int (by decide) (Nat.le_of_ble_eq_true rfl) (Nat.le_of_ble_eq_true rfl) hs rfl dX3_init_66 (fun F14 H14 e14 o14 hP => ?_)
  have h82 : F14 (82) = rI G (12) (fun _ => 0) := e14
  have h74 := (o14 (74) (by decide)).trans h74
  have h75 := (o14 (75) (by decide)).trans h75
  have h76 := (o14 (76) (by decide)).trans h76
  have h77 := (o14 (77) (by decide)).trans h77
  have h78 := (o14 (78) (by decide)).trans h78
  have h79 := (o14 (79) (by decide)).trans h79
  have h80 := (o14 (80) (by decide)).trans h80
  have h81 := (o14 (81) (by decide)).trans h81
  have hO : ∀ j, j < 74 → F14 j = F j := fun j hj => (o14 j (by omega)).trans (hO j hj)
  refine sx_putF X hP in_X3_init_X3 tyX3 tyX3_ok nmX3 h74 (by decide) rfl 7 (by decide) lk_X3_init_fieldLink_RX3_36_RaceWatch_Log_raceCounts_I rfl rfl rfl rfl rfl (Nat.le_of_ble_eq_true rfl) dX3_init_68 (fun F15 H15 l15 e15 o15 hP => ?_)
  have h74 : F15 (74) = ob 3 ([.int (0), rf G 75, rf G 76, rf G 77, rf G 78, rf G 79, rf G 81, rf G 82]) := e15
  have h75 := (o15 (75) (by decide)).trans h75
  have h76 := (o15 (76) (by decide)).trans h76
  have h77 := (o15 (77) (by decide)).trans h77
  have h78 := (o15 (78) (by decide)).trans h78
  have h79 := (o15 (79) (by decide)).trans h79
  have h80 := (o15 (80) (by decide)).trans h80
  have h81 := (o15 (81) (by decide)).trans h81
  have h82 := (o15 (82) (by decide)).trans h82
  have hO : ∀ j, j < 74 → F15 j = F j := fun j hj => (o15 j (by omega)).trans (hO j hj)
  rw [hQ]
  exact sx_vret X rfl hs rfl hP dX3_init_71 (⟨h74, h75, h76, h77, h78, h79, h80, h81, h82, hO⟩)
theorem ys_X5_init : yX5_init.cls ≠ "java/lang/invoke/MethodHandle" ∧ yX5_init.cls ≠ "java/lang/invoke/VarHandle" ∧ (parseMethodDescriptor yX5_init.desc).map (fun d => d.parameters.length) = some 0 := by decide +kernel
theorem yv_X5_init : yX5_init.cls = RX5 ∧ yX5_init.cls ≠ "java/lang/invoke/MethodHandle" ∧ yX5_init.cls ≠ "java/lang/invoke/VarHandle" ∧ (parseMethodDescriptor yX5_init.desc).map (fun d => d.parameters.length) = some 0 := ⟨rfl, ys_X5_init⟩
theorem lk_X5_init_methodLink_RX5_3_objectInit : (.methodLink RX5 3 objectInit : Cond) ∈ wsX5_init := List.mem_cons_of_mem _ (List.mem_append_left _ (List.mem_append_left _ (List.mem_append_left _ (List.mem_append_left _ (List.mem_append_left _ (List.mem_of_getElem? (i := 0) rfl))))))
theorem lk_X5_init_instanceMethod_objectInit : (.instanceMethod objectInit : Cond) ∈ wsX5_init := List.mem_cons_of_mem _ (List.mem_append_left _ (List.mem_append_left _ (List.mem_append_left _ (List.mem_append_left _ (List.mem_append_left _ (List.mem_of_getElem? (i := 1) rfl))))))
theorem lk_X5_init_code_objectInit_0xb1_1_none : (.code objectInit ⟨#[0xb1]⟩ 1 none : Cond) ∈ wsX5_init := List.mem_cons_of_mem _ (List.mem_append_left _ (List.mem_append_left _ (List.mem_append_left _ (List.mem_append_left _ (List.mem_append_left _ (List.mem_of_getElem? (i := 2) rfl))))))
theorem lk_X5_init_arrayClass_int : (.arrayClass .int : Cond) ∈ wsX5_init := List.mem_cons_of_mem _ (List.mem_append_left _ (List.mem_append_left _ (List.mem_append_left _ (List.mem_append_left _ (List.mem_append_left _ (List.mem_of_getElem? (i := 3) rfl))))))
theorem in_X5_init_X5 : ∀ w ∈ wsX50, w ∈ wsX5_init := fun _ h => List.mem_cons_of_mem _ (List.mem_append_left _ (List.mem_append_left _ (List.mem_append_left _ (List.mem_append_right _ (h)))))
theorem lk_X5_init_fieldLink_RX5_9_RaceWatch_World_states_I : (.fieldLink RX5 9 "RaceWatch$World" "states" "[I" : Cond) ∈ wsX5_init := List.mem_cons_of_mem _ (List.mem_append_left _ (List.mem_append_left _ (List.mem_append_left _ (List.mem_append_left _ (List.mem_append_left _ (List.mem_of_getElem? (i := 4) rfl))))))
theorem lk_X5_init_fieldLink_RX5_15_RaceWatch_World_holders_I : (.fieldLink RX5 15 "RaceWatch$World" "holders" "[I" : Cond) ∈ wsX5_init := List.mem_cons_of_mem _ (List.mem_append_left _ (List.mem_append_left _ (List.mem_append_left _ (List.mem_append_left _ (List.mem_append_left _ (List.mem_of_getElem? (i := 5) rfl))))))
theorem in_X5_init_X1 : ∀ w ∈ wsX10, w ∈ wsX5_init := fun _ h => List.mem_cons_of_mem _ (List.mem_append_left _ (List.mem_append_left _ (List.mem_append_right _ (h))))
theorem lk_X5_init_classLink_RX5_18_RX1 : (.classLink RX5 18 RX1 : Cond) ∈ wsX5_init := List.mem_cons_of_mem _ (List.mem_append_left _ (List.mem_append_left _ (List.mem_append_left _ (List.mem_append_left _ (List.mem_append_left _ (List.mem_of_getElem? (i := 6) rfl))))))
theorem lk_X5_init_instantiable_RX1_2 : (.instantiable RX1 2 : Cond) ∈ wsX5_init := List.mem_cons_of_mem _ (List.mem_append_left _ (List.mem_append_left _ (List.mem_append_left _ (List.mem_append_left _ (List.mem_append_left _ (List.mem_of_getElem? (i := 7) rfl))))))
theorem lk_X5_init_initialized_RX1 : (.initialized RX1 : Cond) ∈ wsX5_init := List.mem_cons_of_mem _ (List.mem_append_left _ (List.mem_append_left _ (List.mem_append_left _ (List.mem_append_left _ (List.mem_append_left _ (List.mem_of_getElem? (i := 8) rfl))))))
theorem lk_X5_init_methodLink_RX5_20_yX1_init : (.methodLink RX5 20 yX1_init : Cond) ∈ wsX5_init := List.mem_cons_of_mem _ (List.mem_append_left _ (List.mem_append_left _ (List.mem_append_left _ (List.mem_append_left _ (List.mem_append_left _ (List.mem_of_getElem? (i := 20) rfl))))))
theorem lk_X5_init_instanceMethod_yX1_init : (.instanceMethod yX1_init : Cond) ∈ wsX5_init := List.mem_cons_of_mem _ (List.mem_append_left _ (List.mem_append_left _ (List.mem_append_left _ (List.mem_append_left _ (List.mem_append_left _ (List.mem_of_getElem? (i := 21) rfl))))))
theorem lk_X5_init_fieldLink_RX5_23_RaceWatch_World_ofThreads_LRaceWatch_Clocks : (.fieldLink RX5 23 "RaceWatch$World" "ofThreads" "LRaceWatch$Clocks;" : Cond) ∈ wsX5_init := List.mem_cons_of_mem _ (List.mem_append_left _ (List.mem_append_left _ (List.mem_append_left _ (List.mem_append_left _ (List.mem_append_left _ (List.mem_of_getElem? (i := 9) rfl))))))
theorem lk_X5_init_fieldLink_RX5_27_RaceWatch_World_ofLocks_LRaceWatch_Clocks : (.fieldLink RX5 27 "RaceWatch$World" "ofLocks" "LRaceWatch$Clocks;" : Cond) ∈ wsX5_init := List.mem_cons_of_mem _ (List.mem_append_left _ (List.mem_append_left _ (List.mem_append_left _ (List.mem_append_left _ (List.mem_append_left _ (List.mem_of_getElem? (i := 10) rfl))))))
theorem lk_X5_init_fieldLink_RX5_30_RaceWatch_World_ofSeenCells_LRaceWatch_Clocks : (.fieldLink RX5 30 "RaceWatch$World" "ofSeenCells" "LRaceWatch$Clocks;" : Cond) ∈ wsX5_init := List.mem_cons_of_mem _ (List.mem_append_left _ (List.mem_append_left _ (List.mem_append_left _ (List.mem_append_left _ (List.mem_append_left _ (List.mem_of_getElem? (i := 11) rfl))))))
theorem lk_X5_init_classLink_RX5_33_RX2 : (.classLink RX5 33 RX2 : Cond) ∈ wsX5_init := List.mem_cons_of_mem _ (List.mem_append_left _ (List.mem_append_left _ (List.mem_append_left _ (List.mem_append_left _ (List.mem_append_left _ (List.mem_of_getElem? (i := 12) rfl))))))
theorem in_X5_init_X2 : ∀ w ∈ wsX20, w ∈ wsX5_init := fun _ h => List.mem_cons_of_mem _ (List.mem_append_left _ (List.mem_append_right _ (h)))
theorem lk_X5_init_instantiable_RX2_10 : (.instantiable RX2 10 : Cond) ∈ wsX5_init := List.mem_cons_of_mem _ (List.mem_append_left _ (List.mem_append_left _ (List.mem_append_left _ (List.mem_append_left _ (List.mem_append_left _ (List.mem_of_getElem? (i := 13) rfl))))))
theorem lk_X5_init_initialized_RX2 : (.initialized RX2 : Cond) ∈ wsX5_init := List.mem_cons_of_mem _ (List.mem_append_left _ (List.mem_append_left _ (List.mem_append_left _ (List.mem_append_left _ (List.mem_append_left _ (List.mem_of_getElem? (i := 14) rfl))))))
theorem lk_X5_init_instanceMethod_yX2_init : (.instanceMethod yX2_init : Cond) ∈ wsX5_init := List.mem_cons_of_mem _ (List.mem_append_left _ (List.mem_append_left _ (List.mem_append_left _ (List.mem_append_left _ (List.mem_append_right _ (List.mem_append_left _ (List.mem_of_getElem? (i := 6) rfl)))))))
theorem lk_X5_init_fieldLink_RX5_36_RaceWatch_World_cells_LRaceWatch_Kept : (.fieldLink RX5 36 "RaceWatch$World" "cells" "[LRaceWatch$Kept;" : Cond) ∈ wsX5_init := List.mem_cons_of_mem _ (List.mem_append_left _ (List.mem_append_left _ (List.mem_append_left _ (List.mem_append_left _ (List.mem_append_left _ (List.mem_of_getElem? (i := 15) rfl))))))
theorem in_X5_init_X3 : ∀ w ∈ wsX30, w ∈ wsX5_init := fun _ h => List.mem_cons_of_mem _ (List.mem_append_right _ (h))
theorem lk_X5_init_classLink_RX5_40_RX3 : (.classLink RX5 40 RX3 : Cond) ∈ wsX5_init := List.mem_cons_of_mem _ (List.mem_append_left _ (List.mem_append_left _ (List.mem_append_left _ (List.mem_append_left _ (List.mem_append_left _ (List.mem_of_getElem? (i := 16) rfl))))))
theorem lk_X5_init_instantiable_RX3_8 : (.instantiable RX3 8 : Cond) ∈ wsX5_init := List.mem_cons_of_mem _ (List.mem_append_left _ (List.mem_append_left _ (List.mem_append_left _ (List.mem_append_left _ (List.mem_append_left _ (List.mem_of_getElem? (i := 17) rfl))))))
theorem lk_X5_init_initialized_RX3 : (.initialized RX3 : Cond) ∈ wsX5_init := List.mem_cons_of_mem _ (List.mem_append_left _ (List.mem_append_left _ (List.mem_append_left _ (List.mem_append_left _ (List.mem_append_left _ (List.mem_of_getElem? (i := 18) rfl))))))
theorem lk_X5_init_instanceMethod_yX3_init : (.instanceMethod yX3_init : Cond) ∈ wsX5_init := List.mem_cons_of_mem _ (List.mem_append_left _ (List.mem_append_left _ (List.mem_append_left _ (List.mem_append_left _ (List.mem_append_right _ (List.mem_append_left _ (List.mem_of_getElem? (i := 10) rfl)))))))
theorem lk_X5_init_fieldLink_RX5_43_RaceWatch_World_log_LRaceWatch_Log : (.fieldLink RX5 43 "RaceWatch$World" "log" "LRaceWatch$Log;" : Cond) ∈ wsX5_init := List.mem_cons_of_mem _ (List.mem_append_left _ (List.mem_append_left _ (List.mem_append_left _ (List.mem_append_left _ (List.mem_append_left _ (List.mem_of_getElem? (i := 19) rfl))))))
abbrev rmX5_init : Room := { frames := 4, cells := 26, slots := 3455, locals := 84 }
set_option maxHeartbeats 800000 in
set_option maxRecDepth 100000 in
theorem mX5_init_1 {G : sx_G} (l : Launch) {F : Nat → va_E} {w : Nat → Int32}  (h1 : F (1) = ob 5 ([.null, .null, .null, .null, .null, .null, .null])) : sx_V G l yX5_init wsX5_init rmX5_init [rf G 1] (2) F (28) (fun F1 => WV G F1 (iniF w) 0 1 ∧ ∀ j, j < 1 → F1 j = F j) := by
  refine sx_enter (cc := cX5_init) (maxL := 1) (ret := none) (own := RX5) (nm := "<init>") (by decide) rfl rfl rfl (Nat.le_of_ble_eq_true rfl) ?_
  intro pp ee ss mm args below meth kc ls Q hQ X hs hP hl
  have hl : lv_has ls 1 [(0, rf G 1)] := hl
  have hO : ∀ j, j < 1 → F j = F j := fun _ _ => rfl
  refine lv_aload_n X.1.1 X.1.2.1 dX5_init_0 rfl (lv_at hl 0 rfl) ?_
  refine sx_obj X lk_X5_init_methodLink_RX5_3_objectInit lk_X5_init_instanceMethod_objectInit lk_X5_init_code_objectInit_0xb1_1_none hl.1 dX5_init_1 (Nat.le_of_ble_eq_true rfl) (Nat.le_of_ble_eq_true rfl) ?_
  refine lv_aload_n X.1.1 X.1.2.1 dX5_init_4 rfl (lv_at hl 0 rfl) ?_
  refine lv_iconst (v := nI 4) X.1.1 X.1.2.1 dX5_init_5 (by decide) ?_
  refine sx_newi X hP 4 lk_X5_init_arrayClass_int (by decide) (Nat.le_of_ble_eq_true rfl) (Nat.le_of_ble_eq_true rfl) hs rfl dX5_init_6 (fun F1 H1 e1 o1 hP => ?_)
  have h2 : F1 (2) = rI G (4) (fun _ => 0) := e1
  have h1 := (o1 (1) (by decide)).trans h1
  have hO : ∀ j, j < 1 → F1 j = F j := fun j hj => (o1 j (by omega)).trans (hO j hj)
  refine sx_putF X hP in_X5_init_X5 tyX5 tyX5_ok nmX5 h1 (by decide) rfl 0 (by decide) lk_X5_init_fieldLink_RX5_9_RaceWatch_World_states_I rfl rfl rfl rfl rfl (Nat.le_of_ble_eq_true rfl) dX5_init_8 (fun F2 H2 l2 e2 o2 hP => ?_)
  have h1 : F2 (1) = ob 5 ([rf G 2, .null, .null, .null, .null, .null, .null]) := e2
  have h2 := (o2 (2) (by decide)).trans h2
  have hO : ∀ j, j < 1 → F2 j = F j := fun j hj => (o2 j (by omega)).trans (hO j hj)
  refine lv_aload_n X.1.1 X.1.2.1 dX5_init_11 rfl (lv_at hl 0 rfl) ?_
  refine lv_iconst (v := nI 3) X.1.1 X.1.2.1 dX5_init_12 (by decide) ?_
  refine sx_newi X hP 3 lk_X5_init_arrayClass_int (by decide) (Nat.le_of_ble_eq_true rfl) (Nat.le_of_ble_eq_true rfl) hs rfl dX5_init_13 (fun F3 H3 e3 o3 hP => ?_)
  have h3 : F3 (3) = rI G (3) (fun _ => 0) := e3
  have h1 := (o3 (1) (by decide)).trans h1
  have h2 := (o3 (2) (by decide)).trans h2
  have hO : ∀ j, j < 1 → F3 j = F j := fun j hj => (o3 j (by omega)).trans (hO j hj)
  refine sx_putF X hP in_X5_init_X5 tyX5 tyX5_ok nmX5 h1 (by decide) rfl 1 (by decide) lk_X5_init_fieldLink_RX5_15_RaceWatch_World_holders_I rfl rfl rfl rfl rfl (Nat.le_of_ble_eq_true rfl) dX5_init_15 (fun F4 H4 l4 e4 o4 hP => ?_)
  have h1 : F4 (1) = ob 5 ([rf G 2, rf G 3, .null, .null, .null, .null, .null]) := e4
  have h2 := (o4 (2) (by decide)).trans h2
  have h3 := (o4 (3) (by decide)).trans h3
  have hO : ∀ j, j < 1 → F4 j = F j := fun j hj => (o4 j (by omega)).trans (hO j hj)
  refine lv_aload_n X.1.1 X.1.2.1 dX5_init_18 rfl (lv_at hl 0 rfl) ?_
  refine sx_new (ci := 1) X hP in_X5_init_X1 tyX1 tyX1_ok lk_X5_init_classLink_RX5_18_RX1 lk_X5_init_instantiable_RX1_2 lk_X5_init_initialized_RX1 rfl (fs := [.int (0), .null]) (fun j hj => by rcases (show j = 0 ∨ j = 1 by omega) with rfl | rfl <;> rfl) (Nat.le_of_ble_eq_true rfl) (Nat.le_of_ble_eq_true rfl) hs rfl dX5_init_19 (fun F5 H5 e5 o5 hP => ?_)
  have h4 : F5 (4) = ob 1 ([.int (0), .null]) := e5
  have h1 := (o5 (1) (by decide)).trans h1
  have h2 := (o5 (2) (by decide)).trans h2
  have h3 := (o5 (3) (by decide)).trans h3
  have hO : ∀ j, j < 1 → F5 j = F j := fun j hj => (o5 j (by omega)).trans (hO j hj)
  refine lv_dup X.1.1 X.1.2.1 dX5_init_22 rfl ?_
  refine lv_iconst (v := nI 4) X.1.1 X.1.2.1 dX5_init_23 (by decide) ?_
  refine sx_ci (As := [.int (nI 4)]) (rest := rf G 4 :: rf G 1 :: []) X (mX1_init_4 l (n := 5) (ca := 4) (by decide) h4) gX5_init_X1_init rfl lk_X5_init_initialized_RX1 lk_X5_init_methodLink_RX5_20_yX1_init lk_X5_init_instanceMethod_yX1_init rfl ys_X1_init ⟨Nat.le_of_ble_eq_true rfl, Nat.le_of_ble_eq_true rfl⟩ hl.1 rfl (Nat.le_of_ble_eq_true rfl) dX5_init_24 ⟨Nat.le_of_ble_eq_true rfl, Nat.le_of_ble_eq_true rfl⟩ hs rfl hP (fun F6 H6 l6 hp hP => ?_)
  obtain ⟨e6, f6, o6⟩ := hp
  have h1 := (o6 (1) (by decide)).trans h1
  have h2 := (o6 (2) (by decide)).trans h2
  have h3 := (o6 (3) (by decide)).trans h3
  have h4 : F6 (4) = ob 1 ([.int (nI 4), rf G 5]) := e6
  have h5 : F6 (5) = rI G (16) (fun _ => 0) := f6
  have hO : ∀ j, j < 1 → F6 j = F j := fun j hj => (o6 j (by omega)).trans (hO j hj)
  refine sx_putF X hP in_X5_init_X5 tyX5 tyX5_ok nmX5 h1 (by decide) rfl 2 (by decide) lk_X5_init_fieldLink_RX5_23_RaceWatch_World_ofThreads_LRaceWatch_Clocks rfl rfl rfl rfl rfl (Nat.le_of_ble_eq_true rfl) dX5_init_27 (fun F7 H7 l7 e7 o7 hP => ?_)
  have h1 : F7 (1) = ob 5 ([rf G 2, rf G 3, rf G 4, .null, .null, .null, .null]) := e7
  have h2 := (o7 (2) (by decide)).trans h2
  have h3 := (o7 (3) (by decide)).trans h3
  have h4 := (o7 (4) (by decide)).trans h4
  have h5 := (o7 (5) (by decide)).trans h5
  have hO : ∀ j, j < 1 → F7 j = F j := fun j hj => (o7 j (by omega)).trans (hO j hj)
  refine lv_aload_n X.1.1 X.1.2.1 dX5_init_30 rfl (lv_at hl 0 rfl) ?_
  refine sx_new (ci := 1) X hP in_X5_init_X1 tyX1 tyX1_ok lk_X5_init_classLink_RX5_18_RX1 lk_X5_init_instantiable_RX1_2 lk_X5_init_initialized_RX1 rfl (fs := [.int (0), .null]) (fun j hj => by rcases (show j = 0 ∨ j = 1 by omega) with rfl | rfl <;> rfl) (Nat.le_of_ble_eq_true rfl) (Nat.le_of_ble_eq_true rfl) hs rfl dX5_init_31 (fun F8 H8 e8 o8 hP => ?_)
  have h6 : F8 (6) = ob 1 ([.int (0), .null]) := e8
  have h1 := (o8 (1) (by decide)).trans h1
  have h2 := (o8 (2) (by decide)).trans h2
  have h3 := (o8 (3) (by decide)).trans h3
  have h4 := (o8 (4) (by decide)).trans h4
  have h5 := (o8 (5) (by decide)).trans h5
  have hO : ∀ j, j < 1 → F8 j = F j := fun j hj => (o8 j (by omega)).trans (hO j hj)
  refine lv_dup X.1.1 X.1.2.1 dX5_init_34 rfl ?_
  refine lv_iconst (v := nI 3) X.1.1 X.1.2.1 dX5_init_35 (by decide) ?_
  refine sx_ci (As := [.int (nI 3)]) (rest := rf G 6 :: rf G 1 :: []) X (mX1_init_3 l (n := 7) (ca := 6) (by decide) h6) gX5_init_X1_init rfl lk_X5_init_initialized_RX1 lk_X5_init_methodLink_RX5_20_yX1_init lk_X5_init_instanceMethod_yX1_init rfl ys_X1_init ⟨Nat.le_of_ble_eq_true rfl, Nat.le_of_ble_eq_true rfl⟩ hl.1 rfl (Nat.le_of_ble_eq_true rfl) dX5_init_36 ⟨Nat.le_of_ble_eq_true rfl, Nat.le_of_ble_eq_true rfl⟩ hs rfl hP (fun F9 H9 l9 hp hP => ?_)
  obtain ⟨e9, f9, o9⟩ := hp
  have h1 := (o9 (1) (by decide)).trans h1
  have h2 := (o9 (2) (by decide)).trans h2
  have h3 := (o9 (3) (by decide)).trans h3
  have h4 := (o9 (4) (by decide)).trans h4
  have h5 := (o9 (5) (by decide)).trans h5
  have h6 : F9 (6) = ob 1 ([.int (nI 3), rf G 7]) := e9
  have h7 : F9 (7) = rI G (12) (fun _ => 0) := f9
  have hO : ∀ j, j < 1 → F9 j = F j := fun j hj => (o9 j (by omega)).trans (hO j hj)
  refine sx_putF X hP in_X5_init_X5 tyX5 tyX5_ok nmX5 h1 (by decide) rfl 3 (by decide) lk_X5_init_fieldLink_RX5_27_RaceWatch_World_ofLocks_LRaceWatch_Clocks rfl rfl rfl rfl rfl (Nat.le_of_ble_eq_true rfl) dX5_init_39 (fun F10 H10 l10 e10 o10 hP => ?_)
  have h1 : F10 (1) = ob 5 ([rf G 2, rf G 3, rf G 4, rf G 6, .null, .null, .null]) := e10
  have h2 := (o10 (2) (by decide)).trans h2
  have h3 := (o10 (3) (by decide)).trans h3
  have h4 := (o10 (4) (by decide)).trans h4
  have h5 := (o10 (5) (by decide)).trans h5
  have h6 := (o10 (6) (by decide)).trans h6
  have h7 := (o10 (7) (by decide)).trans h7
  have hO : ∀ j, j < 1 → F10 j = F j := fun j hj => (o10 j (by omega)).trans (hO j hj)
  refine lv_aload_n X.1.1 X.1.2.1 dX5_init_42 rfl (lv_at hl 0 rfl) ?_
  refine sx_new (ci := 1) X hP in_X5_init_X1 tyX1 tyX1_ok lk_X5_init_classLink_RX5_18_RX1 lk_X5_init_instantiable_RX1_2 lk_X5_init_initialized_RX1 rfl (fs := [.int (0), .null]) (fun j hj => by rcases (show j = 0 ∨ j = 1 by omega) with rfl | rfl <;> rfl) (Nat.le_of_ble_eq_true rfl) (Nat.le_of_ble_eq_true rfl) hs rfl dX5_init_43 (fun F11 H11 e11 o11 hP => ?_)
  have h8 : F11 (8) = ob 1 ([.int (0), .null]) := e11
  have h1 := (o11 (1) (by decide)).trans h1
  have h2 := (o11 (2) (by decide)).trans h2
  have h3 := (o11 (3) (by decide)).trans h3
  have h4 := (o11 (4) (by decide)).trans h4
  have h5 := (o11 (5) (by decide)).trans h5
  have h6 := (o11 (6) (by decide)).trans h6
  have h7 := (o11 (7) (by decide)).trans h7
  have hO : ∀ j, j < 1 → F11 j = F j := fun j hj => (o11 j (by omega)).trans (hO j hj)
  refine lv_dup X.1.1 X.1.2.1 dX5_init_46 rfl ?_
  refine lv_iconst (v := nI 2) X.1.1 X.1.2.1 dX5_init_47 (by decide) ?_
  refine sx_ci (As := [.int (nI 2)]) (rest := rf G 8 :: rf G 1 :: []) X (mX1_init_2 l (n := 9) (ca := 8) (by decide) h8) gX5_init_X1_init rfl lk_X5_init_initialized_RX1 lk_X5_init_methodLink_RX5_20_yX1_init lk_X5_init_instanceMethod_yX1_init rfl ys_X1_init ⟨Nat.le_of_ble_eq_true rfl, Nat.le_of_ble_eq_true rfl⟩ hl.1 rfl (Nat.le_of_ble_eq_true rfl) dX5_init_48 ⟨Nat.le_of_ble_eq_true rfl, Nat.le_of_ble_eq_true rfl⟩ hs rfl hP (fun F12 H12 l12 hp hP => ?_)
  obtain ⟨e12, f12, o12⟩ := hp
  have h1 := (o12 (1) (by decide)).trans h1
  have h2 := (o12 (2) (by decide)).trans h2
  have h3 := (o12 (3) (by decide)).trans h3
  have h4 := (o12 (4) (by decide)).trans h4
  have h5 := (o12 (5) (by decide)).trans h5
  have h6 := (o12 (6) (by decide)).trans h6
  have h7 := (o12 (7) (by decide)).trans h7
  have h8 : F12 (8) = ob 1 ([.int (nI 2), rf G 9]) := e12
  have h9 : F12 (9) = rI G (8) (fun _ => 0) := f12
  have hO : ∀ j, j < 1 → F12 j = F j := fun j hj => (o12 j (by omega)).trans (hO j hj)
  refine sx_putF X hP in_X5_init_X5 tyX5 tyX5_ok nmX5 h1 (by decide) rfl 4 (by decide) lk_X5_init_fieldLink_RX5_30_RaceWatch_World_ofSeenCells_LRaceWatch_Clocks rfl rfl rfl rfl rfl (Nat.le_of_ble_eq_true rfl) dX5_init_51 (fun F13 H13 l13 e13 o13 hP => ?_)
  have h1 : F13 (1) = ob 5 ([rf G 2, rf G 3, rf G 4, rf G 6, rf G 8, .null, .null]) := e13
  have h2 := (o13 (2) (by decide)).trans h2
  have h3 := (o13 (3) (by decide)).trans h3
  have h4 := (o13 (4) (by decide)).trans h4
  have h5 := (o13 (5) (by decide)).trans h5
  have h6 := (o13 (6) (by decide)).trans h6
  have h7 := (o13 (7) (by decide)).trans h7
  have h8 := (o13 (8) (by decide)).trans h8
  have h9 := (o13 (9) (by decide)).trans h9
  have hO : ∀ j, j < 1 → F13 j = F j := fun j hj => (o13 j (by omega)).trans (hO j hj)
  refine lv_aload_n X.1.1 X.1.2.1 dX5_init_54 rfl (lv_at hl 0 rfl) ?_
  refine lv_iconst (v := nI 4) X.1.1 X.1.2.1 dX5_init_55 (by decide) ?_
  refine sx_newk X hP 4 lk_X5_init_classLink_RX5_33_RX2 (by decide) (Nat.le_of_ble_eq_true rfl) (Nat.le_of_ble_eq_true rfl) hs rfl dX5_init_56 (fun F14 H14 e14 o14 hP => ?_)
  have h10 : F14 (10) = rK G (4) (fun _ => none) := e14
  have h1 := (o14 (1) (by decide)).trans h1
  have h2 := (o14 (2) (by decide)).trans h2
  have h3 := (o14 (3) (by decide)).trans h3
  have h4 := (o14 (4) (by decide)).trans h4
  have h5 := (o14 (5) (by decide)).trans h5
  have h6 := (o14 (6) (by decide)).trans h6
  have h7 := (o14 (7) (by decide)).trans h7
  have h8 := (o14 (8) (by decide)).trans h8
  have h9 := (o14 (9) (by decide)).trans h9
  have hO : ∀ j, j < 1 → F14 j = F j := fun j hj => (o14 j (by omega)).trans (hO j hj)
  refine lv_dup X.1.1 X.1.2.1 dX5_init_59 rfl ?_
  refine lv_iconst (v := nI 0) X.1.1 X.1.2.1 dX5_init_60 (by decide) ?_
  refine sx_new (ci := 2) X hP in_X5_init_X2 tyX2 tyX2_ok lk_X5_init_classLink_RX5_33_RX2 lk_X5_init_instantiable_RX2_10 lk_X5_init_initialized_RX2 rfl (fs := [.int (0), .int (0), .int (0), .int (0), .int (0), .null, .int (0), .int (0), .int (0), .int (0)]) (fun j hj => by rcases (show j = 0 ∨ j = 1 ∨ j = 2 ∨ j = 3 ∨ j = 4 ∨ j = 5 ∨ j = 6 ∨ j = 7 ∨ j = 8 ∨ j = 9 by omega) with rfl | rfl | rfl | rfl | rfl | rfl | rfl | rfl | rfl | rfl <;> rfl) (Nat.le_of_ble_eq_true rfl) (Nat.le_of_ble_eq_true rfl) hs rfl dX5_init_61 (fun F15 H15 e15 o15 hP => ?_)
  have h11 : F15 (11) = ob 2 ([.int (0), .int (0), .int (0), .int (0), .int (0), .null, .int (0), .int (0), .int (0), .int (0)]) := e15
  have h1 := (o15 (1) (by decide)).trans h1
  have h2 := (o15 (2) (by decide)).trans h2
  have h3 := (o15 (3) (by decide)).trans h3
  have h4 := (o15 (4) (by decide)).trans h4
  have h5 := (o15 (5) (by decide)).trans h5
  have h6 := (o15 (6) (by decide)).trans h6
  have h7 := (o15 (7) (by decide)).trans h7
  have h8 := (o15 (8) (by decide)).trans h8
  have h9 := (o15 (9) (by decide)).trans h9
  have h10 := (o15 (10) (by decide)).trans h10
  have hO : ∀ j, j < 1 → F15 j = F j := fun j hj => (o15 j (by omega)).trans (hO j hj)
  refine lv_dup X.1.1 X.1.2.1 dX5_init_64 rfl ?_
  refine sx_cni (As := []) (rest := rf G 11 :: .int (nI 0) :: rf G 10 :: rf G 10 :: rf G 1 :: []) X (mX2_init l (n := 12) (ca := 11) (by decide) h11) gX5_init_X2_init_n35 rfl X.2.2.2.2.2.1 lk_X5_init_initialized_RX2 lk_X5_init_instanceMethod_yX2_init rfl ys_X2_init ⟨Nat.le_of_ble_eq_true rfl, Nat.le_of_ble_eq_true rfl⟩ hl.1 rfl (Nat.le_of_ble_eq_true rfl) dX5_init_65 ⟨Nat.le_of_ble_eq_true rfl, Nat.le_of_ble_eq_true rfl⟩ hs rfl hP (fun F16 H16 l16 hp hP => ?_)
  obtain ⟨e16, f16, o16⟩ := hp
  have h1 := (o16 (1) (by decide)).trans h1
  have h2 := (o16 (2) (by decide)).trans h2
  have h3 := (o16 (3) (by decide)).trans h3
  have h4 := (o16 (4) (by decide)).trans h4
  have h5 := (o16 (5) (by decide)).trans h5
  have h6 := (o16 (6) (by decide)).trans h6
  have h7 := (o16 (7) (by decide)).trans h7
  have h8 := (o16 (8) (by decide)).trans h8
  have h9 := (o16 (9) (by decide)).trans h9
  have h10 := (o16 (10) (by decide)).trans h10
  have h11 : F16 (11) = ob 2 ([.int (0), .int (0), .int (0), .int (0), .int (0), rf G 12, .int (0), .int (0), .int (0), .int (0)]) := e16
  have h12 : F16 (12) = rI G (4) (fun _ => 0) := f16
  have hO : ∀ j, j < 1 → F16 j = F j := fun j hj => (o16 j (by omega)).trans (hO j hj)
  refine sx_kast X hP h10 (by decide) (0) (by decide) (by decide) h11 (by decide) dX5_init_68 (fun F17 H17 l17 e17 o17 hP => ?_)
  have h10 : F17 (10) = rK G (4) (va_up (fun _ => none) (0) (some (sx_b G + (11)))) := e17
  have h1 := (o17 (1) (by decide)).trans h1
  have h2 := (o17 (2) (by decide)).trans h2
  have h3 := (o17 (3) (by decide)).trans h3
  have h4 := (o17 (4) (by decide)).trans h4
  have h5 := (o17 (5) (by decide)).trans h5
  have h6 := (o17 (6) (by decide)).trans h6
  have h7 := (o17 (7) (by decide)).trans h7
  have h8 := (o17 (8) (by decide)).trans h8
  have h9 := (o17 (9) (by decide)).trans h9
  have h11 := (o17 (11) (by decide)).trans h11
  have h12 := (o17 (12) (by decide)).trans h12
  have hO : ∀ j, j < 1 → F17 j = F j := fun j hj => (o17 j (by omega)).trans (hO j hj)
  refine lv_dup X.1.1 X.1.2.1 dX5_init_69 rfl ?_
  refine lv_iconst (v := nI 1) X.1.1 X.1.2.1 dX5_init_70 (by decide) ?_
  refine sx_new (ci := 2) X hP in_X5_init_X2 tyX2 tyX2_ok lk_X5_init_classLink_RX5_33_RX2 lk_X5_init_instantiable_RX2_10 lk_X5_init_initialized_RX2 rfl (fs := [.int (0), .int (0), .int (0), .int (0), .int (0), .null, .int (0), .int (0), .int (0), .int (0)]) (fun j hj => by rcases (show j = 0 ∨ j = 1 ∨ j = 2 ∨ j = 3 ∨ j = 4 ∨ j = 5 ∨ j = 6 ∨ j = 7 ∨ j = 8 ∨ j = 9 by omega) with rfl | rfl | rfl | rfl | rfl | rfl | rfl | rfl | rfl | rfl <;> rfl) (Nat.le_of_ble_eq_true rfl) (Nat.le_of_ble_eq_true rfl) hs rfl dX5_init_71 (fun F18 H18 e18 o18 hP => ?_)
  have h13 : F18 (13) = ob 2 ([.int (0), .int (0), .int (0), .int (0), .int (0), .null, .int (0), .int (0), .int (0), .int (0)]) := e18
  have h1 := (o18 (1) (by decide)).trans h1
  have h2 := (o18 (2) (by decide)).trans h2
  have h3 := (o18 (3) (by decide)).trans h3
  have h4 := (o18 (4) (by decide)).trans h4
  have h5 := (o18 (5) (by decide)).trans h5
  have h6 := (o18 (6) (by decide)).trans h6
  have h7 := (o18 (7) (by decide)).trans h7
  have h8 := (o18 (8) (by decide)).trans h8
  have h9 := (o18 (9) (by decide)).trans h9
  have h10 := (o18 (10) (by decide)).trans h10
  have h11 := (o18 (11) (by decide)).trans h11
  have h12 := (o18 (12) (by decide)).trans h12
  have hO : ∀ j, j < 1 → F18 j = F j := fun j hj => (o18 j (by omega)).trans (hO j hj)
  refine lv_dup X.1.1 X.1.2.1 dX5_init_74 rfl ?_
  refine sx_cni (As := []) (rest := rf G 13 :: .int (nI 1) :: rf G 10 :: rf G 10 :: rf G 1 :: []) X (mX2_init l (n := 14) (ca := 13) (by decide) h13) gX5_init_X2_init_n35 rfl X.2.2.2.2.2.1 lk_X5_init_initialized_RX2 lk_X5_init_instanceMethod_yX2_init rfl ys_X2_init ⟨Nat.le_of_ble_eq_true rfl, Nat.le_of_ble_eq_true rfl⟩ hl.1 rfl (Nat.le_of_ble_eq_true rfl) dX5_init_75 ⟨Nat.le_of_ble_eq_true rfl, Nat.le_of_ble_eq_true rfl⟩ hs rfl hP (fun F19 H19 l19 hp hP => ?_)
  obtain ⟨e19, f19, o19⟩ := hp
  have h1 := (o19 (1) (by decide)).trans h1
  have h2 := (o19 (2) (by decide)).trans h2
  have h3 := (o19 (3) (by decide)).trans h3
  have h4 := (o19 (4) (by decide)).trans h4
  have h5 := (o19 (5) (by decide)).trans h5
  have h6 := (o19 (6) (by decide)).trans h6
  have h7 := (o19 (7) (by decide)).trans h7
  have h8 := (o19 (8) (by decide)).trans h8
  have h9 := (o19 (9) (by decide)).trans h9
  have h10 := (o19 (10) (by decide)).trans h10
  have h11 := (o19 (11) (by decide)).trans h11
  have h12 := (o19 (12) (by decide)).trans h12
  have h13 : F19 (13) = ob 2 ([.int (0), .int (0), .int (0), .int (0), .int (0), rf G 14, .int (0), .int (0), .int (0), .int (0)]) := e19
  have h14 : F19 (14) = rI G (4) (fun _ => 0) := f19
  have hO : ∀ j, j < 1 → F19 j = F j := fun j hj => (o19 j (by omega)).trans (hO j hj)
  refine sx_kast X hP h10 (by decide) (1) (by decide) (by decide) h13 (by decide) dX5_init_78 (fun F20 H20 l20 e20 o20 hP => ?_)
  have h10 : F20 (10) = rK G (4) (va_up (va_up (fun _ => none) (0) (some (sx_b G + (11)))) (1) (some (sx_b G + (13)))) := e20
  have h1 := (o20 (1) (by decide)).trans h1
  have h2 := (o20 (2) (by decide)).trans h2
  have h3 := (o20 (3) (by decide)).trans h3
  have h4 := (o20 (4) (by decide)).trans h4
  have h5 := (o20 (5) (by decide)).trans h5
  have h6 := (o20 (6) (by decide)).trans h6
  have h7 := (o20 (7) (by decide)).trans h7
  have h8 := (o20 (8) (by decide)).trans h8
  have h9 := (o20 (9) (by decide)).trans h9
  have h11 := (o20 (11) (by decide)).trans h11
  have h12 := (o20 (12) (by decide)).trans h12
  have h13 := (o20 (13) (by decide)).trans h13
  have h14 := (o20 (14) (by decide)).trans h14
  have hO : ∀ j, j < 1 → F20 j = F j := fun j hj => (o20 j (by omega)).trans (hO j hj)
  refine lv_dup X.1.1 X.1.2.1 dX5_init_79 rfl ?_
  refine lv_iconst (v := nI 2) X.1.1 X.1.2.1 dX5_init_80 (by decide) ?_
  refine sx_new (ci := 2) X hP in_X5_init_X2 tyX2 tyX2_ok lk_X5_init_classLink_RX5_33_RX2 lk_X5_init_instantiable_RX2_10 lk_X5_init_initialized_RX2 rfl (fs := [.int (0), .int (0), .int (0), .int (0), .int (0), .null, .int (0), .int (0), .int (0), .int (0)]) (fun j hj => by rcases (show j = 0 ∨ j = 1 ∨ j = 2 ∨ j = 3 ∨ j = 4 ∨ j = 5 ∨ j = 6 ∨ j = 7 ∨ j = 8 ∨ j = 9 by omega) with rfl | rfl | rfl | rfl | rfl | rfl | rfl | rfl | rfl | rfl <;> rfl) (Nat.le_of_ble_eq_true rfl) (Nat.le_of_ble_eq_true rfl) hs rfl dX5_init_81 (fun F21 H21 e21 o21 hP => ?_)
  have h15 : F21 (15) = ob 2 ([.int (0), .int (0), .int (0), .int (0), .int (0), .null, .int (0), .int (0), .int (0), .int (0)]) := e21
  have h1 := (o21 (1) (by decide)).trans h1
  have h2 := (o21 (2) (by decide)).trans h2
  have h3 := (o21 (3) (by decide)).trans h3
  have h4 := (o21 (4) (by decide)).trans h4
  have h5 := (o21 (5) (by decide)).trans h5
  have h6 := (o21 (6) (by decide)).trans h6
  have h7 := (o21 (7) (by decide)).trans h7
  have h8 := (o21 (8) (by decide)).trans h8
  have h9 := (o21 (9) (by decide)).trans h9
  have h10 := (o21 (10) (by decide)).trans h10
  have h11 := (o21 (11) (by decide)).trans h11
  have h12 := (o21 (12) (by decide)).trans h12
  have h13 := (o21 (13) (by decide)).trans h13
  have h14 := (o21 (14) (by decide)).trans h14
  have hO : ∀ j, j < 1 → F21 j = F j := fun j hj => (o21 j (by omega)).trans (hO j hj)
  refine lv_dup X.1.1 X.1.2.1 dX5_init_84 rfl ?_
  refine sx_cni (As := []) (rest := rf G 15 :: .int (nI 2) :: rf G 10 :: rf G 10 :: rf G 1 :: []) X (mX2_init l (n := 16) (ca := 15) (by decide) h15) gX5_init_X2_init_n35 rfl X.2.2.2.2.2.1 lk_X5_init_initialized_RX2 lk_X5_init_instanceMethod_yX2_init rfl ys_X2_init ⟨Nat.le_of_ble_eq_true rfl, Nat.le_of_ble_eq_true rfl⟩ hl.1 rfl (Nat.le_of_ble_eq_true rfl) dX5_init_85 ⟨Nat.le_of_ble_eq_true rfl, Nat.le_of_ble_eq_true rfl⟩ hs rfl hP (fun F22 H22 l22 hp hP => ?_)
  obtain ⟨e22, f22, o22⟩ := hp
  have h1 := (o22 (1) (by decide)).trans h1
  have h2 := (o22 (2) (by decide)).trans h2
  have h3 := (o22 (3) (by decide)).trans h3
  have h4 := (o22 (4) (by decide)).trans h4
  have h5 := (o22 (5) (by decide)).trans h5
  have h6 := (o22 (6) (by decide)).trans h6
  have h7 := (o22 (7) (by decide)).trans h7
  have h8 := (o22 (8) (by decide)).trans h8
  have h9 := (o22 (9) (by decide)).trans h9
  have h10 := (o22 (10) (by decide)).trans h10
  have h11 := (o22 (11) (by decide)).trans h11
  have h12 := (o22 (12) (by decide)).trans h12
  have h13 := (o22 (13) (by decide)).trans h13
  have h14 := (o22 (14) (by decide)).trans h14
  have h15 : F22 (15) = ob 2 ([.int (0), .int (0), .int (0), .int (0), .int (0), rf G 16, .int (0), .int (0), .int (0), .int (0)]) := e22
  have h16 : F22 (16) = rI G (4) (fun _ => 0) := f22
  have hO : ∀ j, j < 1 → F22 j = F j := fun j hj => (o22 j (by omega)).trans (hO j hj)
  refine sx_kast X hP h10 (by decide) (2) (by decide) (by decide) h15 (by decide) dX5_init_88 (fun F23 H23 l23 e23 o23 hP => ?_)
  have h10 : F23 (10) = rK G (4) (va_up (va_up (va_up (fun _ => none) (0) (some (sx_b G + (11)))) (1) (some (sx_b G + (13)))) (2) (some (sx_b G + (15)))) := e23
  have h1 := (o23 (1) (by decide)).trans h1
  have h2 := (o23 (2) (by decide)).trans h2
  have h3 := (o23 (3) (by decide)).trans h3
  have h4 := (o23 (4) (by decide)).trans h4
  have h5 := (o23 (5) (by decide)).trans h5
  have h6 := (o23 (6) (by decide)).trans h6
  have h7 := (o23 (7) (by decide)).trans h7
  have h8 := (o23 (8) (by decide)).trans h8
  have h9 := (o23 (9) (by decide)).trans h9
  have h11 := (o23 (11) (by decide)).trans h11
  have h12 := (o23 (12) (by decide)).trans h12
  have h13 := (o23 (13) (by decide)).trans h13
  have h14 := (o23 (14) (by decide)).trans h14
  have h15 := (o23 (15) (by decide)).trans h15
  have h16 := (o23 (16) (by decide)).trans h16
  have hO : ∀ j, j < 1 → F23 j = F j := fun j hj => (o23 j (by omega)).trans (hO j hj)
  refine lv_dup X.1.1 X.1.2.1 dX5_init_89 rfl ?_
  refine lv_iconst (v := nI 3) X.1.1 X.1.2.1 dX5_init_90 (by decide) ?_
  refine sx_new (ci := 2) X hP in_X5_init_X2 tyX2 tyX2_ok lk_X5_init_classLink_RX5_33_RX2 lk_X5_init_instantiable_RX2_10 lk_X5_init_initialized_RX2 rfl (fs := [.int (0), .int (0), .int (0), .int (0), .int (0), .null, .int (0), .int (0), .int (0), .int (0)]) (fun j hj => by rcases (show j = 0 ∨ j = 1 ∨ j = 2 ∨ j = 3 ∨ j = 4 ∨ j = 5 ∨ j = 6 ∨ j = 7 ∨ j = 8 ∨ j = 9 by omega) with rfl | rfl | rfl | rfl | rfl | rfl | rfl | rfl | rfl | rfl <;> rfl) (Nat.le_of_ble_eq_true rfl) (Nat.le_of_ble_eq_true rfl) hs rfl dX5_init_91 (fun F24 H24 e24 o24 hP => ?_)
  have h17 : F24 (17) = ob 2 ([.int (0), .int (0), .int (0), .int (0), .int (0), .null, .int (0), .int (0), .int (0), .int (0)]) := e24
  have h1 := (o24 (1) (by decide)).trans h1
  have h2 := (o24 (2) (by decide)).trans h2
  have h3 := (o24 (3) (by decide)).trans h3
  have h4 := (o24 (4) (by decide)).trans h4
  have h5 := (o24 (5) (by decide)).trans h5
  have h6 := (o24 (6) (by decide)).trans h6
  have h7 := (o24 (7) (by decide)).trans h7
  have h8 := (o24 (8) (by decide)).trans h8
  have h9 := (o24 (9) (by decide)).trans h9
  have h10 := (o24 (10) (by decide)).trans h10
  have h11 := (o24 (11) (by decide)).trans h11
  have h12 := (o24 (12) (by decide)).trans h12
  have h13 := (o24 (13) (by decide)).trans h13
  have h14 := (o24 (14) (by decide)).trans h14
  have h15 := (o24 (15) (by decide)).trans h15
  have h16 := (o24 (16) (by decide)).trans h16
  have hO : ∀ j, j < 1 → F24 j = F j := fun j hj => (o24 j (by omega)).trans (hO j hj)
  refine lv_dup X.1.1 X.1.2.1 dX5_init_94 rfl ?_
  refine sx_cni (As := []) (rest := rf G 17 :: .int (nI 3) :: rf G 10 :: rf G 10 :: rf G 1 :: []) X (mX2_init l (n := 18) (ca := 17) (by decide) h17) gX5_init_X2_init_n35 rfl X.2.2.2.2.2.1 lk_X5_init_initialized_RX2 lk_X5_init_instanceMethod_yX2_init rfl ys_X2_init ⟨Nat.le_of_ble_eq_true rfl, Nat.le_of_ble_eq_true rfl⟩ hl.1 rfl (Nat.le_of_ble_eq_true rfl) dX5_init_95 ⟨Nat.le_of_ble_eq_true rfl, Nat.le_of_ble_eq_true rfl⟩ hs rfl hP (fun F25 H25 l25 hp hP => ?_)
  obtain ⟨e25, f25, o25⟩ := hp
  have h1 := (o25 (1) (by decide)).trans h1
  have h2 := (o25 (2) (by decide)).trans h2
  have h3 := (o25 (3) (by decide)).trans h3
  have h4 := (o25 (4) (by decide)).trans h4
  have h5 := (o25 (5) (by decide)).trans h5
  have h6 := (o25 (6) (by decide)).trans h6
  have h7 := (o25 (7) (by decide)).trans h7
  have h8 := (o25 (8) (by decide)).trans h8
  have h9 := (o25 (9) (by decide)).trans h9
  have h10 := (o25 (10) (by decide)).trans h10
  have h11 := (o25 (11) (by decide)).trans h11
  have h12 := (o25 (12) (by decide)).trans h12
  have h13 := (o25 (13) (by decide)).trans h13
  have h14 := (o25 (14) (by decide)).trans h14
  have h15 := (o25 (15) (by decide)).trans h15
  have h16 := (o25 (16) (by decide)).trans h16
  have h17 : F25 (17) = ob 2 ([.int (0), .int (0), .int (0), .int (0), .int (0), rf G 18, .int (0), .int (0), .int (0), .int (0)]) := e25
  have h18 : F25 (18) = rI G (4) (fun _ => 0) := f25
  have hO : ∀ j, j < 1 → F25 j = F j := fun j hj => (o25 j (by omega)).trans (hO j hj)
  refine sx_kast X hP h10 (by decide) (3) (by decide) (by decide) h17 (by decide) dX5_init_98 (fun F26 H26 l26 e26 o26 hP => ?_)
  have h10 : F26 (10) = rK G (4) (va_up (va_up (va_up (va_up (fun _ => none) (0) (some (sx_b G + (11)))) (1) (some (sx_b G + (13)))) (2) (some (sx_b G + (15)))) (3) (some (sx_b G + (17)))) := e26
  have h1 := (o26 (1) (by decide)).trans h1
  have h2 := (o26 (2) (by decide)).trans h2
  have h3 := (o26 (3) (by decide)).trans h3
  have h4 := (o26 (4) (by decide)).trans h4
  have h5 := (o26 (5) (by decide)).trans h5
  have h6 := (o26 (6) (by decide)).trans h6
  have h7 := (o26 (7) (by decide)).trans h7
  have h8 := (o26 (8) (by decide)).trans h8
  have h9 := (o26 (9) (by decide)).trans h9
  have h11 := (o26 (11) (by decide)).trans h11
  have h12 := (o26 (12) (by decide)).trans h12
  have h13 := (o26 (13) (by decide)).trans h13
  have h14 := (o26 (14) (by decide)).trans h14
  have h15 := (o26 (15) (by decide)).trans h15
  have h16 := (o26 (16) (by decide)).trans h16
  have h17 := (o26 (17) (by decide)).trans h17
  have h18 := (o26 (18) (by decide)).trans h18
  have hO : ∀ j, j < 1 → F26 j = F j := fun j hj => (o26 j (by omega)).trans (hO j hj)
  refine sx_putF X hP in_X5_init_X5 tyX5 tyX5_ok nmX5 h1 (by decide) rfl 5 (by decide) lk_X5_init_fieldLink_RX5_36_RaceWatch_World_cells_LRaceWatch_Kept rfl rfl rfl rfl rfl (Nat.le_of_ble_eq_true rfl) dX5_init_99 (fun F27 H27 l27 e27 o27 hP => ?_)
  have h1 : F27 (1) = ob 5 ([rf G 2, rf G 3, rf G 4, rf G 6, rf G 8, rf G 10, .null]) := e27
  have h2 := (o27 (2) (by decide)).trans h2
  have h3 := (o27 (3) (by decide)).trans h3
  have h4 := (o27 (4) (by decide)).trans h4
  have h5 := (o27 (5) (by decide)).trans h5
  have h6 := (o27 (6) (by decide)).trans h6
  have h7 := (o27 (7) (by decide)).trans h7
  have h8 := (o27 (8) (by decide)).trans h8
  have h9 := (o27 (9) (by decide)).trans h9
  have h10 := (o27 (10) (by decide)).trans h10
  have h11 := (o27 (11) (by decide)).trans h11
  have h12 := (o27 (12) (by decide)).trans h12
  have h13 := (o27 (13) (by decide)).trans h13
  have h14 := (o27 (14) (by decide)).trans h14
  have h15 := (o27 (15) (by decide)).trans h15
  have h16 := (o27 (16) (by decide)).trans h16
  have h17 := (o27 (17) (by decide)).trans h17
  have h18 := (o27 (18) (by decide)).trans h18
  have hO : ∀ j, j < 1 → F27 j = F j := fun j hj => (o27 j (by omega)).trans (hO j hj)
  refine lv_aload_n X.1.1 X.1.2.1 dX5_init_102 rfl (lv_at hl 0 rfl) ?_
  refine sx_new (ci := 3) X hP in_X5_init_X3 tyX3 tyX3_ok lk_X5_init_classLink_RX5_40_RX3 lk_X5_init_instantiable_RX3_8 lk_X5_init_initialized_RX3 rfl (fs := [.int (0), .null, .null, .null, .null, .null, .null, .null]) (fun j hj => by rcases (show j = 0 ∨ j = 1 ∨ j = 2 ∨ j = 3 ∨ j = 4 ∨ j = 5 ∨ j = 6 ∨ j = 7 by omega) with rfl | rfl | rfl | rfl | rfl | rfl | rfl | rfl <;> rfl) (Nat.le_of_ble_eq_true rfl) (Nat.le_of_ble_eq_true rfl) hs rfl dX5_init_103 (fun F28 H28 e28 o28 hP => ?_)
  have h19 : F28 (19) = ob 3 ([.int (0), .null, .null, .null, .null, .null, .null, .null]) := e28
  have h1 := (o28 (1) (by decide)).trans h1
  have h2 := (o28 (2) (by decide)).trans h2
  have h3 := (o28 (3) (by decide)).trans h3
  have h4 := (o28 (4) (by decide)).trans h4
  have h5 := (o28 (5) (by decide)).trans h5
  have h6 := (o28 (6) (by decide)).trans h6
  have h7 := (o28 (7) (by decide)).trans h7
  have h8 := (o28 (8) (by decide)).trans h8
  have h9 := (o28 (9) (by decide)).trans h9
  have h10 := (o28 (10) (by decide)).trans h10
  have h11 := (o28 (11) (by decide)).trans h11
  have h12 := (o28 (12) (by decide)).trans h12
  have h13 := (o28 (13) (by decide)).trans h13
  have h14 := (o28 (14) (by decide)).trans h14
  have h15 := (o28 (15) (by decide)).trans h15
  have h16 := (o28 (16) (by decide)).trans h16
  have h17 := (o28 (17) (by decide)).trans h17
  have h18 := (o28 (18) (by decide)).trans h18
  have hO : ∀ j, j < 1 → F28 j = F j := fun j hj => (o28 j (by omega)).trans (hO j hj)
  refine lv_dup X.1.1 X.1.2.1 dX5_init_106 rfl ?_
  refine sx_cni (As := []) (rest := rf G 19 :: rf G 1 :: []) X (mX3_init_19 l h19) gX5_init_X3_init_n42 rfl X.2.2.2.2.2.2.1 lk_X5_init_initialized_RX3 lk_X5_init_instanceMethod_yX3_init rfl ys_X3_init ⟨Nat.le_of_ble_eq_true rfl, Nat.le_of_ble_eq_true rfl⟩ hl.1 rfl (Nat.le_of_ble_eq_true rfl) dX5_init_107 ⟨Nat.le_of_ble_eq_true rfl, Nat.le_of_ble_eq_true rfl⟩ hs rfl hP (fun F29 H29 l29 hp hP => ?_)
  obtain ⟨e29_0, e29_1, e29_2, e29_3, e29_4, e29_5, e29_6, e29_7, e29_8, o29⟩ := hp
  have h1 := (o29 (1) (by decide)).trans h1
  have h2 := (o29 (2) (by decide)).trans h2
  have h3 := (o29 (3) (by decide)).trans h3
  have h4 := (o29 (4) (by decide)).trans h4
  have h5 := (o29 (5) (by decide)).trans h5
  have h6 := (o29 (6) (by decide)).trans h6
  have h7 := (o29 (7) (by decide)).trans h7
  have h8 := (o29 (8) (by decide)).trans h8
  have h9 := (o29 (9) (by decide)).trans h9
  have h10 := (o29 (10) (by decide)).trans h10
  have h11 := (o29 (11) (by decide)).trans h11
  have h12 := (o29 (12) (by decide)).trans h12
  have h13 := (o29 (13) (by decide)).trans h13
  have h14 := (o29 (14) (by decide)).trans h14
  have h15 := (o29 (15) (by decide)).trans h15
  have h16 := (o29 (16) (by decide)).trans h16
  have h17 := (o29 (17) (by decide)).trans h17
  have h18 := (o29 (18) (by decide)).trans h18
  have h19 : F29 (19) = ob 3 ([.int (0), rf G 20, rf G 21, rf G 22, rf G 23, rf G 24, rf G 26, rf G 27]) := e29_0
  have h20 : F29 (20) = rI G (160) (fun _ => 0) := e29_1
  have h21 : F29 (21) = rI G (160) (fun _ => 0) := e29_2
  have h22 : F29 (22) = rI G (160) (fun _ => 0) := e29_3
  have h23 : F29 (23) = rI G (160) (fun _ => 0) := e29_4
  have h24 : F29 (24) = ob 1 ([.int (nI 160), rf G 25]) := e29_5
  have h25 : F29 (25) = rI G (640) (fun _ => 0) := e29_6
  have h26 : F29 (26) = rI G (160) (fun _ => 0) := e29_7
  have h27 : F29 (27) = rI G (12) (fun _ => 0) := e29_8
  have hO : ∀ j, j < 1 → F29 j = F j := fun j hj => (o29 j (by omega)).trans (hO j hj)
  refine sx_putF X hP in_X5_init_X5 tyX5 tyX5_ok nmX5 h1 (by decide) rfl 6 (by decide) lk_X5_init_fieldLink_RX5_43_RaceWatch_World_log_LRaceWatch_Log rfl rfl rfl rfl rfl (Nat.le_of_ble_eq_true rfl) dX5_init_110 (fun F30 H30 l30 e30 o30 hP => ?_)
  have h1 : F30 (1) = ob 5 ([rf G 2, rf G 3, rf G 4, rf G 6, rf G 8, rf G 10, rf G 19]) := e30
  have h2 := (o30 (2) (by decide)).trans h2
  have h3 := (o30 (3) (by decide)).trans h3
  have h4 := (o30 (4) (by decide)).trans h4
  have h5 := (o30 (5) (by decide)).trans h5
  have h6 := (o30 (6) (by decide)).trans h6
  have h7 := (o30 (7) (by decide)).trans h7
  have h8 := (o30 (8) (by decide)).trans h8
  have h9 := (o30 (9) (by decide)).trans h9
  have h10 := (o30 (10) (by decide)).trans h10
  have h11 := (o30 (11) (by decide)).trans h11
  have h12 := (o30 (12) (by decide)).trans h12
  have h13 := (o30 (13) (by decide)).trans h13
  have h14 := (o30 (14) (by decide)).trans h14
  have h15 := (o30 (15) (by decide)).trans h15
  have h16 := (o30 (16) (by decide)).trans h16
  have h17 := (o30 (17) (by decide)).trans h17
  have h18 := (o30 (18) (by decide)).trans h18
  have h19 := (o30 (19) (by decide)).trans h19
  have h20 := (o30 (20) (by decide)).trans h20
  have h21 := (o30 (21) (by decide)).trans h21
  have h22 := (o30 (22) (by decide)).trans h22
  have h23 := (o30 (23) (by decide)).trans h23
  have h24 := (o30 (24) (by decide)).trans h24
  have h25 := (o30 (25) (by decide)).trans h25
  have h26 := (o30 (26) (by decide)).trans h26
  have h27 := (o30 (27) (by decide)).trans h27
  have hO : ∀ j, j < 1 → F30 j = F j := fun j hj => (o30 j (by omega)).trans (hO j hj)
  refine lv_aload_n X.1.1 X.1.2.1 dX5_init_113 rfl (lv_at hl 0 rfl) ?_
  have hS : WS G F30 1 := ⟨_, _, _, _, _, _, h1, h2, h3, h4, h5, h6, h7, h8, h9, h10, fun j hj => by rcases (show j = 0 ∨ j = 1 ∨ j = 2 ∨ j = 3 by omega) with rfl | rfl | rfl | rfl <;> rfl, fun c hc => by rcases (show c = 0 ∨ c = 1 ∨ c = 2 ∨ c = 3 by omega) with rfl | rfl | rfl | rfl; exact ⟨_, _, _, _, _, _, _, _, _, _, h11, h12⟩; exact ⟨_, _, _, _, _, _, _, _, _, _, h13, h14⟩; exact ⟨_, _, _, _, _, _, _, _, _, _, h15, h16⟩; exact ⟨_, _, _, _, _, _, _, _, _, _, h17, h18⟩, ⟨_, _, _, _, _, _, _, _, _, h19, h20, h21, h22, h23, h24, h25, h26, h27⟩⟩
  refine sx_cvV (As := []) (rest := []) X (mX5_begin l (B := 1) (n := 28) (w := w) (by decide) hS) gX5_init_X5_begin rfl yv_X5_begin ⟨Nat.le_of_ble_eq_true rfl, Nat.le_of_ble_eq_true rfl⟩ h1 (by decide) rfl rfl hl.1 rfl (Nat.le_of_ble_eq_true rfl) dX5_init_114 ⟨Nat.le_of_ble_eq_true rfl, Nat.le_of_ble_eq_true rfl⟩ hs rfl hP (fun F31 H31 l31 hp hP => ?_)
  obtain ⟨hW1, o31⟩ := hp
  have hO : ∀ j, j < 1 → F31 j = F j := fun j hj => (o31 j (by omega)).trans (hO j hj)
  rw [hQ]
  exact sx_vret X rfl hs rfl hP dX5_init_117 (⟨hW1, hO⟩)
set_option maxHeartbeats 800000 in
set_option maxRecDepth 100000 in
theorem mX5_init_29 {G : sx_G} (l : Launch) {F : Nat → va_E} {w : Nat → Int32}  (h29 : F (29) = ob 5 ([.null, .null, .null, .null, .null, .null, .null])) : sx_V G l yX5_init wsX5_init rmX5_init [rf G 29] (30) F (56) (fun F1 => WV G F1 (iniF w) 0 29 ∧ ∀ j, j < 29 → F1 j = F j) := by
  refine sx_enter (cc := cX5_init) (maxL := 1) (ret := none) (own := RX5) (nm := "<init>") (by decide) rfl rfl rfl (Nat.le_of_ble_eq_true rfl) ?_
  intro pp ee ss mm args below meth kc ls Q hQ X hs hP hl
  have hl : lv_has ls 1 [(0, rf G 29)] := hl
  have hO : ∀ j, j < 29 → F j = F j := fun _ _ => rfl
  refine lv_aload_n X.1.1 X.1.2.1 dX5_init_0 rfl (lv_at hl 0 rfl) ?_
  refine sx_obj X lk_X5_init_methodLink_RX5_3_objectInit lk_X5_init_instanceMethod_objectInit lk_X5_init_code_objectInit_0xb1_1_none hl.1 dX5_init_1 (Nat.le_of_ble_eq_true rfl) (Nat.le_of_ble_eq_true rfl) ?_
  refine lv_aload_n X.1.1 X.1.2.1 dX5_init_4 rfl (lv_at hl 0 rfl) ?_
  refine lv_iconst (v := nI 4) X.1.1 X.1.2.1 dX5_init_5 (by decide) ?_
  refine sx_newi X hP 4 lk_X5_init_arrayClass_int (by decide) (Nat.le_of_ble_eq_true rfl) (Nat.le_of_ble_eq_true rfl) hs rfl dX5_init_6 (fun F1 H1 e1 o1 hP => ?_)
  have h30 : F1 (30) = rI G (4) (fun _ => 0) := e1
  have h29 := (o1 (29) (by decide)).trans h29
  have hO : ∀ j, j < 29 → F1 j = F j := fun j hj => (o1 j (by omega)).trans (hO j hj)
  refine sx_putF X hP in_X5_init_X5 tyX5 tyX5_ok nmX5 h29 (by decide) rfl 0 (by decide) lk_X5_init_fieldLink_RX5_9_RaceWatch_World_states_I rfl rfl rfl rfl rfl (Nat.le_of_ble_eq_true rfl) dX5_init_8 (fun F2 H2 l2 e2 o2 hP => ?_)
  have h29 : F2 (29) = ob 5 ([rf G 30, .null, .null, .null, .null, .null, .null]) := e2
  have h30 := (o2 (30) (by decide)).trans h30
  have hO : ∀ j, j < 29 → F2 j = F j := fun j hj => (o2 j (by omega)).trans (hO j hj)
  refine lv_aload_n X.1.1 X.1.2.1 dX5_init_11 rfl (lv_at hl 0 rfl) ?_
  refine lv_iconst (v := nI 3) X.1.1 X.1.2.1 dX5_init_12 (by decide) ?_
  refine sx_newi X hP 3 lk_X5_init_arrayClass_int (by decide) (Nat.le_of_ble_eq_true rfl) (Nat.le_of_ble_eq_true rfl) hs rfl dX5_init_13 (fun F3 H3 e3 o3 hP => ?_)
  have h31 : F3 (31) = rI G (3) (fun _ => 0) := e3
  have h29 := (o3 (29) (by decide)).trans h29
  have h30 := (o3 (30) (by decide)).trans h30
  have hO : ∀ j, j < 29 → F3 j = F j := fun j hj => (o3 j (by omega)).trans (hO j hj)
  refine sx_putF X hP in_X5_init_X5 tyX5 tyX5_ok nmX5 h29 (by decide) rfl 1 (by decide) lk_X5_init_fieldLink_RX5_15_RaceWatch_World_holders_I rfl rfl rfl rfl rfl (Nat.le_of_ble_eq_true rfl) dX5_init_15 (fun F4 H4 l4 e4 o4 hP => ?_)
  have h29 : F4 (29) = ob 5 ([rf G 30, rf G 31, .null, .null, .null, .null, .null]) := e4
  have h30 := (o4 (30) (by decide)).trans h30
  have h31 := (o4 (31) (by decide)).trans h31
  have hO : ∀ j, j < 29 → F4 j = F j := fun j hj => (o4 j (by omega)).trans (hO j hj)
  refine lv_aload_n X.1.1 X.1.2.1 dX5_init_18 rfl (lv_at hl 0 rfl) ?_
  refine sx_new (ci := 1) X hP in_X5_init_X1 tyX1 tyX1_ok lk_X5_init_classLink_RX5_18_RX1 lk_X5_init_instantiable_RX1_2 lk_X5_init_initialized_RX1 rfl (fs := [.int (0), .null]) (fun j hj => by rcases (show j = 0 ∨ j = 1 by omega) with rfl | rfl <;> rfl) (Nat.le_of_ble_eq_true rfl) (Nat.le_of_ble_eq_true rfl) hs rfl dX5_init_19 (fun F5 H5 e5 o5 hP => ?_)
  have h32 : F5 (32) = ob 1 ([.int (0), .null]) := e5
  have h29 := (o5 (29) (by decide)).trans h29
  have h30 := (o5 (30) (by decide)).trans h30
  have h31 := (o5 (31) (by decide)).trans h31
  have hO : ∀ j, j < 29 → F5 j = F j := fun j hj => (o5 j (by omega)).trans (hO j hj)
  refine lv_dup X.1.1 X.1.2.1 dX5_init_22 rfl ?_
  refine lv_iconst (v := nI 4) X.1.1 X.1.2.1 dX5_init_23 (by decide) ?_
  refine sx_ci (As := [.int (nI 4)]) (rest := rf G 32 :: rf G 29 :: []) X (mX1_init_4 l (n := 33) (ca := 32) (by decide) h32) gX5_init_X1_init rfl lk_X5_init_initialized_RX1 lk_X5_init_methodLink_RX5_20_yX1_init lk_X5_init_instanceMethod_yX1_init rfl ys_X1_init ⟨Nat.le_of_ble_eq_true rfl, Nat.le_of_ble_eq_true rfl⟩ hl.1 rfl (Nat.le_of_ble_eq_true rfl) dX5_init_24 ⟨Nat.le_of_ble_eq_true rfl, Nat.le_of_ble_eq_true rfl⟩ hs rfl hP (fun F6 H6 l6 hp hP => ?_)
  obtain ⟨e6, f6, o6⟩ := hp
  have h29 := (o6 (29) (by decide)).trans h29
  have h30 := (o6 (30) (by decide)).trans h30
  have h31 := (o6 (31) (by decide)).trans h31
  have h32 : F6 (32) = ob 1 ([.int (nI 4), rf G 33]) := e6
  have h33 : F6 (33) = rI G (16) (fun _ => 0) := f6
  have hO : ∀ j, j < 29 → F6 j = F j := fun j hj => (o6 j (by omega)).trans (hO j hj)
  refine sx_putF X hP in_X5_init_X5 tyX5 tyX5_ok nmX5 h29 (by decide) rfl 2 (by decide) lk_X5_init_fieldLink_RX5_23_RaceWatch_World_ofThreads_LRaceWatch_Clocks rfl rfl rfl rfl rfl (Nat.le_of_ble_eq_true rfl) dX5_init_27 (fun F7 H7 l7 e7 o7 hP => ?_)
  have h29 : F7 (29) = ob 5 ([rf G 30, rf G 31, rf G 32, .null, .null, .null, .null]) := e7
  have h30 := (o7 (30) (by decide)).trans h30
  have h31 := (o7 (31) (by decide)).trans h31
  have h32 := (o7 (32) (by decide)).trans h32
  have h33 := (o7 (33) (by decide)).trans h33
  have hO : ∀ j, j < 29 → F7 j = F j := fun j hj => (o7 j (by omega)).trans (hO j hj)
  refine lv_aload_n X.1.1 X.1.2.1 dX5_init_30 rfl (lv_at hl 0 rfl) ?_
  refine sx_new (ci := 1) X hP in_X5_init_X1 tyX1 tyX1_ok lk_X5_init_classLink_RX5_18_RX1 lk_X5_init_instantiable_RX1_2 lk_X5_init_initialized_RX1 rfl (fs := [.int (0), .null]) (fun j hj => by rcases (show j = 0 ∨ j = 1 by omega) with rfl | rfl <;> rfl) (Nat.le_of_ble_eq_true rfl) (Nat.le_of_ble_eq_true rfl) hs rfl dX5_init_31 (fun F8 H8 e8 o8 hP => ?_)
  have h34 : F8 (34) = ob 1 ([.int (0), .null]) := e8
  have h29 := (o8 (29) (by decide)).trans h29
  have h30 := (o8 (30) (by decide)).trans h30
  have h31 := (o8 (31) (by decide)).trans h31
  have h32 := (o8 (32) (by decide)).trans h32
  have h33 := (o8 (33) (by decide)).trans h33
  have hO : ∀ j, j < 29 → F8 j = F j := fun j hj => (o8 j (by omega)).trans (hO j hj)
  refine lv_dup X.1.1 X.1.2.1 dX5_init_34 rfl ?_
  refine lv_iconst (v := nI 3) X.1.1 X.1.2.1 dX5_init_35 (by decide) ?_
  refine sx_ci (As := [.int (nI 3)]) (rest := rf G 34 :: rf G 29 :: []) X (mX1_init_3 l (n := 35) (ca := 34) (by decide) h34) gX5_init_X1_init rfl lk_X5_init_initialized_RX1 lk_X5_init_methodLink_RX5_20_yX1_init lk_X5_init_instanceMethod_yX1_init rfl ys_X1_init ⟨Nat.le_of_ble_eq_true rfl, Nat.le_of_ble_eq_true rfl⟩ hl.1 rfl (Nat.le_of_ble_eq_true rfl) dX5_init_36 ⟨Nat.le_of_ble_eq_true rfl, Nat.le_of_ble_eq_true rfl⟩ hs rfl hP (fun F9 H9 l9 hp hP => ?_)
  obtain ⟨e9, f9, o9⟩ := hp
  have h29 := (o9 (29) (by decide)).trans h29
  have h30 := (o9 (30) (by decide)).trans h30
  have h31 := (o9 (31) (by decide)).trans h31
  have h32 := (o9 (32) (by decide)).trans h32
  have h33 := (o9 (33) (by decide)).trans h33
  have h34 : F9 (34) = ob 1 ([.int (nI 3), rf G 35]) := e9
  have h35 : F9 (35) = rI G (12) (fun _ => 0) := f9
  have hO : ∀ j, j < 29 → F9 j = F j := fun j hj => (o9 j (by omega)).trans (hO j hj)
  refine sx_putF X hP in_X5_init_X5 tyX5 tyX5_ok nmX5 h29 (by decide) rfl 3 (by decide) lk_X5_init_fieldLink_RX5_27_RaceWatch_World_ofLocks_LRaceWatch_Clocks rfl rfl rfl rfl rfl (Nat.le_of_ble_eq_true rfl) dX5_init_39 (fun F10 H10 l10 e10 o10 hP => ?_)
  have h29 : F10 (29) = ob 5 ([rf G 30, rf G 31, rf G 32, rf G 34, .null, .null, .null]) := e10
  have h30 := (o10 (30) (by decide)).trans h30
  have h31 := (o10 (31) (by decide)).trans h31
  have h32 := (o10 (32) (by decide)).trans h32
  have h33 := (o10 (33) (by decide)).trans h33
  have h34 := (o10 (34) (by decide)).trans h34
  have h35 := (o10 (35) (by decide)).trans h35
  have hO : ∀ j, j < 29 → F10 j = F j := fun j hj => (o10 j (by omega)).trans (hO j hj)
  refine lv_aload_n X.1.1 X.1.2.1 dX5_init_42 rfl (lv_at hl 0 rfl) ?_
  refine sx_new (ci := 1) X hP in_X5_init_X1 tyX1 tyX1_ok lk_X5_init_classLink_RX5_18_RX1 lk_X5_init_instantiable_RX1_2 lk_X5_init_initialized_RX1 rfl (fs := [.int (0), .null]) (fun j hj => by rcases (show j = 0 ∨ j = 1 by omega) with rfl | rfl <;> rfl) (Nat.le_of_ble_eq_true rfl) (Nat.le_of_ble_eq_true rfl) hs rfl dX5_init_43 (fun F11 H11 e11 o11 hP => ?_)
  have h36 : F11 (36) = ob 1 ([.int (0), .null]) := e11
  have h29 := (o11 (29) (by decide)).trans h29
  have h30 := (o11 (30) (by decide)).trans h30
  have h31 := (o11 (31) (by decide)).trans h31
  have h32 := (o11 (32) (by decide)).trans h32
  have h33 := (o11 (33) (by decide)).trans h33
  have h34 := (o11 (34) (by decide)).trans h34
  have h35 := (o11 (35) (by decide)).trans h35
  have hO : ∀ j, j < 29 → F11 j = F j := fun j hj => (o11 j (by omega)).trans (hO j hj)
  refine lv_dup X.1.1 X.1.2.1 dX5_init_46 rfl ?_
  refine lv_iconst (v := nI 2) X.1.1 X.1.2.1 dX5_init_47 (by decide) ?_
  refine sx_ci (As := [.int (nI 2)]) (rest := rf G 36 :: rf G 29 :: []) X (mX1_init_2 l (n := 37) (ca := 36) (by decide) h36) gX5_init_X1_init rfl lk_X5_init_initialized_RX1 lk_X5_init_methodLink_RX5_20_yX1_init lk_X5_init_instanceMethod_yX1_init rfl ys_X1_init ⟨Nat.le_of_ble_eq_true rfl, Nat.le_of_ble_eq_true rfl⟩ hl.1 rfl (Nat.le_of_ble_eq_true rfl) dX5_init_48 ⟨Nat.le_of_ble_eq_true rfl, Nat.le_of_ble_eq_true rfl⟩ hs rfl hP (fun F12 H12 l12 hp hP => ?_)
  obtain ⟨e12, f12, o12⟩ := hp
  have h29 := (o12 (29) (by decide)).trans h29
  have h30 := (o12 (30) (by decide)).trans h30
  have h31 := (o12 (31) (by decide)).trans h31
  have h32 := (o12 (32) (by decide)).trans h32
  have h33 := (o12 (33) (by decide)).trans h33
  have h34 := (o12 (34) (by decide)).trans h34
  have h35 := (o12 (35) (by decide)).trans h35
  have h36 : F12 (36) = ob 1 ([.int (nI 2), rf G 37]) := e12
  have h37 : F12 (37) = rI G (8) (fun _ => 0) := f12
  have hO : ∀ j, j < 29 → F12 j = F j := fun j hj => (o12 j (by omega)).trans (hO j hj)
  refine sx_putF X hP in_X5_init_X5 tyX5 tyX5_ok nmX5 h29 (by decide) rfl 4 (by decide) lk_X5_init_fieldLink_RX5_30_RaceWatch_World_ofSeenCells_LRaceWatch_Clocks rfl rfl rfl rfl rfl (Nat.le_of_ble_eq_true rfl) dX5_init_51 (fun F13 H13 l13 e13 o13 hP => ?_)
  have h29 : F13 (29) = ob 5 ([rf G 30, rf G 31, rf G 32, rf G 34, rf G 36, .null, .null]) := e13
  have h30 := (o13 (30) (by decide)).trans h30
  have h31 := (o13 (31) (by decide)).trans h31
  have h32 := (o13 (32) (by decide)).trans h32
  have h33 := (o13 (33) (by decide)).trans h33
  have h34 := (o13 (34) (by decide)).trans h34
  have h35 := (o13 (35) (by decide)).trans h35
  have h36 := (o13 (36) (by decide)).trans h36
  have h37 := (o13 (37) (by decide)).trans h37
  have hO : ∀ j, j < 29 → F13 j = F j := fun j hj => (o13 j (by omega)).trans (hO j hj)
  refine lv_aload_n X.1.1 X.1.2.1 dX5_init_54 rfl (lv_at hl 0 rfl) ?_
  refine lv_iconst (v := nI 4) X.1.1 X.1.2.1 dX5_init_55 (by decide) ?_
  refine sx_newk X hP 4 lk_X5_init_classLink_RX5_33_RX2 (by decide) (Nat.le_of_ble_eq_true rfl) (Nat.le_of_ble_eq_true rfl) hs rfl dX5_init_56 (fun F14 H14 e14 o14 hP => ?_)
  have h38 : F14 (38) = rK G (4) (fun _ => none) := e14
  have h29 := (o14 (29) (by decide)).trans h29
  have h30 := (o14 (30) (by decide)).trans h30
  have h31 := (o14 (31) (by decide)).trans h31
  have h32 := (o14 (32) (by decide)).trans h32
  have h33 := (o14 (33) (by decide)).trans h33
  have h34 := (o14 (34) (by decide)).trans h34
  have h35 := (o14 (35) (by decide)).trans h35
  have h36 := (o14 (36) (by decide)).trans h36
  have h37 := (o14 (37) (by decide)).trans h37
  have hO : ∀ j, j < 29 → F14 j = F j := fun j hj => (o14 j (by omega)).trans (hO j hj)
  refine lv_dup X.1.1 X.1.2.1 dX5_init_59 rfl ?_
  refine lv_iconst (v := nI 0) X.1.1 X.1.2.1 dX5_init_60 (by decide) ?_
  refine sx_new (ci := 2) X hP in_X5_init_X2 tyX2 tyX2_ok lk_X5_init_classLink_RX5_33_RX2 lk_X5_init_instantiable_RX2_10 lk_X5_init_initialized_RX2 rfl (fs := [.int (0), .int (0), .int (0), .int (0), .int (0), .null, .int (0), .int (0), .int (0), .int (0)]) (fun j hj => by rcases (show j = 0 ∨ j = 1 ∨ j = 2 ∨ j = 3 ∨ j = 4 ∨ j = 5 ∨ j = 6 ∨ j = 7 ∨ j = 8 ∨ j = 9 by omega) with rfl | rfl | rfl | rfl | rfl | rfl | rfl | rfl | rfl | rfl <;> rfl) (Nat.le_of_ble_eq_true rfl) (Nat.le_of_ble_eq_true rfl) hs rfl dX5_init_61 (fun F15 H15 e15 o15 hP => ?_)
  have h39 : F15 (39) = ob 2 ([.int (0), .int (0), .int (0), .int (0), .int (0), .null, .int (0), .int (0), .int (0), .int (0)]) := e15
  have h29 := (o15 (29) (by decide)).trans h29
  have h30 := (o15 (30) (by decide)).trans h30
  have h31 := (o15 (31) (by decide)).trans h31
  have h32 := (o15 (32) (by decide)).trans h32
  have h33 := (o15 (33) (by decide)).trans h33
  have h34 := (o15 (34) (by decide)).trans h34
  have h35 := (o15 (35) (by decide)).trans h35
  have h36 := (o15 (36) (by decide)).trans h36
  have h37 := (o15 (37) (by decide)).trans h37
  have h38 := (o15 (38) (by decide)).trans h38
  have hO : ∀ j, j < 29 → F15 j = F j := fun j hj => (o15 j (by omega)).trans (hO j hj)
  refine lv_dup X.1.1 X.1.2.1 dX5_init_64 rfl ?_
  refine sx_cni (As := []) (rest := rf G 39 :: .int (nI 0) :: rf G 38 :: rf G 38 :: rf G 29 :: []) X (mX2_init l (n := 40) (ca := 39) (by decide) h39) gX5_init_X2_init_n35 rfl X.2.2.2.2.2.1 lk_X5_init_initialized_RX2 lk_X5_init_instanceMethod_yX2_init rfl ys_X2_init ⟨Nat.le_of_ble_eq_true rfl, Nat.le_of_ble_eq_true rfl⟩ hl.1 rfl (Nat.le_of_ble_eq_true rfl) dX5_init_65 ⟨Nat.le_of_ble_eq_true rfl, Nat.le_of_ble_eq_true rfl⟩ hs rfl hP (fun F16 H16 l16 hp hP => ?_)
  obtain ⟨e16, f16, o16⟩ := hp
  have h29 := (o16 (29) (by decide)).trans h29
  have h30 := (o16 (30) (by decide)).trans h30
  have h31 := (o16 (31) (by decide)).trans h31
  have h32 := (o16 (32) (by decide)).trans h32
  have h33 := (o16 (33) (by decide)).trans h33
  have h34 := (o16 (34) (by decide)).trans h34
  have h35 := (o16 (35) (by decide)).trans h35
  have h36 := (o16 (36) (by decide)).trans h36
  have h37 := (o16 (37) (by decide)).trans h37
  have h38 := (o16 (38) (by decide)).trans h38
  have h39 : F16 (39) = ob 2 ([.int (0), .int (0), .int (0), .int (0), .int (0), rf G 40, .int (0), .int (0), .int (0), .int (0)]) := e16
  have h40 : F16 (40) = rI G (4) (fun _ => 0) := f16
  have hO : ∀ j, j < 29 → F16 j = F j := fun j hj => (o16 j (by omega)).trans (hO j hj)
  refine sx_kast X hP h38 (by decide) (0) (by decide) (by decide) h39 (by decide) dX5_init_68 (fun F17 H17 l17 e17 o17 hP => ?_)
  have h38 : F17 (38) = rK G (4) (va_up (fun _ => none) (0) (some (sx_b G + (39)))) := e17
  have h29 := (o17 (29) (by decide)).trans h29
  have h30 := (o17 (30) (by decide)).trans h30
  have h31 := (o17 (31) (by decide)).trans h31
  have h32 := (o17 (32) (by decide)).trans h32
  have h33 := (o17 (33) (by decide)).trans h33
  have h34 := (o17 (34) (by decide)).trans h34
  have h35 := (o17 (35) (by decide)).trans h35
  have h36 := (o17 (36) (by decide)).trans h36
  have h37 := (o17 (37) (by decide)).trans h37
  have h39 := (o17 (39) (by decide)).trans h39
  have h40 := (o17 (40) (by decide)).trans h40
  have hO : ∀ j, j < 29 → F17 j = F j := fun j hj => (o17 j (by omega)).trans (hO j hj)
  refine lv_dup X.1.1 X.1.2.1 dX5_init_69 rfl ?_
  refine lv_iconst (v := nI 1) X.1.1 X.1.2.1 dX5_init_70 (by decide) ?_
  refine sx_new (ci := 2) X hP in_X5_init_X2 tyX2 tyX2_ok lk_X5_init_classLink_RX5_33_RX2 lk_X5_init_instantiable_RX2_10 lk_X5_init_initialized_RX2 rfl (fs := [.int (0), .int (0), .int (0), .int (0), .int (0), .null, .int (0), .int (0), .int (0), .int (0)]) (fun j hj => by rcases (show j = 0 ∨ j = 1 ∨ j = 2 ∨ j = 3 ∨ j = 4 ∨ j = 5 ∨ j = 6 ∨ j = 7 ∨ j = 8 ∨ j = 9 by omega) with rfl | rfl | rfl | rfl | rfl | rfl | rfl | rfl | rfl | rfl <;> rfl) (Nat.le_of_ble_eq_true rfl) (Nat.le_of_ble_eq_true rfl) hs rfl dX5_init_71 (fun F18 H18 e18 o18 hP => ?_)
  have h41 : F18 (41) = ob 2 ([.int (0), .int (0), .int (0), .int (0), .int (0), .null, .int (0), .int (0), .int (0), .int (0)]) := e18
  have h29 := (o18 (29) (by decide)).trans h29
  have h30 := (o18 (30) (by decide)).trans h30
  have h31 := (o18 (31) (by decide)).trans h31
  have h32 := (o18 (32) (by decide)).trans h32
  have h33 := (o18 (33) (by decide)).trans h33
  have h34 := (o18 (34) (by decide)).trans h34
  have h35 := (o18 (35) (by decide)).trans h35
  have h36 := (o18 (36) (by decide)).trans h36
  have h37 := (o18 (37) (by decide)).trans h37
  have h38 := (o18 (38) (by decide)).trans h38
  have h39 := (o18 (39) (by decide)).trans h39
  have h40 := (o18 (40) (by decide)).trans h40
  have hO : ∀ j, j < 29 → F18 j = F j := fun j hj => (o18 j (by omega)).trans (hO j hj)
  refine lv_dup X.1.1 X.1.2.1 dX5_init_74 rfl ?_
  refine sx_cni (As := []) (rest := rf G 41 :: .int (nI 1) :: rf G 38 :: rf G 38 :: rf G 29 :: []) X (mX2_init l (n := 42) (ca := 41) (by decide) h41) gX5_init_X2_init_n35 rfl X.2.2.2.2.2.1 lk_X5_init_initialized_RX2 lk_X5_init_instanceMethod_yX2_init rfl ys_X2_init ⟨Nat.le_of_ble_eq_true rfl, Nat.le_of_ble_eq_true rfl⟩ hl.1 rfl (Nat.le_of_ble_eq_true rfl) dX5_init_75 ⟨Nat.le_of_ble_eq_true rfl, Nat.le_of_ble_eq_true rfl⟩ hs rfl hP (fun F19 H19 l19 hp hP => ?_)
  obtain ⟨e19, f19, o19⟩ := hp
  have h29 := (o19 (29) (by decide)).trans h29
  have h30 := (o19 (30) (by decide)).trans h30
  have h31 := (o19 (31) (by decide)).trans h31
  have h32 := (o19 (32) (by decide)).trans h32
  have h33 := (o19 (33) (by decide)).trans h33
  have h34 := (o19 (34) (by decide)).trans h34
  have h35 := (o19 (35) (by decide)).trans h35
  have h36 := (o19 (36) (by decide)).trans h36
  have h37 := (o19 (37) (by decide)).trans h37
  have h38 := (o19 (38) (by decide)).trans h38
  have h39 := (o19 (39) (by decide)).trans h39
  have h40 := (o19 (40) (by decide)).trans h40
  have h41 : F19 (41) = ob 2 ([.int (0), .int (0), .int (0), .int (0), .int (0), rf G 42, .int (0), .int (0), .int (0), .int (0)]) := e19
  have h42 : F19 (42) = rI G (4) (fun _ => 0) := f19
  have hO : ∀ j, j < 29 → F19 j = F j := fun j hj => (o19 j (by omega)).trans (hO j hj)
  refine sx_kast X hP h38 (by decide) (1) (by decide) (by decide) h41 (by decide) dX5_init_78 (fun F20 H20 l20 e20 o20 hP => ?_)
  have h38 : F20 (38) = rK G (4) (va_up (va_up (fun _ => none) (0) (some (sx_b G + (39)))) (1) (some (sx_b G + (41)))) := e20
  have h29 := (o20 (29) (by decide)).trans h29
  have h30 := (o20 (30) (by decide)).trans h30
  have h31 := (o20 (31) (by decide)).trans h31
  have h32 := (o20 (32) (by decide)).trans h32
  have h33 := (o20 (33) (by decide)).trans h33
  have h34 := (o20 (34) (by decide)).trans h34
  have h35 := (o20 (35) (by decide)).trans h35
  have h36 := (o20 (36) (by decide)).trans h36
  have h37 := (o20 (37) (by decide)).trans h37
  have h39 := (o20 (39) (by decide)).trans h39
  have h40 := (o20 (40) (by decide)).trans h40
  have h41 := (o20 (41) (by decide)).trans h41
  have h42 := (o20 (42) (by decide)).trans h42
  have hO : ∀ j, j < 29 → F20 j = F j := fun j hj => (o20 j (by omega)).trans (hO j hj)
  refine lv_dup X.1.1 X.1.2.1 dX5_init_79 rfl ?_
  refine lv_iconst (v := nI 2) X.1.1 X.1.2.1 dX5_init_80 (by decide) ?_
  refine sx_new (ci := 2) X hP in_X5_init_X2 tyX2 tyX2_ok lk_X5_init_classLink_RX5_33_RX2 lk_X5_init_instantiable_RX2_10 lk_X5_init_initialized_RX2 rfl (fs := [.int (0), .int (0), .int (0), .int (0), .int (0), .null, .int (0), .int (0), .int (0), .int (0)]) (fun j hj => by rcases (show j = 0 ∨ j = 1 ∨ j = 2 ∨ j = 3 ∨ j = 4 ∨ j = 5 ∨ j = 6 ∨ j = 7 ∨ j = 8 ∨ j = 9 by omega) with rfl | rfl | rfl | rfl | rfl | rfl | rfl | rfl | rfl | rfl <;> rfl) (Nat.le_of_ble_eq_true rfl) (Nat.le_of_ble_eq_true rfl) hs rfl dX5_init_81 (fun F21 H21 e21 o21 hP => ?_)
  have h43 : F21 (43) = ob 2 ([.int (0), .int (0), .int (0), .int (0), .int (0), .null, .int (0), .int (0), .int (0), .int (0)]) := e21
  have h29 := (o21 (29) (by decide)).trans h29
  have h30 := (o21 (30) (by decide)).trans h30
  have h31 := (o21 (31) (by decide)).trans h31
  have h32 := (o21 (32) (by decide)).trans h32
  have h33 := (o21 (33) (by decide)).trans h33
  have h34 := (o21 (34) (by decide)).trans h34
  have h35 := (o21 (35) (by decide)).trans h35
  have h36 := (o21 (36) (by decide)).trans h36
  have h37 := (o21 (37) (by decide)).trans h37
  have h38 := (o21 (38) (by decide)).trans h38
  have h39 := (o21 (39) (by decide)).trans h39
  have h40 := (o21 (40) (by decide)).trans h40
  have h41 := (o21 (41) (by decide)).trans h41
  have h42 := (o21 (42) (by decide)).trans h42
  have hO : ∀ j, j < 29 → F21 j = F j := fun j hj => (o21 j (by omega)).trans (hO j hj)
  refine lv_dup X.1.1 X.1.2.1 dX5_init_84 rfl ?_
  refine sx_cni (As := []) (rest := rf G 43 :: .int (nI 2) :: rf G 38 :: rf G 38 :: rf G 29 :: []) X (mX2_init l (n := 44) (ca := 43) (by decide) h43) gX5_init_X2_init_n35 rfl X.2.2.2.2.2.1 lk_X5_init_initialized_RX2 lk_X5_init_instanceMethod_yX2_init rfl ys_X2_init ⟨Nat.le_of_ble_eq_true rfl, Nat.le_of_ble_eq_true rfl⟩ hl.1 rfl (Nat.le_of_ble_eq_true rfl) dX5_init_85 ⟨Nat.le_of_ble_eq_true rfl, Nat.le_of_ble_eq_true rfl⟩ hs rfl hP (fun F22 H22 l22 hp hP => ?_)
  obtain ⟨e22, f22, o22⟩ := hp
  have h29 := (o22 (29) (by decide)).trans h29
  have h30 := (o22 (30) (by decide)).trans h30
  have h31 := (o22 (31) (by decide)).trans h31
  have h32 := (o22 (32) (by decide)).trans h32
  have h33 := (o22 (33) (by decide)).trans h33
  have h34 := (o22 (34) (by decide)).trans h34
  have h35 := (o22 (35) (by decide)).trans h35
  have h36 := (o22 (36) (by decide)).trans h36
  have h37 := (o22 (37) (by decide)).trans h37
  have h38 := (o22 (38) (by decide)).trans h38
  have h39 := (o22 (39) (by decide)).trans h39
  have h40 := (o22 (40) (by decide)).trans h40
  have h41 := (o22 (41) (by decide)).trans h41
  have h42 := (o22 (42) (by decide)).trans h42
  have h43 : F22 (43) = ob 2 ([.int (0), .int (0), .int (0), .int (0), .int (0), rf G 44, .int (0), .int (0), .int (0), .int (0)]) := e22
  have h44 : F22 (44) = rI G (4) (fun _ => 0) := f22
  have hO : ∀ j, j < 29 → F22 j = F j := fun j hj => (o22 j (by omega)).trans (hO j hj)
  refine sx_kast X hP h38 (by decide) (2) (by decide) (by decide) h43 (by decide) dX5_init_88 (fun F23 H23 l23 e23 o23 hP => ?_)
  have h38 : F23 (38) = rK G (4) (va_up (va_up (va_up (fun _ => none) (0) (some (sx_b G + (39)))) (1) (some (sx_b G + (41)))) (2) (some (sx_b G + (43)))) := e23
  have h29 := (o23 (29) (by decide)).trans h29
  have h30 := (o23 (30) (by decide)).trans h30
  have h31 := (o23 (31) (by decide)).trans h31
  have h32 := (o23 (32) (by decide)).trans h32
  have h33 := (o23 (33) (by decide)).trans h33
  have h34 := (o23 (34) (by decide)).trans h34
  have h35 := (o23 (35) (by decide)).trans h35
  have h36 := (o23 (36) (by decide)).trans h36
  have h37 := (o23 (37) (by decide)).trans h37
  have h39 := (o23 (39) (by decide)).trans h39
  have h40 := (o23 (40) (by decide)).trans h40
  have h41 := (o23 (41) (by decide)).trans h41
  have h42 := (o23 (42) (by decide)).trans h42
  have h43 := (o23 (43) (by decide)).trans h43
  have h44 := (o23 (44) (by decide)).trans h44
  have hO : ∀ j, j < 29 → F23 j = F j := fun j hj => (o23 j (by omega)).trans (hO j hj)
  refine lv_dup X.1.1 X.1.2.1 dX5_init_89 rfl ?_
  refine lv_iconst (v := nI 3) X.1.1 X.1.2.1 dX5_init_90 (by decide) ?_
  refine sx_new (ci := 2) X hP in_X5_init_X2 tyX2 tyX2_ok lk_X5_init_classLink_RX5_33_RX2 lk_X5_init_instantiable_RX2_10 lk_X5_init_initialized_RX2 rfl (fs := [.int (0), .int (0), .int (0), .int (0), .int (0), .null, .int (0), .int (0), .int (0), .int (0)]) (fun j hj => by rcases (show j = 0 ∨ j = 1 ∨ j = 2 ∨ j = 3 ∨ j = 4 ∨ j = 5 ∨ j = 6 ∨ j = 7 ∨ j = 8 ∨ j = 9 by omega) with rfl | rfl | rfl | rfl | rfl | rfl | rfl | rfl | rfl | rfl <;> rfl) (Nat.le_of_ble_eq_true rfl) (Nat.le_of_ble_eq_true rfl) hs rfl dX5_init_91 (fun F24 H24 e24 o24 hP => ?_)
  have h45 : F24 (45) = ob 2 ([.int (0), .int (0), .int (0), .int (0), .int (0), .null, .int (0), .int (0), .int (0), .int (0)]) := e24
  have h29 := (o24 (29) (by decide)).trans h29
  have h30 := (o24 (30) (by decide)).trans h30
  have h31 := (o24 (31) (by decide)).trans h31
  have h32 := (o24 (32) (by decide)).trans h32
  have h33 := (o24 (33) (by decide)).trans h33
  have h34 := (o24 (34) (by decide)).trans h34
  have h35 := (o24 (35) (by decide)).trans h35
  have h36 := (o24 (36) (by decide)).trans h36
  have h37 := (o24 (37) (by decide)).trans h37
  have h38 := (o24 (38) (by decide)).trans h38
  have h39 := (o24 (39) (by decide)).trans h39
  have h40 := (o24 (40) (by decide)).trans h40
  have h41 := (o24 (41) (by decide)).trans h41
  have h42 := (o24 (42) (by decide)).trans h42
  have h43 := (o24 (43) (by decide)).trans h43
  have h44 := (o24 (44) (by decide)).trans h44
  have hO : ∀ j, j < 29 → F24 j = F j := fun j hj => (o24 j (by omega)).trans (hO j hj)
  refine lv_dup X.1.1 X.1.2.1 dX5_init_94 rfl ?_
  refine sx_cni (As := []) (rest := rf G 45 :: .int (nI 3) :: rf G 38 :: rf G 38 :: rf G 29 :: []) X (mX2_init l (n := 46) (ca := 45) (by decide) h45) gX5_init_X2_init_n35 rfl X.2.2.2.2.2.1 lk_X5_init_initialized_RX2 lk_X5_init_instanceMethod_yX2_init rfl ys_X2_init ⟨Nat.le_of_ble_eq_true rfl, Nat.le_of_ble_eq_true rfl⟩ hl.1 rfl (Nat.le_of_ble_eq_true rfl) dX5_init_95 ⟨Nat.le_of_ble_eq_true rfl, Nat.le_of_ble_eq_true rfl⟩ hs rfl hP (fun F25 H25 l25 hp hP => ?_)
  obtain ⟨e25, f25, o25⟩ := hp
  have h29 := (o25 (29) (by decide)).trans h29
  have h30 := (o25 (30) (by decide)).trans h30
  have h31 := (o25 (31) (by decide)).trans h31
  have h32 := (o25 (32) (by decide)).trans h32
  have h33 := (o25 (33) (by decide)).trans h33
  have h34 := (o25 (34) (by decide)).trans h34
  have h35 := (o25 (35) (by decide)).trans h35
  have h36 := (o25 (36) (by decide)).trans h36
  have h37 := (o25 (37) (by decide)).trans h37
  have h38 := (o25 (38) (by decide)).trans h38
  have h39 := (o25 (39) (by decide)).trans h39
  have h40 := (o25 (40) (by decide)).trans h40
  have h41 := (o25 (41) (by decide)).trans h41
  have h42 := (o25 (42) (by decide)).trans h42
  have h43 := (o25 (43) (by decide)).trans h43
  have h44 := (o25 (44) (by decide)).trans h44
  have h45 : F25 (45) = ob 2 ([.int (0), .int (0), .int (0), .int (0), .int (0), rf G 46, .int (0), .int (0), .int (0), .int (0)]) := e25
  have h46 : F25 (46) = rI G (4) (fun _ => 0) := f25
  have hO : ∀ j, j < 29 → F25 j = F j := fun j hj => (o25 j (by omega)).trans (hO j hj)
  refine sx_kast X hP h38 (by decide) (3) (by decide) (by decide) h45 (by decide) dX5_init_98 (fun F26 H26 l26 e26 o26 hP => ?_)
  have h38 : F26 (38) = rK G (4) (va_up (va_up (va_up (va_up (fun _ => none) (0) (some (sx_b G + (39)))) (1) (some (sx_b G + (41)))) (2) (some (sx_b G + (43)))) (3) (some (sx_b G + (45)))) := e26
  have h29 := (o26 (29) (by decide)).trans h29
  have h30 := (o26 (30) (by decide)).trans h30
  have h31 := (o26 (31) (by decide)).trans h31
  have h32 := (o26 (32) (by decide)).trans h32
  have h33 := (o26 (33) (by decide)).trans h33
  have h34 := (o26 (34) (by decide)).trans h34
  have h35 := (o26 (35) (by decide)).trans h35
  have h36 := (o26 (36) (by decide)).trans h36
  have h37 := (o26 (37) (by decide)).trans h37
  have h39 := (o26 (39) (by decide)).trans h39
  have h40 := (o26 (40) (by decide)).trans h40
  have h41 := (o26 (41) (by decide)).trans h41
  have h42 := (o26 (42) (by decide)).trans h42
  have h43 := (o26 (43) (by decide)).trans h43
  have h44 := (o26 (44) (by decide)).trans h44
  have h45 := (o26 (45) (by decide)).trans h45
  have h46 := (o26 (46) (by decide)).trans h46
  have hO : ∀ j, j < 29 → F26 j = F j := fun j hj => (o26 j (by omega)).trans (hO j hj)
  refine sx_putF X hP in_X5_init_X5 tyX5 tyX5_ok nmX5 h29 (by decide) rfl 5 (by decide) lk_X5_init_fieldLink_RX5_36_RaceWatch_World_cells_LRaceWatch_Kept rfl rfl rfl rfl rfl (Nat.le_of_ble_eq_true rfl) dX5_init_99 (fun F27 H27 l27 e27 o27 hP => ?_)
  have h29 : F27 (29) = ob 5 ([rf G 30, rf G 31, rf G 32, rf G 34, rf G 36, rf G 38, .null]) := e27
  have h30 := (o27 (30) (by decide)).trans h30
  have h31 := (o27 (31) (by decide)).trans h31
  have h32 := (o27 (32) (by decide)).trans h32
  have h33 := (o27 (33) (by decide)).trans h33
  have h34 := (o27 (34) (by decide)).trans h34
  have h35 := (o27 (35) (by decide)).trans h35
  have h36 := (o27 (36) (by decide)).trans h36
  have h37 := (o27 (37) (by decide)).trans h37
  have h38 := (o27 (38) (by decide)).trans h38
  have h39 := (o27 (39) (by decide)).trans h39
  have h40 := (o27 (40) (by decide)).trans h40
  have h41 := (o27 (41) (by decide)).trans h41
  have h42 := (o27 (42) (by decide)).trans h42
  have h43 := (o27 (43) (by decide)).trans h43
  have h44 := (o27 (44) (by decide)).trans h44
  have h45 := (o27 (45) (by decide)).trans h45
  have h46 := (o27 (46) (by decide)).trans h46
  have hO : ∀ j, j < 29 → F27 j = F j := fun j hj => (o27 j (by omega)).trans (hO j hj)
  refine lv_aload_n X.1.1 X.1.2.1 dX5_init_102 rfl (lv_at hl 0 rfl) ?_
  refine sx_new (ci := 3) X hP in_X5_init_X3 tyX3 tyX3_ok lk_X5_init_classLink_RX5_40_RX3 lk_X5_init_instantiable_RX3_8 lk_X5_init_initialized_RX3 rfl (fs := [.int (0), .null, .null, .null, .null, .null, .null, .null]) (fun j hj => by rcases (show j = 0 ∨ j = 1 ∨ j = 2 ∨ j = 3 ∨ j = 4 ∨ j = 5 ∨ j = 6 ∨ j = 7 by omega) with rfl | rfl | rfl | rfl | rfl | rfl | rfl | rfl <;> rfl) (Nat.le_of_ble_eq_true rfl) (Nat.le_of_ble_eq_true rfl) hs rfl dX5_init_103 (fun F28 H28 e28 o28 hP => ?_)
  have h47 : F28 (47) = ob 3 ([.int (0), .null, .null, .null, .null, .null, .null, .null]) := e28
  have h29 := (o28 (29) (by decide)).trans h29
  have h30 := (o28 (30) (by decide)).trans h30
  have h31 := (o28 (31) (by decide)).trans h31
  have h32 := (o28 (32) (by decide)).trans h32
  have h33 := (o28 (33) (by decide)).trans h33
  have h34 := (o28 (34) (by decide)).trans h34
  have h35 := (o28 (35) (by decide)).trans h35
  have h36 := (o28 (36) (by decide)).trans h36
  have h37 := (o28 (37) (by decide)).trans h37
  have h38 := (o28 (38) (by decide)).trans h38
  have h39 := (o28 (39) (by decide)).trans h39
  have h40 := (o28 (40) (by decide)).trans h40
  have h41 := (o28 (41) (by decide)).trans h41
  have h42 := (o28 (42) (by decide)).trans h42
  have h43 := (o28 (43) (by decide)).trans h43
  have h44 := (o28 (44) (by decide)).trans h44
  have h45 := (o28 (45) (by decide)).trans h45
  have h46 := (o28 (46) (by decide)).trans h46
  have hO : ∀ j, j < 29 → F28 j = F j := fun j hj => (o28 j (by omega)).trans (hO j hj)
  refine lv_dup X.1.1 X.1.2.1 dX5_init_106 rfl ?_
  refine sx_cni (As := []) (rest := rf G 47 :: rf G 29 :: []) X (mX3_init_47 l h47) gX5_init_X3_init_n42 rfl X.2.2.2.2.2.2.1 lk_X5_init_initialized_RX3 lk_X5_init_instanceMethod_yX3_init rfl ys_X3_init ⟨Nat.le_of_ble_eq_true rfl, Nat.le_of_ble_eq_true rfl⟩ hl.1 rfl (Nat.le_of_ble_eq_true rfl) dX5_init_107 ⟨Nat.le_of_ble_eq_true rfl, Nat.le_of_ble_eq_true rfl⟩ hs rfl hP (fun F29 H29 l29 hp hP => ?_)
  obtain ⟨e29_0, e29_1, e29_2, e29_3, e29_4, e29_5, e29_6, e29_7, e29_8, o29⟩ := hp
  have h29 := (o29 (29) (by decide)).trans h29
  have h30 := (o29 (30) (by decide)).trans h30
  have h31 := (o29 (31) (by decide)).trans h31
  have h32 := (o29 (32) (by decide)).trans h32
  have h33 := (o29 (33) (by decide)).trans h33
  have h34 := (o29 (34) (by decide)).trans h34
  have h35 := (o29 (35) (by decide)).trans h35
  have h36 := (o29 (36) (by decide)).trans h36
  have h37 := (o29 (37) (by decide)).trans h37
  have h38 := (o29 (38) (by decide)).trans h38
  have h39 := (o29 (39) (by decide)).trans h39
  have h40 := (o29 (40) (by decide)).trans h40
  have h41 := (o29 (41) (by decide)).trans h41
  have h42 := (o29 (42) (by decide)).trans h42
  have h43 := (o29 (43) (by decide)).trans h43
  have h44 := (o29 (44) (by decide)).trans h44
  have h45 := (o29 (45) (by decide)).trans h45
  have h46 := (o29 (46) (by decide)).trans h46
  have h47 : F29 (47) = ob 3 ([.int (0), rf G 48, rf G 49, rf G 50, rf G 51, rf G 52, rf G 54, rf G 55]) := e29_0
  have h48 : F29 (48) = rI G (160) (fun _ => 0) := e29_1
  have h49 : F29 (49) = rI G (160) (fun _ => 0) := e29_2
  have h50 : F29 (50) = rI G (160) (fun _ => 0) := e29_3
  have h51 : F29 (51) = rI G (160) (fun _ => 0) := e29_4
  have h52 : F29 (52) = ob 1 ([.int (nI 160), rf G 53]) := e29_5
  have h53 : F29 (53) = rI G (640) (fun _ => 0) := e29_6
  have h54 : F29 (54) = rI G (160) (fun _ => 0) := e29_7
  have h55 : F29 (55) = rI G (12) (fun _ => 0) := e29_8
  have hO : ∀ j, j < 29 → F29 j = F j := fun j hj => (o29 j (by omega)).trans (hO j hj)
  refine sx_putF X hP in_X5_init_X5 tyX5 tyX5_ok nmX5 h29 (by decide) rfl 6 (by decide) lk_X5_init_fieldLink_RX5_43_RaceWatch_World_log_LRaceWatch_Log rfl rfl rfl rfl rfl (Nat.le_of_ble_eq_true rfl) dX5_init_110 (fun F30 H30 l30 e30 o30 hP => ?_)
  have h29 : F30 (29) = ob 5 ([rf G 30, rf G 31, rf G 32, rf G 34, rf G 36, rf G 38, rf G 47]) := e30
  have h30 := (o30 (30) (by decide)).trans h30
  have h31 := (o30 (31) (by decide)).trans h31
  have h32 := (o30 (32) (by decide)).trans h32
  have h33 := (o30 (33) (by decide)).trans h33
  have h34 := (o30 (34) (by decide)).trans h34
  have h35 := (o30 (35) (by decide)).trans h35
  have h36 := (o30 (36) (by decide)).trans h36
  have h37 := (o30 (37) (by decide)).trans h37
  have h38 := (o30 (38) (by decide)).trans h38
  have h39 := (o30 (39) (by decide)).trans h39
  have h40 := (o30 (40) (by decide)).trans h40
  have h41 := (o30 (41) (by decide)).trans h41
  have h42 := (o30 (42) (by decide)).trans h42
  have h43 := (o30 (43) (by decide)).trans h43
  have h44 := (o30 (44) (by decide)).trans h44
  have h45 := (o30 (45) (by decide)).trans h45
  have h46 := (o30 (46) (by decide)).trans h46
  have h47 := (o30 (47) (by decide)).trans h47
  have h48 := (o30 (48) (by decide)).trans h48
  have h49 := (o30 (49) (by decide)).trans h49
  have h50 := (o30 (50) (by decide)).trans h50
  have h51 := (o30 (51) (by decide)).trans h51
  have h52 := (o30 (52) (by decide)).trans h52
  have h53 := (o30 (53) (by decide)).trans h53
  have h54 := (o30 (54) (by decide)).trans h54
  have h55 := (o30 (55) (by decide)).trans h55
  have hO : ∀ j, j < 29 → F30 j = F j := fun j hj => (o30 j (by omega)).trans (hO j hj)
  refine lv_aload_n X.1.1 X.1.2.1 dX5_init_113 rfl (lv_at hl 0 rfl) ?_
  have hS : WS G F30 29 := ⟨_, _, _, _, _, _, h29, h30, h31, h32, h33, h34, h35, h36, h37, h38, fun j hj => by rcases (show j = 0 ∨ j = 1 ∨ j = 2 ∨ j = 3 by omega) with rfl | rfl | rfl | rfl <;> rfl, fun c hc => by rcases (show c = 0 ∨ c = 1 ∨ c = 2 ∨ c = 3 by omega) with rfl | rfl | rfl | rfl; exact ⟨_, _, _, _, _, _, _, _, _, _, h39, h40⟩; exact ⟨_, _, _, _, _, _, _, _, _, _, h41, h42⟩; exact ⟨_, _, _, _, _, _, _, _, _, _, h43, h44⟩; exact ⟨_, _, _, _, _, _, _, _, _, _, h45, h46⟩, ⟨_, _, _, _, _, _, _, _, _, h47, h48, h49, h50, h51, h52, h53, h54, h55⟩⟩
  refine sx_cvV (As := []) (rest := []) X (mX5_begin l (B := 29) (n := 56) (w := w) (by decide) hS) gX5_init_X5_begin rfl yv_X5_begin ⟨Nat.le_of_ble_eq_true rfl, Nat.le_of_ble_eq_true rfl⟩ h29 (by decide) rfl rfl hl.1 rfl (Nat.le_of_ble_eq_true rfl) dX5_init_114 ⟨Nat.le_of_ble_eq_true rfl, Nat.le_of_ble_eq_true rfl⟩ hs rfl hP (fun F31 H31 l31 hp hP => ?_)
  obtain ⟨hW1, o31⟩ := hp
  have hO : ∀ j, j < 29 → F31 j = F j := fun j hj => (o31 j (by omega)).trans (hO j hj)
  rw [hQ]
  exact sx_vret X rfl hs rfl hP dX5_init_117 (⟨hW1, hO⟩)
set_option maxHeartbeats 800000 in
set_option maxRecDepth 100000 in
theorem mX5_init_56 {G : sx_G} (l : Launch) {F : Nat → va_E} {w : Nat → Int32}  (h56 : F (56) = ob 5 ([.null, .null, .null, .null, .null, .null, .null])) : sx_V G l yX5_init wsX5_init rmX5_init [rf G 56] (57) F (83) (fun F1 => WV G F1 (iniF w) 0 56 ∧ ∀ j, j < 56 → F1 j = F j) := by
  refine sx_enter (cc := cX5_init) (maxL := 1) (ret := none) (own := RX5) (nm := "<init>") (by decide) rfl rfl rfl (Nat.le_of_ble_eq_true rfl) ?_
  intro pp ee ss mm args below meth kc ls Q hQ X hs hP hl
  have hl : lv_has ls 1 [(0, rf G 56)] := hl
  have hO : ∀ j, j < 56 → F j = F j := fun _ _ => rfl
  refine lv_aload_n X.1.1 X.1.2.1 dX5_init_0 rfl (lv_at hl 0 rfl) ?_
  refine sx_obj X lk_X5_init_methodLink_RX5_3_objectInit lk_X5_init_instanceMethod_objectInit lk_X5_init_code_objectInit_0xb1_1_none hl.1 dX5_init_1 (Nat.le_of_ble_eq_true rfl) (Nat.le_of_ble_eq_true rfl) ?_
  refine lv_aload_n X.1.1 X.1.2.1 dX5_init_4 rfl (lv_at hl 0 rfl) ?_
  refine lv_iconst (v := nI 4) X.1.1 X.1.2.1 dX5_init_5 (by decide) ?_
  refine sx_newi X hP 4 lk_X5_init_arrayClass_int (by decide) (Nat.le_of_ble_eq_true rfl) (Nat.le_of_ble_eq_true rfl) hs rfl dX5_init_6 (fun F1 H1 e1 o1 hP => ?_)
  have h57 : F1 (57) = rI G (4) (fun _ => 0) := e1
  have h56 := (o1 (56) (by decide)).trans h56
  have hO : ∀ j, j < 56 → F1 j = F j := fun j hj => (o1 j (by omega)).trans (hO j hj)
  refine sx_putF X hP in_X5_init_X5 tyX5 tyX5_ok nmX5 h56 (by decide) rfl 0 (by decide) lk_X5_init_fieldLink_RX5_9_RaceWatch_World_states_I rfl rfl rfl rfl rfl (Nat.le_of_ble_eq_true rfl) dX5_init_8 (fun F2 H2 l2 e2 o2 hP => ?_)
  have h56 : F2 (56) = ob 5 ([rf G 57, .null, .null, .null, .null, .null, .null]) := e2
  have h57 := (o2 (57) (by decide)).trans h57
  have hO : ∀ j, j < 56 → F2 j = F j := fun j hj => (o2 j (by omega)).trans (hO j hj)
  refine lv_aload_n X.1.1 X.1.2.1 dX5_init_11 rfl (lv_at hl 0 rfl) ?_
  refine lv_iconst (v := nI 3) X.1.1 X.1.2.1 dX5_init_12 (by decide) ?_
  refine sx_newi X hP 3 lk_X5_init_arrayClass_int (by decide) (Nat.le_of_ble_eq_true rfl) (Nat.le_of_ble_eq_true rfl) hs rfl dX5_init_13 (fun F3 H3 e3 o3 hP => ?_)
  have h58 : F3 (58) = rI G (3) (fun _ => 0) := e3
  have h56 := (o3 (56) (by decide)).trans h56
  have h57 := (o3 (57) (by decide)).trans h57
  have hO : ∀ j, j < 56 → F3 j = F j := fun j hj => (o3 j (by omega)).trans (hO j hj)
  refine sx_putF X hP in_X5_init_X5 tyX5 tyX5_ok nmX5 h56 (by decide) rfl 1 (by decide) lk_X5_init_fieldLink_RX5_15_RaceWatch_World_holders_I rfl rfl rfl rfl rfl (Nat.le_of_ble_eq_true rfl) dX5_init_15 (fun F4 H4 l4 e4 o4 hP => ?_)
  have h56 : F4 (56) = ob 5 ([rf G 57, rf G 58, .null, .null, .null, .null, .null]) := e4
  have h57 := (o4 (57) (by decide)).trans h57
  have h58 := (o4 (58) (by decide)).trans h58
  have hO : ∀ j, j < 56 → F4 j = F j := fun j hj => (o4 j (by omega)).trans (hO j hj)
  refine lv_aload_n X.1.1 X.1.2.1 dX5_init_18 rfl (lv_at hl 0 rfl) ?_
  refine sx_new (ci := 1) X hP in_X5_init_X1 tyX1 tyX1_ok lk_X5_init_classLink_RX5_18_RX1 lk_X5_init_instantiable_RX1_2 lk_X5_init_initialized_RX1 rfl (fs := [.int (0), .null]) (fun j hj => by rcases (show j = 0 ∨ j = 1 by omega) with rfl | rfl <;> rfl) (Nat.le_of_ble_eq_true rfl) (Nat.le_of_ble_eq_true rfl) hs rfl dX5_init_19 (fun F5 H5 e5 o5 hP => ?_)
  have h59 : F5 (59) = ob 1 ([.int (0), .null]) := e5
  have h56 := (o5 (56) (by decide)).trans h56
  have h57 := (o5 (57) (by decide)).trans h57
  have h58 := (o5 (58) (by decide)).trans h58
  have hO : ∀ j, j < 56 → F5 j = F j := fun j hj => (o5 j (by omega)).trans (hO j hj)
  refine lv_dup X.1.1 X.1.2.1 dX5_init_22 rfl ?_
  refine lv_iconst (v := nI 4) X.1.1 X.1.2.1 dX5_init_23 (by decide) ?_
  refine sx_ci (As := [.int (nI 4)]) (rest := rf G 59 :: rf G 56 :: []) X (mX1_init_4 l (n := 60) (ca := 59) (by decide) h59) gX5_init_X1_init rfl lk_X5_init_initialized_RX1 lk_X5_init_methodLink_RX5_20_yX1_init lk_X5_init_instanceMethod_yX1_init rfl ys_X1_init ⟨Nat.le_of_ble_eq_true rfl, Nat.le_of_ble_eq_true rfl⟩ hl.1 rfl (Nat.le_of_ble_eq_true rfl) dX5_init_24 ⟨Nat.le_of_ble_eq_true rfl, Nat.le_of_ble_eq_true rfl⟩ hs rfl hP (fun F6 H6 l6 hp hP => ?_)
  obtain ⟨e6, f6, o6⟩ := hp
  have h56 := (o6 (56) (by decide)).trans h56
  have h57 := (o6 (57) (by decide)).trans h57
  have h58 := (o6 (58) (by decide)).trans h58
  have h59 : F6 (59) = ob 1 ([.int (nI 4), rf G 60]) := e6
  have h60 : F6 (60) = rI G (16) (fun _ => 0) := f6
  have hO : ∀ j, j < 56 → F6 j = F j := fun j hj => (o6 j (by omega)).trans (hO j hj)
  refine sx_putF X hP in_X5_init_X5 tyX5 tyX5_ok nmX5 h56 (by decide) rfl 2 (by decide) lk_X5_init_fieldLink_RX5_23_RaceWatch_World_ofThreads_LRaceWatch_Clocks rfl rfl rfl rfl rfl (Nat.le_of_ble_eq_true rfl) dX5_init_27 (fun F7 H7 l7 e7 o7 hP => ?_)
  have h56 : F7 (56) = ob 5 ([rf G 57, rf G 58, rf G 59, .null, .null, .null, .null]) := e7
  have h57 := (o7 (57) (by decide)).trans h57
  have h58 := (o7 (58) (by decide)).trans h58
  have h59 := (o7 (59) (by decide)).trans h59
  have h60 := (o7 (60) (by decide)).trans h60
  have hO : ∀ j, j < 56 → F7 j = F j := fun j hj => (o7 j (by omega)).trans (hO j hj)
  refine lv_aload_n X.1.1 X.1.2.1 dX5_init_30 rfl (lv_at hl 0 rfl) ?_
  refine sx_new (ci := 1) X hP in_X5_init_X1 tyX1 tyX1_ok lk_X5_init_classLink_RX5_18_RX1 lk_X5_init_instantiable_RX1_2 lk_X5_init_initialized_RX1 rfl (fs := [.int (0), .null]) (fun j hj => by rcases (show j = 0 ∨ j = 1 by omega) with rfl | rfl <;> rfl) (Nat.le_of_ble_eq_true rfl) (Nat.le_of_ble_eq_true rfl) hs rfl dX5_init_31 (fun F8 H8 e8 o8 hP => ?_)
  have h61 : F8 (61) = ob 1 ([.int (0), .null]) := e8
  have h56 := (o8 (56) (by decide)).trans h56
  have h57 := (o8 (57) (by decide)).trans h57
  have h58 := (o8 (58) (by decide)).trans h58
  have h59 := (o8 (59) (by decide)).trans h59
  have h60 := (o8 (60) (by decide)).trans h60
  have hO : ∀ j, j < 56 → F8 j = F j := fun j hj => (o8 j (by omega)).trans (hO j hj)
  refine lv_dup X.1.1 X.1.2.1 dX5_init_34 rfl ?_
  refine lv_iconst (v := nI 3) X.1.1 X.1.2.1 dX5_init_35 (by decide) ?_
  refine sx_ci (As := [.int (nI 3)]) (rest := rf G 61 :: rf G 56 :: []) X (mX1_init_3 l (n := 62) (ca := 61) (by decide) h61) gX5_init_X1_init rfl lk_X5_init_initialized_RX1 lk_X5_init_methodLink_RX5_20_yX1_init lk_X5_init_instanceMethod_yX1_init rfl ys_X1_init ⟨Nat.le_of_ble_eq_true rfl, Nat.le_of_ble_eq_true rfl⟩ hl.1 rfl (Nat.le_of_ble_eq_true rfl) dX5_init_36 ⟨Nat.le_of_ble_eq_true rfl, Nat.le_of_ble_eq_true rfl⟩ hs rfl hP (fun F9 H9 l9 hp hP => ?_)
  obtain ⟨e9, f9, o9⟩ := hp
  have h56 := (o9 (56) (by decide)).trans h56
  have h57 := (o9 (57) (by decide)).trans h57
  have h58 := (o9 (58) (by decide)).trans h58
  have h59 := (o9 (59) (by decide)).trans h59
  have h60 := (o9 (60) (by decide)).trans h60
  have h61 : F9 (61) = ob 1 ([.int (nI 3), rf G 62]) := e9
  have h62 : F9 (62) = rI G (12) (fun _ => 0) := f9
  have hO : ∀ j, j < 56 → F9 j = F j := fun j hj => (o9 j (by omega)).trans (hO j hj)
  refine sx_putF X hP in_X5_init_X5 tyX5 tyX5_ok nmX5 h56 (by decide) rfl 3 (by decide) lk_X5_init_fieldLink_RX5_27_RaceWatch_World_ofLocks_LRaceWatch_Clocks rfl rfl rfl rfl rfl (Nat.le_of_ble_eq_true rfl) dX5_init_39 (fun F10 H10 l10 e10 o10 hP => ?_)
  have h56 : F10 (56) = ob 5 ([rf G 57, rf G 58, rf G 59, rf G 61, .null, .null, .null]) := e10
  have h57 := (o10 (57) (by decide)).trans h57
  have h58 := (o10 (58) (by decide)).trans h58
  have h59 := (o10 (59) (by decide)).trans h59
  have h60 := (o10 (60) (by decide)).trans h60
  have h61 := (o10 (61) (by decide)).trans h61
  have h62 := (o10 (62) (by decide)).trans h62
  have hO : ∀ j, j < 56 → F10 j = F j := fun j hj => (o10 j (by omega)).trans (hO j hj)
  refine lv_aload_n X.1.1 X.1.2.1 dX5_init_42 rfl (lv_at hl 0 rfl) ?_
  refine sx_new (ci := 1) X hP in_X5_init_X1 tyX1 tyX1_ok lk_X5_init_classLink_RX5_18_RX1 lk_X5_init_instantiable_RX1_2 lk_X5_init_initialized_RX1 rfl (fs := [.int (0), .null]) (fun j hj => by rcases (show j = 0 ∨ j = 1 by omega) with rfl | rfl <;> rfl) (Nat.le_of_ble_eq_true rfl) (Nat.le_of_ble_eq_true rfl) hs rfl dX5_init_43 (fun F11 H11 e11 o11 hP => ?_)
  have h63 : F11 (63) = ob 1 ([.int (0), .null]) := e11
  have h56 := (o11 (56) (by decide)).trans h56
  have h57 := (o11 (57) (by decide)).trans h57
  have h58 := (o11 (58) (by decide)).trans h58
  have h59 := (o11 (59) (by decide)).trans h59
  have h60 := (o11 (60) (by decide)).trans h60
  have h61 := (o11 (61) (by decide)).trans h61
  have h62 := (o11 (62) (by decide)).trans h62
  have hO : ∀ j, j < 56 → F11 j = F j := fun j hj => (o11 j (by omega)).trans (hO j hj)
  refine lv_dup X.1.1 X.1.2.1 dX5_init_46 rfl ?_
  refine lv_iconst (v := nI 2) X.1.1 X.1.2.1 dX5_init_47 (by decide) ?_
  refine sx_ci (As := [.int (nI 2)]) (rest := rf G 63 :: rf G 56 :: []) X (mX1_init_2 l (n := 64) (ca := 63) (by decide) h63) gX5_init_X1_init rfl lk_X5_init_initialized_RX1 lk_X5_init_methodLink_RX5_20_yX1_init lk_X5_init_instanceMethod_yX1_init rfl ys_X1_init ⟨Nat.le_of_ble_eq_true rfl, Nat.le_of_ble_eq_true rfl⟩ hl.1 rfl (Nat.le_of_ble_eq_true rfl) dX5_init_48 ⟨Nat.le_of_ble_eq_true rfl, Nat.le_of_ble_eq_true rfl⟩ hs rfl hP (fun F12 H12 l12 hp hP => ?_)
  obtain ⟨e12, f12, o12⟩ := hp
  have h56 := (o12 (56) (by decide)).trans h56
  have h57 := (o12 (57) (by decide)).trans h57
  have h58 := (o12 (58) (by decide)).trans h58
  have h59 := (o12 (59) (by decide)).trans h59
  have h60 := (o12 (60) (by decide)).trans h60
  have h61 := (o12 (61) (by decide)).trans h61
  have h62 := (o12 (62) (by decide)).trans h62
  have h63 : F12 (63) = ob 1 ([.int (nI 2), rf G 64]) := e12
  have h64 : F12 (64) = rI G (8) (fun _ => 0) := f12
  have hO : ∀ j, j < 56 → F12 j = F j := fun j hj => (o12 j (by omega)).trans (hO j hj)
  refine sx_putF X hP in_X5_init_X5 tyX5 tyX5_ok nmX5 h56 (by decide) rfl 4 (by decide) lk_X5_init_fieldLink_RX5_30_RaceWatch_World_ofSeenCells_LRaceWatch_Clocks rfl rfl rfl rfl rfl (Nat.le_of_ble_eq_true rfl) dX5_init_51 (fun F13 H13 l13 e13 o13 hP => ?_)
  have h56 : F13 (56) = ob 5 ([rf G 57, rf G 58, rf G 59, rf G 61, rf G 63, .null, .null]) := e13
  have h57 := (o13 (57) (by decide)).trans h57
  have h58 := (o13 (58) (by decide)).trans h58
  have h59 := (o13 (59) (by decide)).trans h59
  have h60 := (o13 (60) (by decide)).trans h60
  have h61 := (o13 (61) (by decide)).trans h61
  have h62 := (o13 (62) (by decide)).trans h62
  have h63 := (o13 (63) (by decide)).trans h63
  have h64 := (o13 (64) (by decide)).trans h64
  have hO : ∀ j, j < 56 → F13 j = F j := fun j hj => (o13 j (by omega)).trans (hO j hj)
  refine lv_aload_n X.1.1 X.1.2.1 dX5_init_54 rfl (lv_at hl 0 rfl) ?_
  refine lv_iconst (v := nI 4) X.1.1 X.1.2.1 dX5_init_55 (by decide) ?_
  refine sx_newk X hP 4 lk_X5_init_classLink_RX5_33_RX2 (by decide) (Nat.le_of_ble_eq_true rfl) (Nat.le_of_ble_eq_true rfl) hs rfl dX5_init_56 (fun F14 H14 e14 o14 hP => ?_)
  have h65 : F14 (65) = rK G (4) (fun _ => none) := e14
  have h56 := (o14 (56) (by decide)).trans h56
  have h57 := (o14 (57) (by decide)).trans h57
  have h58 := (o14 (58) (by decide)).trans h58
  have h59 := (o14 (59) (by decide)).trans h59
  have h60 := (o14 (60) (by decide)).trans h60
  have h61 := (o14 (61) (by decide)).trans h61
  have h62 := (o14 (62) (by decide)).trans h62
  have h63 := (o14 (63) (by decide)).trans h63
  have h64 := (o14 (64) (by decide)).trans h64
  have hO : ∀ j, j < 56 → F14 j = F j := fun j hj => (o14 j (by omega)).trans (hO j hj)
  refine lv_dup X.1.1 X.1.2.1 dX5_init_59 rfl ?_
  refine lv_iconst (v := nI 0) X.1.1 X.1.2.1 dX5_init_60 (by decide) ?_
  refine sx_new (ci := 2) X hP in_X5_init_X2 tyX2 tyX2_ok lk_X5_init_classLink_RX5_33_RX2 lk_X5_init_instantiable_RX2_10 lk_X5_init_initialized_RX2 rfl (fs := [.int (0), .int (0), .int (0), .int (0), .int (0), .null, .int (0), .int (0), .int (0), .int (0)]) (fun j hj => by rcases (show j = 0 ∨ j = 1 ∨ j = 2 ∨ j = 3 ∨ j = 4 ∨ j = 5 ∨ j = 6 ∨ j = 7 ∨ j = 8 ∨ j = 9 by omega) with rfl | rfl | rfl | rfl | rfl | rfl | rfl | rfl | rfl | rfl <;> rfl) (Nat.le_of_ble_eq_true rfl) (Nat.le_of_ble_eq_true rfl) hs rfl dX5_init_61 (fun F15 H15 e15 o15 hP => ?_)
  have h66 : F15 (66) = ob 2 ([.int (0), .int (0), .int (0), .int (0), .int (0), .null, .int (0), .int (0), .int (0), .int (0)]) := e15
  have h56 := (o15 (56) (by decide)).trans h56
  have h57 := (o15 (57) (by decide)).trans h57
  have h58 := (o15 (58) (by decide)).trans h58
  have h59 := (o15 (59) (by decide)).trans h59
  have h60 := (o15 (60) (by decide)).trans h60
  have h61 := (o15 (61) (by decide)).trans h61
  have h62 := (o15 (62) (by decide)).trans h62
  have h63 := (o15 (63) (by decide)).trans h63
  have h64 := (o15 (64) (by decide)).trans h64
  have h65 := (o15 (65) (by decide)).trans h65
  have hO : ∀ j, j < 56 → F15 j = F j := fun j hj => (o15 j (by omega)).trans (hO j hj)
  refine lv_dup X.1.1 X.1.2.1 dX5_init_64 rfl ?_
  refine sx_cni (As := []) (rest := rf G 66 :: .int (nI 0) :: rf G 65 :: rf G 65 :: rf G 56 :: []) X (mX2_init l (n := 67) (ca := 66) (by decide) h66) gX5_init_X2_init_n35 rfl X.2.2.2.2.2.1 lk_X5_init_initialized_RX2 lk_X5_init_instanceMethod_yX2_init rfl ys_X2_init ⟨Nat.le_of_ble_eq_true rfl, Nat.le_of_ble_eq_true rfl⟩ hl.1 rfl (Nat.le_of_ble_eq_true rfl) dX5_init_65 ⟨Nat.le_of_ble_eq_true rfl, Nat.le_of_ble_eq_true rfl⟩ hs rfl hP (fun F16 H16 l16 hp hP => ?_)
  obtain ⟨e16, f16, o16⟩ := hp
  have h56 := (o16 (56) (by decide)).trans h56
  have h57 := (o16 (57) (by decide)).trans h57
  have h58 := (o16 (58) (by decide)).trans h58
  have h59 := (o16 (59) (by decide)).trans h59
  have h60 := (o16 (60) (by decide)).trans h60
  have h61 := (o16 (61) (by decide)).trans h61
  have h62 := (o16 (62) (by decide)).trans h62
  have h63 := (o16 (63) (by decide)).trans h63
  have h64 := (o16 (64) (by decide)).trans h64
  have h65 := (o16 (65) (by decide)).trans h65
  have h66 : F16 (66) = ob 2 ([.int (0), .int (0), .int (0), .int (0), .int (0), rf G 67, .int (0), .int (0), .int (0), .int (0)]) := e16
  have h67 : F16 (67) = rI G (4) (fun _ => 0) := f16
  have hO : ∀ j, j < 56 → F16 j = F j := fun j hj => (o16 j (by omega)).trans (hO j hj)
  refine sx_kast X hP h65 (by decide) (0) (by decide) (by decide) h66 (by decide) dX5_init_68 (fun F17 H17 l17 e17 o17 hP => ?_)
  have h65 : F17 (65) = rK G (4) (va_up (fun _ => none) (0) (some (sx_b G + (66)))) := e17
  have h56 := (o17 (56) (by decide)).trans h56
  have h57 := (o17 (57) (by decide)).trans h57
  have h58 := (o17 (58) (by decide)).trans h58
  have h59 := (o17 (59) (by decide)).trans h59
  have h60 := (o17 (60) (by decide)).trans h60
  have h61 := (o17 (61) (by decide)).trans h61
  have h62 := (o17 (62) (by decide)).trans h62
  have h63 := (o17 (63) (by decide)).trans h63
  have h64 := (o17 (64) (by decide)).trans h64
  have h66 := (o17 (66) (by decide)).trans h66
  have h67 := (o17 (67) (by decide)).trans h67
  have hO : ∀ j, j < 56 → F17 j = F j := fun j hj => (o17 j (by omega)).trans (hO j hj)
  refine lv_dup X.1.1 X.1.2.1 dX5_init_69 rfl ?_
  refine lv_iconst (v := nI 1) X.1.1 X.1.2.1 dX5_init_70 (by decide) ?_
  refine sx_new (ci := 2) X hP in_X5_init_X2 tyX2 tyX2_ok lk_X5_init_classLink_RX5_33_RX2 lk_X5_init_instantiable_RX2_10 lk_X5_init_initialized_RX2 rfl (fs := [.int (0), .int (0), .int (0), .int (0), .int (0), .null, .int (0), .int (0), .int (0), .int (0)]) (fun j hj => by rcases (show j = 0 ∨ j = 1 ∨ j = 2 ∨ j = 3 ∨ j = 4 ∨ j = 5 ∨ j = 6 ∨ j = 7 ∨ j = 8 ∨ j = 9 by omega) with rfl | rfl | rfl | rfl | rfl | rfl | rfl | rfl | rfl | rfl <;> rfl) (Nat.le_of_ble_eq_true rfl) (Nat.le_of_ble_eq_true rfl) hs rfl dX5_init_71 (fun F18 H18 e18 o18 hP => ?_)
  have h68 : F18 (68) = ob 2 ([.int (0), .int (0), .int (0), .int (0), .int (0), .null, .int (0), .int (0), .int (0), .int (0)]) := e18
  have h56 := (o18 (56) (by decide)).trans h56
  have h57 := (o18 (57) (by decide)).trans h57
  have h58 := (o18 (58) (by decide)).trans h58
  have h59 := (o18 (59) (by decide)).trans h59
  have h60 := (o18 (60) (by decide)).trans h60
  have h61 := (o18 (61) (by decide)).trans h61
  have h62 := (o18 (62) (by decide)).trans h62
  have h63 := (o18 (63) (by decide)).trans h63
  have h64 := (o18 (64) (by decide)).trans h64
  have h65 := (o18 (65) (by decide)).trans h65
  have h66 := (o18 (66) (by decide)).trans h66
  have h67 := (o18 (67) (by decide)).trans h67
  have hO : ∀ j, j < 56 → F18 j = F j := fun j hj => (o18 j (by omega)).trans (hO j hj)
  refine lv_dup X.1.1 X.1.2.1 dX5_init_74 rfl ?_
  refine sx_cni (As := []) (rest := rf G 68 :: .int (nI 1) :: rf G 65 :: rf G 65 :: rf G 56 :: []) X (mX2_init l (n := 69) (ca := 68) (by decide) h68) gX5_init_X2_init_n35 rfl X.2.2.2.2.2.1 lk_X5_init_initialized_RX2 lk_X5_init_instanceMethod_yX2_init rfl ys_X2_init ⟨Nat.le_of_ble_eq_true rfl, Nat.le_of_ble_eq_true rfl⟩ hl.1 rfl (Nat.le_of_ble_eq_true rfl) dX5_init_75 ⟨Nat.le_of_ble_eq_true rfl, Nat.le_of_ble_eq_true rfl⟩ hs rfl hP (fun F19 H19 l19 hp hP => ?_)
  obtain ⟨e19, f19, o19⟩ := hp
  have h56 := (o19 (56) (by decide)).trans h56
  have h57 := (o19 (57) (by decide)).trans h57
  have h58 := (o19 (58) (by decide)).trans h58
  have h59 := (o19 (59) (by decide)).trans h59
  have h60 := (o19 (60) (by decide)).trans h60
  have h61 := (o19 (61) (by decide)).trans h61
  have h62 := (o19 (62) (by decide)).trans h62
  have h63 := (o19 (63) (by decide)).trans h63
  have h64 := (o19 (64) (by decide)).trans h64
  have h65 := (o19 (65) (by decide)).trans h65
  have h66 := (o19 (66) (by decide)).trans h66
  have h67 := (o19 (67) (by decide)).trans h67
  have h68 : F19 (68) = ob 2 ([.int (0), .int (0), .int (0), .int (0), .int (0), rf G 69, .int (0), .int (0), .int (0), .int (0)]) := e19
  have h69 : F19 (69) = rI G (4) (fun _ => 0) := f19
  have hO : ∀ j, j < 56 → F19 j = F j := fun j hj => (o19 j (by omega)).trans (hO j hj)
  refine sx_kast X hP h65 (by decide) (1) (by decide) (by decide) h68 (by decide) dX5_init_78 (fun F20 H20 l20 e20 o20 hP => ?_)
  have h65 : F20 (65) = rK G (4) (va_up (va_up (fun _ => none) (0) (some (sx_b G + (66)))) (1) (some (sx_b G + (68)))) := e20
  have h56 := (o20 (56) (by decide)).trans h56
  have h57 := (o20 (57) (by decide)).trans h57
  have h58 := (o20 (58) (by decide)).trans h58
  have h59 := (o20 (59) (by decide)).trans h59
  have h60 := (o20 (60) (by decide)).trans h60
  have h61 := (o20 (61) (by decide)).trans h61
  have h62 := (o20 (62) (by decide)).trans h62
  have h63 := (o20 (63) (by decide)).trans h63
  have h64 := (o20 (64) (by decide)).trans h64
  have h66 := (o20 (66) (by decide)).trans h66
  have h67 := (o20 (67) (by decide)).trans h67
  have h68 := (o20 (68) (by decide)).trans h68
  have h69 := (o20 (69) (by decide)).trans h69
  have hO : ∀ j, j < 56 → F20 j = F j := fun j hj => (o20 j (by omega)).trans (hO j hj)
  refine lv_dup X.1.1 X.1.2.1 dX5_init_79 rfl ?_
  refine lv_iconst (v := nI 2) X.1.1 X.1.2.1 dX5_init_80 (by decide) ?_
  refine sx_new (ci := 2) X hP in_X5_init_X2 tyX2 tyX2_ok lk_X5_init_classLink_RX5_33_RX2 lk_X5_init_instantiable_RX2_10 lk_X5_init_initialized_RX2 rfl (fs := [.int (0), .int (0), .int (0), .int (0), .int (0), .null, .int (0), .int (0), .int (0), .int (0)]) (fun j hj => by rcases (show j = 0 ∨ j = 1 ∨ j = 2 ∨ j = 3 ∨ j = 4 ∨ j = 5 ∨ j = 6 ∨ j = 7 ∨ j = 8 ∨ j = 9 by omega) with rfl | rfl | rfl | rfl | rfl | rfl | rfl | rfl | rfl | rfl <;> rfl) (Nat.le_of_ble_eq_true rfl) (Nat.le_of_ble_eq_true rfl) hs rfl dX5_init_81 (fun F21 H21 e21 o21 hP => ?_)
  have h70 : F21 (70) = ob 2 ([.int (0), .int (0), .int (0), .int (0), .int (0), .null, .int (0), .int (0), .int (0), .int (0)]) := e21
  have h56 := (o21 (56) (by decide)).trans h56
  have h57 := (o21 (57) (by decide)).trans h57
  have h58 := (o21 (58) (by decide)).trans h58
  have h59 := (o21 (59) (by decide)).trans h59
  have h60 := (o21 (60) (by decide)).trans h60
  have h61 := (o21 (61) (by decide)).trans h61
  have h62 := (o21 (62) (by decide)).trans h62
  have h63 := (o21 (63) (by decide)).trans h63
  have h64 := (o21 (64) (by decide)).trans h64
  have h65 := (o21 (65) (by decide)).trans h65
  have h66 := (o21 (66) (by decide)).trans h66
  have h67 := (o21 (67) (by decide)).trans h67
  have h68 := (o21 (68) (by decide)).trans h68
  have h69 := (o21 (69) (by decide)).trans h69
  have hO : ∀ j, j < 56 → F21 j = F j := fun j hj => (o21 j (by omega)).trans (hO j hj)
  refine lv_dup X.1.1 X.1.2.1 dX5_init_84 rfl ?_
  refine sx_cni (As := []) (rest := rf G 70 :: .int (nI 2) :: rf G 65 :: rf G 65 :: rf G 56 :: []) X (mX2_init l (n := 71) (ca := 70) (by decide) h70) gX5_init_X2_init_n35 rfl X.2.2.2.2.2.1 lk_X5_init_initialized_RX2 lk_X5_init_instanceMethod_yX2_init rfl ys_X2_init ⟨Nat.le_of_ble_eq_true rfl, Nat.le_of_ble_eq_true rfl⟩ hl.1 rfl (Nat.le_of_ble_eq_true rfl) dX5_init_85 ⟨Nat.le_of_ble_eq_true rfl, Nat.le_of_ble_eq_true rfl⟩ hs rfl hP (fun F22 H22 l22 hp hP => ?_)
  obtain ⟨e22, f22, o22⟩ := hp
  have h56 := (o22 (56) (by decide)).trans h56
  have h57 := (o22 (57) (by decide)).trans h57
  have h58 := (o22 (58) (by decide)).trans h58
  have h59 := (o22 (59) (by decide)).trans h59
  have h60 := (o22 (60) (by decide)).trans h60
  have h61 := (o22 (61) (by decide)).trans h61
  have h62 := (o22 (62) (by decide)).trans h62
  have h63 := (o22 (63) (by decide)).trans h63
  have h64 := (o22 (64) (by decide)).trans h64
  have h65 := (o22 (65) (by decide)).trans h65
  have h66 := (o22 (66) (by decide)).trans h66
  have h67 := (o22 (67) (by decide)).trans h67
  have h68 := (o22 (68) (by decide)).trans h68
  have h69 := (o22 (69) (by decide)).trans h69
  have h70 : F22 (70) = ob 2 ([.int (0), .int (0), .int (0), .int (0), .int (0), rf G 71, .int (0), .int (0), .int (0), .int (0)]) := e22
  have h71 : F22 (71) = rI G (4) (fun _ => 0) := f22
  have hO : ∀ j, j < 56 → F22 j = F j := fun j hj => (o22 j (by omega)).trans (hO j hj)
  refine sx_kast X hP h65 (by decide) (2) (by decide) (by decide) h70 (by decide) dX5_init_88 (fun F23 H23 l23 e23 o23 hP => ?_)
  have h65 : F23 (65) = rK G (4) (va_up (va_up (va_up (fun _ => none) (0) (some (sx_b G + (66)))) (1) (some (sx_b G + (68)))) (2) (some (sx_b G + (70)))) := e23
  have h56 := (o23 (56) (by decide)).trans h56
  have h57 := (o23 (57) (by decide)).trans h57
  have h58 := (o23 (58) (by decide)).trans h58
  have h59 := (o23 (59) (by decide)).trans h59
  have h60 := (o23 (60) (by decide)).trans h60
  have h61 := (o23 (61) (by decide)).trans h61
  have h62 := (o23 (62) (by decide)).trans h62
  have h63 := (o23 (63) (by decide)).trans h63
  have h64 := (o23 (64) (by decide)).trans h64
  have h66 := (o23 (66) (by decide)).trans h66
  have h67 := (o23 (67) (by decide)).trans h67
  have h68 := (o23 (68) (by decide)).trans h68
  have h69 := (o23 (69) (by decide)).trans h69
  have h70 := (o23 (70) (by decide)).trans h70
  have h71 := (o23 (71) (by decide)).trans h71
  have hO : ∀ j, j < 56 → F23 j = F j := fun j hj => (o23 j (by omega)).trans (hO j hj)
  refine lv_dup X.1.1 X.1.2.1 dX5_init_89 rfl ?_
  refine lv_iconst (v := nI 3) X.1.1 X.1.2.1 dX5_init_90 (by decide) ?_
  refine sx_new (ci := 2) X hP in_X5_init_X2 tyX2 tyX2_ok lk_X5_init_classLink_RX5_33_RX2 lk_X5_init_instantiable_RX2_10 lk_X5_init_initialized_RX2 rfl (fs := [.int (0), .int (0), .int (0), .int (0), .int (0), .null, .int (0), .int (0), .int (0), .int (0)]) (fun j hj => by rcases (show j = 0 ∨ j = 1 ∨ j = 2 ∨ j = 3 ∨ j = 4 ∨ j = 5 ∨ j = 6 ∨ j = 7 ∨ j = 8 ∨ j = 9 by omega) with rfl | rfl | rfl | rfl | rfl | rfl | rfl | rfl | rfl | rfl <;> rfl) (Nat.le_of_ble_eq_true rfl) (Nat.le_of_ble_eq_true rfl) hs rfl dX5_init_91 (fun F24 H24 e24 o24 hP => ?_)
  have h72 : F24 (72) = ob 2 ([.int (0), .int (0), .int (0), .int (0), .int (0), .null, .int (0), .int (0), .int (0), .int (0)]) := e24
  have h56 := (o24 (56) (by decide)).trans h56
  have h57 := (o24 (57) (by decide)).trans h57
  have h58 := (o24 (58) (by decide)).trans h58
  have h59 := (o24 (59) (by decide)).trans h59
  have h60 := (o24 (60) (by decide)).trans h60
  have h61 := (o24 (61) (by decide)).trans h61
  have h62 := (o24 (62) (by decide)).trans h62
  have h63 := (o24 (63) (by decide)).trans h63
  have h64 := (o24 (64) (by decide)).trans h64
  have h65 := (o24 (65) (by decide)).trans h65
  have h66 := (o24 (66) (by decide)).trans h66
  have h67 := (o24 (67) (by decide)).trans h67
  have h68 := (o24 (68) (by decide)).trans h68
  have h69 := (o24 (69) (by decide)).trans h69
  have h70 := (o24 (70) (by decide)).trans h70
  have h71 := (o24 (71) (by decide)).trans h71
  have hO : ∀ j, j < 56 → F24 j = F j := fun j hj => (o24 j (by omega)).trans (hO j hj)
  refine lv_dup X.1.1 X.1.2.1 dX5_init_94 rfl ?_
  refine sx_cni (As := []) (rest := rf G 72 :: .int (nI 3) :: rf G 65 :: rf G 65 :: rf G 56 :: []) X (mX2_init l (n := 73) (ca := 72) (by decide) h72) gX5_init_X2_init_n35 rfl X.2.2.2.2.2.1 lk_X5_init_initialized_RX2 lk_X5_init_instanceMethod_yX2_init rfl ys_X2_init ⟨Nat.le_of_ble_eq_true rfl, Nat.le_of_ble_eq_true rfl⟩ hl.1 rfl (Nat.le_of_ble_eq_true rfl) dX5_init_95 ⟨Nat.le_of_ble_eq_true rfl, Nat.le_of_ble_eq_true rfl⟩ hs rfl hP (fun F25 H25 l25 hp hP => ?_)
  obtain ⟨e25, f25, o25⟩ := hp
  have h56 := (o25 (56) (by decide)).trans h56
  have h57 := (o25 (57) (by decide)).trans h57
  have h58 := (o25 (58) (by decide)).trans h58
  have h59 := (o25 (59) (by decide)).trans h59
  have h60 := (o25 (60) (by decide)).trans h60
  have h61 := (o25 (61) (by decide)).trans h61
  have h62 := (o25 (62) (by decide)).trans h62
  have h63 := (o25 (63) (by decide)).trans h63
  have h64 := (o25 (64) (by decide)).trans h64
  have h65 := (o25 (65) (by decide)).trans h65
  have h66 := (o25 (66) (by decide)).trans h66
  have h67 := (o25 (67) (by decide)).trans h67
  have h68 := (o25 (68) (by decide)).trans h68
  have h69 := (o25 (69) (by decide)).trans h69
  have h70 := (o25 (70) (by decide)).trans h70
  have h71 := (o25 (71) (by decide)).trans h71
  have h72 : F25 (72) = ob 2 ([.int (0), .int (0), .int (0), .int (0), .int (0), rf G 73, .int (0), .int (0), .int (0), .int (0)]) := e25
  have h73 : F25 (73) = rI G (4) (fun _ => 0) := f25
  have hO : ∀ j, j < 56 → F25 j = F j := fun j hj => (o25 j (by omega)).trans (hO j hj)
  refine sx_kast X hP h65 (by decide) (3) (by decide) (by decide) h72 (by decide) dX5_init_98 (fun F26 H26 l26 e26 o26 hP => ?_)
  have h65 : F26 (65) = rK G (4) (va_up (va_up (va_up (va_up (fun _ => none) (0) (some (sx_b G + (66)))) (1) (some (sx_b G + (68)))) (2) (some (sx_b G + (70)))) (3) (some (sx_b G + (72)))) := e26
  have h56 := (o26 (56) (by decide)).trans h56
  have h57 := (o26 (57) (by decide)).trans h57
  have h58 := (o26 (58) (by decide)).trans h58
  have h59 := (o26 (59) (by decide)).trans h59
  have h60 := (o26 (60) (by decide)).trans h60
  have h61 := (o26 (61) (by decide)).trans h61
  have h62 := (o26 (62) (by decide)).trans h62
  have h63 := (o26 (63) (by decide)).trans h63
  have h64 := (o26 (64) (by decide)).trans h64
  have h66 := (o26 (66) (by decide)).trans h66
  have h67 := (o26 (67) (by decide)).trans h67
  have h68 := (o26 (68) (by decide)).trans h68
  have h69 := (o26 (69) (by decide)).trans h69
  have h70 := (o26 (70) (by decide)).trans h70
  have h71 := (o26 (71) (by decide)).trans h71
  have h72 := (o26 (72) (by decide)).trans h72
  have h73 := (o26 (73) (by decide)).trans h73
  have hO : ∀ j, j < 56 → F26 j = F j := fun j hj => (o26 j (by omega)).trans (hO j hj)
  refine sx_putF X hP in_X5_init_X5 tyX5 tyX5_ok nmX5 h56 (by decide) rfl 5 (by decide) lk_X5_init_fieldLink_RX5_36_RaceWatch_World_cells_LRaceWatch_Kept rfl rfl rfl rfl rfl (Nat.le_of_ble_eq_true rfl) dX5_init_99 (fun F27 H27 l27 e27 o27 hP => ?_)
  have h56 : F27 (56) = ob 5 ([rf G 57, rf G 58, rf G 59, rf G 61, rf G 63, rf G 65, .null]) := e27
  have h57 := (o27 (57) (by decide)).trans h57
  have h58 := (o27 (58) (by decide)).trans h58
  have h59 := (o27 (59) (by decide)).trans h59
  have h60 := (o27 (60) (by decide)).trans h60
  have h61 := (o27 (61) (by decide)).trans h61
  have h62 := (o27 (62) (by decide)).trans h62
  have h63 := (o27 (63) (by decide)).trans h63
  have h64 := (o27 (64) (by decide)).trans h64
  have h65 := (o27 (65) (by decide)).trans h65
  have h66 := (o27 (66) (by decide)).trans h66
  have h67 := (o27 (67) (by decide)).trans h67
  have h68 := (o27 (68) (by decide)).trans h68
  have h69 := (o27 (69) (by decide)).trans h69
  have h70 := (o27 (70) (by decide)).trans h70
  have h71 := (o27 (71) (by decide)).trans h71
  have h72 := (o27 (72) (by decide)).trans h72
  have h73 := (o27 (73) (by decide)).trans h73
  have hO : ∀ j, j < 56 → F27 j = F j := fun j hj => (o27 j (by omega)).trans (hO j hj)
  refine lv_aload_n X.1.1 X.1.2.1 dX5_init_102 rfl (lv_at hl 0 rfl) ?_
  refine sx_new (ci := 3) X hP in_X5_init_X3 tyX3 tyX3_ok lk_X5_init_classLink_RX5_40_RX3 lk_X5_init_instantiable_RX3_8 lk_X5_init_initialized_RX3 rfl (fs := [.int (0), .null, .null, .null, .null, .null, .null, .null]) (fun j hj => by rcases (show j = 0 ∨ j = 1 ∨ j = 2 ∨ j = 3 ∨ j = 4 ∨ j = 5 ∨ j = 6 ∨ j = 7 by omega) with rfl | rfl | rfl | rfl | rfl | rfl | rfl | rfl <;> rfl) (Nat.le_of_ble_eq_true rfl) (Nat.le_of_ble_eq_true rfl) hs rfl dX5_init_103 (fun F28 H28 e28 o28 hP => ?_)
  have h74 : F28 (74) = ob 3 ([.int (0), .null, .null, .null, .null, .null, .null, .null]) := e28
  have h56 := (o28 (56) (by decide)).trans h56
  have h57 := (o28 (57) (by decide)).trans h57
  have h58 := (o28 (58) (by decide)).trans h58
  have h59 := (o28 (59) (by decide)).trans h59
  have h60 := (o28 (60) (by decide)).trans h60
  have h61 := (o28 (61) (by decide)).trans h61
  have h62 := (o28 (62) (by decide)).trans h62
  have h63 := (o28 (63) (by decide)).trans h63
  have h64 := (o28 (64) (by decide)).trans h64
  have h65 := (o28 (65) (by decide)).trans h65
  have h66 := (o28 (66) (by decide)).trans h66
  have h67 := (o28 (67) (by decide)).trans h67
  have h68 := (o28 (68) (by decide)).trans h68
  have h69 := (o28 (69) (by decide)).trans h69
  have h70 := (o28 (70) (by decide)).trans h70
  have h71 := (o28 (71) (by decide)).trans h71
  have h72 := (o28 (72) (by decide)).trans h72
  have h73 := (o28 (73) (by decide)).trans h73
  have hO : ∀ j, j < 56 → F28 j = F j := fun j hj => (o28 j (by omega)).trans (hO j hj)
  refine lv_dup X.1.1 X.1.2.1 dX5_init_106 rfl ?_
  refine sx_cni (As := []) (rest := rf G 74 :: rf G 56 :: []) X (mX3_init_74 l h74) gX5_init_X3_init_n42 rfl X.2.2.2.2.2.2.1 lk_X5_init_initialized_RX3 lk_X5_init_instanceMethod_yX3_init rfl ys_X3_init ⟨Nat.le_of_ble_eq_true rfl, Nat.le_of_ble_eq_true rfl⟩ hl.1 rfl (Nat.le_of_ble_eq_true rfl) dX5_init_107 ⟨Nat.le_of_ble_eq_true rfl, Nat.le_of_ble_eq_true rfl⟩ hs rfl hP (fun F29 H29 l29 hp hP => ?_)
  obtain ⟨e29_0, e29_1, e29_2, e29_3, e29_4, e29_5, e29_6, e29_7, e29_8, o29⟩ := hp
  have h56 := (o29 (56) (by decide)).trans h56
  have h57 := (o29 (57) (by decide)).trans h57
  have h58 := (o29 (58) (by decide)).trans h58
  have h59 := (o29 (59) (by decide)).trans h59
  have h60 := (o29 (60) (by decide)).trans h60
  have h61 := (o29 (61) (by decide)).trans h61
  have h62 := (o29 (62) (by decide)).trans h62
  have h63 := (o29 (63) (by decide)).trans h63
  have h64 := (o29 (64) (by decide)).trans h64
  have h65 := (o29 (65) (by decide)).trans h65
  have h66 := (o29 (66) (by decide)).trans h66
  have h67 := (o29 (67) (by decide)).trans h67
  have h68 := (o29 (68) (by decide)).trans h68
  have h69 := (o29 (69) (by decide)).trans h69
  have h70 := (o29 (70) (by decide)).trans h70
  have h71 := (o29 (71) (by decide)).trans h71
  have h72 := (o29 (72) (by decide)).trans h72
  have h73 := (o29 (73) (by decide)).trans h73
  have h74 : F29 (74) = ob 3 ([.int (0), rf G 75, rf G 76, rf G 77, rf G 78, rf G 79, rf G 81, rf G 82]) := e29_0
  have h75 : F29 (75) = rI G (160) (fun _ => 0) := e29_1
  have h76 : F29 (76) = rI G (160) (fun _ => 0) := e29_2
  have h77 : F29 (77) = rI G (160) (fun _ => 0) := e29_3
  have h78 : F29 (78) = rI G (160) (fun _ => 0) := e29_4
  have h79 : F29 (79) = ob 1 ([.int (nI 160), rf G 80]) := e29_5
  have h80 : F29 (80) = rI G (640) (fun _ => 0) := e29_6
  have h81 : F29 (81) = rI G (160) (fun _ => 0) := e29_7
  have h82 : F29 (82) = rI G (12) (fun _ => 0) := e29_8
  have hO : ∀ j, j < 56 → F29 j = F j := fun j hj => (o29 j (by omega)).trans (hO j hj)
  refine sx_putF X hP in_X5_init_X5 tyX5 tyX5_ok nmX5 h56 (by decide) rfl 6 (by decide) lk_X5_init_fieldLink_RX5_43_RaceWatch_World_log_LRaceWatch_Log rfl rfl rfl rfl rfl (Nat.le_of_ble_eq_true rfl) dX5_init_110 (fun F30 H30 l30 e30 o30 hP => ?_)
  have h56 : F30 (56) = ob 5 ([rf G 57, rf G 58, rf G 59, rf G 61, rf G 63, rf G 65, rf G 74]) := e30
  have h57 := (o30 (57) (by decide)).trans h57
  have h58 := (o30 (58) (by decide)).trans h58
  have h59 := (o30 (59) (by decide)).trans h59
  have h60 := (o30 (60) (by decide)).trans h60
  have h61 := (o30 (61) (by decide)).trans h61
  have h62 := (o30 (62) (by decide)).trans h62
  have h63 := (o30 (63) (by decide)).trans h63
  have h64 := (o30 (64) (by decide)).trans h64
  have h65 := (o30 (65) (by decide)).trans h65
  have h66 := (o30 (66) (by decide)).trans h66
  have h67 := (o30 (67) (by decide)).trans h67
  have h68 := (o30 (68) (by decide)).trans h68
  have h69 := (o30 (69) (by decide)).trans h69
  have h70 := (o30 (70) (by decide)).trans h70
  have h71 := (o30 (71) (by decide)).trans h71
  have h72 := (o30 (72) (by decide)).trans h72
  have h73 := (o30 (73) (by decide)).trans h73
  have h74 := (o30 (74) (by decide)).trans h74
  have h75 := (o30 (75) (by decide)).trans h75
  have h76 := (o30 (76) (by decide)).trans h76
  have h77 := (o30 (77) (by decide)).trans h77
  have h78 := (o30 (78) (by decide)).trans h78
  have h79 := (o30 (79) (by decide)).trans h79
  have h80 := (o30 (80) (by decide)).trans h80
  have h81 := (o30 (81) (by decide)).trans h81
  have h82 := (o30 (82) (by decide)).trans h82
  have hO : ∀ j, j < 56 → F30 j = F j := fun j hj => (o30 j (by omega)).trans (hO j hj)
  refine lv_aload_n X.1.1 X.1.2.1 dX5_init_113 rfl (lv_at hl 0 rfl) ?_
  have hS : WS G F30 56 := ⟨_, _, _, _, _, _, h56, h57, h58, h59, h60, h61, h62, h63, h64, h65, fun j hj => by rcases (show j = 0 ∨ j = 1 ∨ j = 2 ∨ j = 3 by omega) with rfl | rfl | rfl | rfl <;> rfl, fun c hc => by rcases (show c = 0 ∨ c = 1 ∨ c = 2 ∨ c = 3 by omega) with rfl | rfl | rfl | rfl; exact ⟨_, _, _, _, _, _, _, _, _, _, h66, h67⟩; exact ⟨_, _, _, _, _, _, _, _, _, _, h68, h69⟩; exact ⟨_, _, _, _, _, _, _, _, _, _, h70, h71⟩; exact ⟨_, _, _, _, _, _, _, _, _, _, h72, h73⟩, ⟨_, _, _, _, _, _, _, _, _, h74, h75, h76, h77, h78, h79, h80, h81, h82⟩⟩
  refine sx_cvV (As := []) (rest := []) X (mX5_begin l (B := 56) (n := 83) (w := w) (by decide) hS) gX5_init_X5_begin rfl yv_X5_begin ⟨Nat.le_of_ble_eq_true rfl, Nat.le_of_ble_eq_true rfl⟩ h56 (by decide) rfl rfl hl.1 rfl (Nat.le_of_ble_eq_true rfl) dX5_init_114 ⟨Nat.le_of_ble_eq_true rfl, Nat.le_of_ble_eq_true rfl⟩ hs rfl hP (fun F31 H31 l31 hp hP => ?_)
  obtain ⟨hW1, o31⟩ := hp
  have hO : ∀ j, j < 56 → F31 j = F j := fun j hj => (o31 j (by omega)).trans (hO j hj)
  rw [hQ]
  exact sx_vret X rfl hs rfl hP dX5_init_117 (⟨hW1, hO⟩)
theorem ys_X0_init : yX0_init.cls ≠ "java/lang/invoke/MethodHandle" ∧ yX0_init.cls ≠ "java/lang/invoke/VarHandle" ∧ (parseMethodDescriptor yX0_init.desc).map (fun d => d.parameters.length) = some 0 := by decide +kernel
theorem yv_X0_init : yX0_init.cls = RX0 ∧ yX0_init.cls ≠ "java/lang/invoke/MethodHandle" ∧ yX0_init.cls ≠ "java/lang/invoke/VarHandle" ∧ (parseMethodDescriptor yX0_init.desc).map (fun d => d.parameters.length) = some 0 := ⟨rfl, ys_X0_init⟩
theorem lk_X0_init_methodLink_RX0_3_objectInit : (.methodLink RX0 3 objectInit : Cond) ∈ wsX0_init := List.mem_cons_of_mem _ (List.mem_append_left _ (List.mem_of_getElem? (i := 0) rfl))
theorem lk_X0_init_instanceMethod_objectInit : (.instanceMethod objectInit : Cond) ∈ wsX0_init := List.mem_cons_of_mem _ (List.mem_append_left _ (List.mem_of_getElem? (i := 1) rfl))
theorem lk_X0_init_code_objectInit_0xb1_1_none : (.code objectInit ⟨#[0xb1]⟩ 1 none : Cond) ∈ wsX0_init := List.mem_cons_of_mem _ (List.mem_append_left _ (List.mem_of_getElem? (i := 2) rfl))
theorem lk_X0_init_arrayClass_int : (.arrayClass .int : Cond) ∈ wsX0_init := List.mem_cons_of_mem _ (List.mem_append_left _ (List.mem_of_getElem? (i := 3) rfl))
theorem in_X0_init_X0 : ∀ w ∈ wsX00, w ∈ wsX0_init := fun _ h => List.mem_cons_of_mem _ (List.mem_append_right _ (h))
theorem lk_X0_init_fieldLink_RX0_9_RaceWatch_Book_locks_I : (.fieldLink RX0 9 "RaceWatch$Book" "locks" "[I" : Cond) ∈ wsX0_init := List.mem_cons_of_mem _ (List.mem_append_left _ (List.mem_of_getElem? (i := 4) rfl))
theorem lk_X0_init_fieldLink_RX0_15_RaceWatch_Book_opened_I : (.fieldLink RX0 15 "RaceWatch$Book" "opened" "[I" : Cond) ∈ wsX0_init := List.mem_cons_of_mem _ (List.mem_append_left _ (List.mem_of_getElem? (i := 5) rfl))
abbrev rmX0_init : Room := { frames := 1, cells := 2, slots := 48, locals := 12 }
set_option maxHeartbeats 800000 in
set_option maxRecDepth 100000 in
theorem mX0_init {G : sx_G} (l : Launch) {F : Nat → va_E}  (h85 : F (85) = ob 0 ([.int (0), .null, .null])) : sx_V G l yX0_init wsX0_init rmX0_init [rf G 85] (86) F (88) (fun F1 => F1 85 = ob 0 ([.int (0), rf G 86, rf G 87]) ∧ F1 86 = rI G 24 (fun _ => 0) ∧ F1 87 = rI G 24 (fun _ => 0) ∧ ∀ j, j < 85 → F1 j = F j) := by
  refine sx_enter (cc := cX0_init) (maxL := 1) (ret := none) (own := RX0) (nm := "<init>") (by decide) rfl rfl rfl (Nat.le_of_ble_eq_true rfl) ?_
  intro pp ee ss mm args below meth kc ls Q hQ X hs hP hl
  have hl : lv_has ls 1 [(0, rf G 85)] := hl
  have hO : ∀ j, j < 85 → F j = F j := fun _ _ => rfl
  refine lv_aload_n X.1.1 X.1.2.1 dX0_init_0 rfl (lv_at hl 0 rfl) ?_
  refine sx_obj X lk_X0_init_methodLink_RX0_3_objectInit lk_X0_init_instanceMethod_objectInit lk_X0_init_code_objectInit_0xb1_1_none hl.1 dX0_init_1 (Nat.le_of_ble_eq_true rfl) (Nat.le_of_ble_eq_true rfl) ?_
  refine lv_aload_n X.1.1 X.1.2.1 dX0_init_4 rfl (lv_at hl 0 rfl) ?_
  refine lv_bipush (v := nI 24) X.1.1 X.1.2.1 dX0_init_5 (by decide) ?_
  refine sx_newi X hP 24 lk_X0_init_arrayClass_int (by decide) (Nat.le_of_ble_eq_true rfl) (Nat.le_of_ble_eq_true rfl) hs rfl dX0_init_7 (fun F1 H1 e1 o1 hP => ?_)
  have h86 : F1 (86) = rI G (24) (fun _ => 0) := e1
  have h85 := (o1 (85) (by decide)).trans h85
  have hO : ∀ j, j < 85 → F1 j = F j := fun j hj => (o1 j (by omega)).trans (hO j hj)
  refine sx_putF X hP in_X0_init_X0 tyX0 tyX0_ok nmX0 h85 (by decide) rfl 1 (by decide) lk_X0_init_fieldLink_RX0_9_RaceWatch_Book_locks_I rfl rfl rfl rfl rfl (Nat.le_of_ble_eq_true rfl) dX0_init_9 (fun F2 H2 l2 e2 o2 hP => ?_)
  have h85 : F2 (85) = ob 0 ([.int (0), rf G 86, .null]) := e2
  have h86 := (o2 (86) (by decide)).trans h86
  have hO : ∀ j, j < 85 → F2 j = F j := fun j hj => (o2 j (by omega)).trans (hO j hj)
  refine lv_aload_n X.1.1 X.1.2.1 dX0_init_12 rfl (lv_at hl 0 rfl) ?_
  refine lv_bipush (v := nI 24) X.1.1 X.1.2.1 dX0_init_13 (by decide) ?_
  refine sx_newi X hP 24 lk_X0_init_arrayClass_int (by decide) (Nat.le_of_ble_eq_true rfl) (Nat.le_of_ble_eq_true rfl) hs rfl dX0_init_15 (fun F3 H3 e3 o3 hP => ?_)
  have h87 : F3 (87) = rI G (24) (fun _ => 0) := e3
  have h85 := (o3 (85) (by decide)).trans h85
  have h86 := (o3 (86) (by decide)).trans h86
  have hO : ∀ j, j < 85 → F3 j = F j := fun j hj => (o3 j (by omega)).trans (hO j hj)
  refine sx_putF X hP in_X0_init_X0 tyX0 tyX0_ok nmX0 h85 (by decide) rfl 2 (by decide) lk_X0_init_fieldLink_RX0_15_RaceWatch_Book_opened_I rfl rfl rfl rfl rfl (Nat.le_of_ble_eq_true rfl) dX0_init_17 (fun F4 H4 l4 e4 o4 hP => ?_)
  have h85 : F4 (85) = ob 0 ([.int (0), rf G 86, rf G 87]) := e4
  have h86 := (o4 (86) (by decide)).trans h86
  have h87 := (o4 (87) (by decide)).trans h87
  have hO : ∀ j, j < 85 → F4 j = F j := fun j hj => (o4 j (by omega)).trans (hO j hj)
  rw [hQ]
  exact sx_vret X rfl hs rfl hP dX0_init_20 (⟨h85, h86, h87, hO⟩)
theorem ys_X4_init : yX4_init.cls ≠ "java/lang/invoke/MethodHandle" ∧ yX4_init.cls ≠ "java/lang/invoke/VarHandle" ∧ (parseMethodDescriptor yX4_init.desc).map (fun d => d.parameters.length) = some 0 := by decide +kernel
theorem yv_X4_init : yX4_init.cls = RX4 ∧ yX4_init.cls ≠ "java/lang/invoke/MethodHandle" ∧ yX4_init.cls ≠ "java/lang/invoke/VarHandle" ∧ (parseMethodDescriptor yX4_init.desc).map (fun d => d.parameters.length) = some 0 := ⟨rfl, ys_X4_init⟩
theorem lk_X4_init_methodLink_RX4_3_objectInit : (.methodLink RX4 3 objectInit : Cond) ∈ wsX4_init := List.mem_cons_of_mem _ (List.mem_append_left _ (List.mem_append_left _ (List.mem_of_getElem? (i := 0) rfl)))
theorem lk_X4_init_instanceMethod_objectInit : (.instanceMethod objectInit : Cond) ∈ wsX4_init := List.mem_cons_of_mem _ (List.mem_append_left _ (List.mem_append_left _ (List.mem_of_getElem? (i := 1) rfl)))
theorem lk_X4_init_code_objectInit_0xb1_1_none : (.code objectInit ⟨#[0xb1]⟩ 1 none : Cond) ∈ wsX4_init := List.mem_cons_of_mem _ (List.mem_append_left _ (List.mem_append_left _ (List.mem_of_getElem? (i := 2) rfl)))
theorem in_X4_init_X4 : ∀ w ∈ wsX40, w ∈ wsX4_init := fun _ h => List.mem_cons_of_mem _ (List.mem_append_left _ (List.mem_append_right _ (h)))
theorem lk_X4_init_fieldLink_RX4_9_RaceWatch_Telling_faultAt_I : (.fieldLink RX4 9 "RaceWatch$Telling" "faultAt" "I" : Cond) ∈ wsX4_init := List.mem_cons_of_mem _ (List.mem_append_left _ (List.mem_append_left _ (List.mem_of_getElem? (i := 3) rfl)))
theorem in_X4_init_X0 : ∀ w ∈ wsX00, w ∈ wsX4_init := fun _ h => List.mem_cons_of_mem _ (List.mem_append_right _ (h))
theorem lk_X4_init_classLink_RX4_15_RX0 : (.classLink RX4 15 RX0 : Cond) ∈ wsX4_init := List.mem_cons_of_mem _ (List.mem_append_left _ (List.mem_append_left _ (List.mem_of_getElem? (i := 4) rfl)))
theorem lk_X4_init_instantiable_RX0_3 : (.instantiable RX0 3 : Cond) ∈ wsX4_init := List.mem_cons_of_mem _ (List.mem_append_left _ (List.mem_append_left _ (List.mem_of_getElem? (i := 5) rfl)))
theorem lk_X4_init_initialized_RX0 : (.initialized RX0 : Cond) ∈ wsX4_init := List.mem_cons_of_mem _ (List.mem_append_left _ (List.mem_append_left _ (List.mem_of_getElem? (i := 6) rfl)))
theorem lk_X4_init_instanceMethod_yX0_init : (.instanceMethod yX0_init : Cond) ∈ wsX4_init := List.mem_cons_of_mem _ (List.mem_append_left _ (List.mem_append_left _ (List.mem_of_getElem? (i := 12) rfl)))
theorem lk_X4_init_fieldLink_RX4_18_RaceWatch_Telling_book_LRaceWatch_Book : (.fieldLink RX4 18 "RaceWatch$Telling" "book" "LRaceWatch$Book;" : Cond) ∈ wsX4_init := List.mem_cons_of_mem _ (List.mem_append_left _ (List.mem_append_left _ (List.mem_of_getElem? (i := 7) rfl)))
theorem lk_X4_init_arrayClass_int : (.arrayClass .int : Cond) ∈ wsX4_init := List.mem_cons_of_mem _ (List.mem_append_left _ (List.mem_append_left _ (List.mem_of_getElem? (i := 8) rfl)))
theorem lk_X4_init_fieldLink_RX4_22_RaceWatch_Telling_letters_I : (.fieldLink RX4 22 "RaceWatch$Telling" "letters" "[I" : Cond) ∈ wsX4_init := List.mem_cons_of_mem _ (List.mem_append_left _ (List.mem_append_left _ (List.mem_of_getElem? (i := 9) rfl)))
theorem lk_X4_init_fieldLink_RX4_26_RaceWatch_Telling_lockOf_I : (.fieldLink RX4 26 "RaceWatch$Telling" "lockOf" "[I" : Cond) ∈ wsX4_init := List.mem_cons_of_mem _ (List.mem_append_left _ (List.mem_append_left _ (List.mem_of_getElem? (i := 10) rfl)))
theorem lk_X4_init_fieldLink_RX4_29_RaceWatch_Telling_threadBefore_I : (.fieldLink RX4 29 "RaceWatch$Telling" "threadBefore" "[I" : Cond) ∈ wsX4_init := List.mem_cons_of_mem _ (List.mem_append_left _ (List.mem_append_left _ (List.mem_of_getElem? (i := 11) rfl)))
abbrev rmX4_init : Room := { frames := 2, cells := 6, slots := 771, locals := 32 }
set_option maxHeartbeats 800000 in
set_option maxRecDepth 100000 in
theorem mX4_init {G : sx_G} (l : Launch) {F : Nat → va_E}  (h84 : F (84) = ob 4 ([.int (0), .int (0), .null, .null, .int (0), .int (0), .int (0), .int (0), .int (0), .null, .null])) : sx_V G l yX4_init wsX4_init rmX4_init [rf G 84] (85) F (91) (fun F1 => F1 84 = ob 4 ([.int (0), .int (-1), rf G 85, rf G 88, .int (0), .int (0), .int (0), .int (0), .int (0), rf G 89, rf G 90]) ∧ F1 85 = ob 0 ([.int (0), rf G 86, rf G 87]) ∧ F1 86 = rI G (24) (fun _ => 0) ∧ F1 87 = rI G (24) (fun _ => 0) ∧ F1 88 = rI G (240) (fun _ => 0) ∧ F1 89 = rI G (240) (fun _ => 0) ∧ F1 90 = rI G (240) (fun _ => 0) ∧ ∀ j, j < 84 → F1 j = F j) := by
  refine sx_enter (cc := cX4_init) (maxL := 1) (ret := none) (own := RX4) (nm := "<init>") (by decide) rfl rfl rfl (Nat.le_of_ble_eq_true rfl) ?_
  intro pp ee ss mm args below meth kc ls Q hQ X hs hP hl
  have hl : lv_has ls 1 [(0, rf G 84)] := hl
  have hO : ∀ j, j < 84 → F j = F j := fun _ _ => rfl
  refine lv_aload_n X.1.1 X.1.2.1 dX4_init_0 rfl (lv_at hl 0 rfl) ?_
  refine sx_obj X lk_X4_init_methodLink_RX4_3_objectInit lk_X4_init_instanceMethod_objectInit lk_X4_init_code_objectInit_0xb1_1_none hl.1 dX4_init_1 (Nat.le_of_ble_eq_true rfl) (Nat.le_of_ble_eq_true rfl) ?_
  refine lv_aload_n X.1.1 X.1.2.1 dX4_init_4 rfl (lv_at hl 0 rfl) ?_
  refine lv_iconst (v := (-1)) X.1.1 X.1.2.1 dX4_init_5 (by decide) ?_
  refine sx_put X hP in_X4_init_X4 tyX4 tyX4_ok nmX4 h84 (by decide) rfl 1 (by decide) lk_X4_init_fieldLink_RX4_9_RaceWatch_Telling_faultAt_I rfl rfl rfl (Nat.le_of_ble_eq_true rfl) dX4_init_6 (fun F1 H1 l1 e1 o1 hP => ?_)
  have h84 : F1 (84) = ob 4 ([.int (0), .int (-1), .null, .null, .int (0), .int (0), .int (0), .int (0), .int (0), .null, .null]) := e1
  have hO : ∀ j, j < 84 → F1 j = F j := fun j hj => (o1 j (by omega)).trans (hO j hj)
  refine lv_aload_n X.1.1 X.1.2.1 dX4_init_9 rfl (lv_at hl 0 rfl) ?_
  refine sx_new (ci := 0) X hP in_X4_init_X0 tyX0 tyX0_ok lk_X4_init_classLink_RX4_15_RX0 lk_X4_init_instantiable_RX0_3 lk_X4_init_initialized_RX0 rfl (fs := [.int (0), .null, .null]) (fun j hj => by rcases (show j = 0 ∨ j = 1 ∨ j = 2 by omega) with rfl | rfl | rfl <;> rfl) (Nat.le_of_ble_eq_true rfl) (Nat.le_of_ble_eq_true rfl) hs rfl dX4_init_10 (fun F2 H2 e2 o2 hP => ?_)
  have h85 : F2 (85) = ob 0 ([.int (0), .null, .null]) := e2
  have h84 := (o2 (84) (by decide)).trans h84
  have hO : ∀ j, j < 84 → F2 j = F j := fun j hj => (o2 j (by omega)).trans (hO j hj)
  refine lv_dup X.1.1 X.1.2.1 dX4_init_13 rfl ?_
  refine sx_cni (As := []) (rest := rf G 85 :: rf G 84 :: []) X (mX0_init l h85) gX4_init_X0_init_n17 rfl X.2.2.2.2.2.2.2.2.1 lk_X4_init_initialized_RX0 lk_X4_init_instanceMethod_yX0_init rfl ys_X0_init ⟨Nat.le_of_ble_eq_true rfl, Nat.le_of_ble_eq_true rfl⟩ hl.1 rfl (Nat.le_of_ble_eq_true rfl) dX4_init_14 ⟨Nat.le_of_ble_eq_true rfl, Nat.le_of_ble_eq_true rfl⟩ hs rfl hP (fun F3 H3 l3 hp hP => ?_)
  obtain ⟨e3, f3, g3, o3⟩ := hp
  have h84 := (o3 (84) (by decide)).trans h84
  have h85 : F3 (85) = ob 0 ([.int (0), rf G 86, rf G 87]) := e3
  have h86 : F3 (86) = rI G (24) (fun _ => 0) := f3
  have h87 : F3 (87) = rI G (24) (fun _ => 0) := g3
  have hO : ∀ j, j < 84 → F3 j = F j := fun j hj => (o3 j (by omega)).trans (hO j hj)
  refine sx_putF X hP in_X4_init_X4 tyX4 tyX4_ok nmX4 h84 (by decide) rfl 2 (by decide) lk_X4_init_fieldLink_RX4_18_RaceWatch_Telling_book_LRaceWatch_Book rfl rfl rfl rfl rfl (Nat.le_of_ble_eq_true rfl) dX4_init_17 (fun F4 H4 l4 e4 o4 hP => ?_)
  have h84 : F4 (84) = ob 4 ([.int (0), .int (-1), rf G 85, .null, .int (0), .int (0), .int (0), .int (0), .int (0), .null, .null]) := e4
  have h85 := (o4 (85) (by decide)).trans h85
  have h86 := (o4 (86) (by decide)).trans h86
  have h87 := (o4 (87) (by decide)).trans h87
  have hO : ∀ j, j < 84 → F4 j = F j := fun j hj => (o4 j (by omega)).trans (hO j hj)
  refine lv_aload_n X.1.1 X.1.2.1 dX4_init_20 rfl (lv_at hl 0 rfl) ?_
  refine lv_sipush (v := nI 240) X.1.1 X.1.2.1 dX4_init_21 (by decide) ?_
  refine sx_newi X hP 240 lk_X4_init_arrayClass_int (by decide) (Nat.le_of_ble_eq_true rfl) (Nat.le_of_ble_eq_true rfl) hs rfl dX4_init_24 (fun F5 H5 e5 o5 hP => ?_)
  have h88 : F5 (88) = rI G (240) (fun _ => 0) := e5
  have h84 := (o5 (84) (by decide)).trans h84
  have h85 := (o5 (85) (by decide)).trans h85
  have h86 := (o5 (86) (by decide)).trans h86
  have h87 := (o5 (87) (by decide)).trans h87
  have hO : ∀ j, j < 84 → F5 j = F j := fun j hj => (o5 j (by omega)).trans (hO j hj)
  refine sx_putF X hP in_X4_init_X4 tyX4 tyX4_ok nmX4 h84 (by decide) rfl 3 (by decide) lk_X4_init_fieldLink_RX4_22_RaceWatch_Telling_letters_I rfl rfl rfl rfl rfl (Nat.le_of_ble_eq_true rfl) dX4_init_26 (fun F6 H6 l6 e6 o6 hP => ?_)
  have h84 : F6 (84) = ob 4 ([.int (0), .int (-1), rf G 85, rf G 88, .int (0), .int (0), .int (0), .int (0), .int (0), .null, .null]) := e6
  have h85 := (o6 (85) (by decide)).trans h85
  have h86 := (o6 (86) (by decide)).trans h86
  have h87 := (o6 (87) (by decide)).trans h87
  have h88 := (o6 (88) (by decide)).trans h88
  have hO : ∀ j, j < 84 → F6 j = F j := fun j hj => (o6 j (by omega)).trans (hO j hj)
  refine lv_aload_n X.1.1 X.1.2.1 dX4_init_29 rfl (lv_at hl 0 rfl) ?_
  refine lv_sipush (v := nI 240) X.1.1 X.1.2.1 dX4_init_30 (by decide) ?_
  refine sx_newi X hP 240 lk_X4_init_arrayClass_int (by decide) (Nat.le_of_ble_eq_true rfl) (Nat.le_of_ble_eq_true rfl) hs rfl dX4_init_33 (fun F7 H7 e7 o7 hP => ?_)
  have h89 : F7 (89) = rI G (240) (fun _ => 0) := e7
  have h84 := (o7 (84) (by decide)).trans h84
  have h85 := (o7 (85) (by decide)).trans h85
  have h86 := (o7 (86) (by decide)).trans h86
  have h87 := (o7 (87) (by decide)).trans h87
  have h88 := (o7 (88) (by decide)).trans h88
  have hO : ∀ j, j < 84 → F7 j = F j := fun j hj => (o7 j (by omega)).trans (hO j hj)
  refine sx_putF X hP in_X4_init_X4 tyX4 tyX4_ok nmX4 h84 (by decide) rfl 9 (by decide) lk_X4_init_fieldLink_RX4_26_RaceWatch_Telling_lockOf_I rfl rfl rfl rfl rfl (Nat.le_of_ble_eq_true rfl) dX4_init_35 (fun F8 H8 l8 e8 o8 hP => ?_)
  have h84 : F8 (84) = ob 4 ([.int (0), .int (-1), rf G 85, rf G 88, .int (0), .int (0), .int (0), .int (0), .int (0), rf G 89, .null]) := e8
  have h85 := (o8 (85) (by decide)).trans h85
  have h86 := (o8 (86) (by decide)).trans h86
  have h87 := (o8 (87) (by decide)).trans h87
  have h88 := (o8 (88) (by decide)).trans h88
  have h89 := (o8 (89) (by decide)).trans h89
  have hO : ∀ j, j < 84 → F8 j = F j := fun j hj => (o8 j (by omega)).trans (hO j hj)
  refine lv_aload_n X.1.1 X.1.2.1 dX4_init_38 rfl (lv_at hl 0 rfl) ?_
  refine lv_sipush (v := nI 240) X.1.1 X.1.2.1 dX4_init_39 (by decide) ?_
  refine sx_newi X hP 240 lk_X4_init_arrayClass_int (by decide) (Nat.le_of_ble_eq_true rfl) (Nat.le_of_ble_eq_true rfl) hs rfl dX4_init_42 (fun F9 H9 e9 o9 hP => ?_)
  have h90 : F9 (90) = rI G (240) (fun _ => 0) := e9
  have h84 := (o9 (84) (by decide)).trans h84
  have h85 := (o9 (85) (by decide)).trans h85
  have h86 := (o9 (86) (by decide)).trans h86
  have h87 := (o9 (87) (by decide)).trans h87
  have h88 := (o9 (88) (by decide)).trans h88
  have h89 := (o9 (89) (by decide)).trans h89
  have hO : ∀ j, j < 84 → F9 j = F j := fun j hj => (o9 j (by omega)).trans (hO j hj)
  refine sx_putF X hP in_X4_init_X4 tyX4 tyX4_ok nmX4 h84 (by decide) rfl 10 (by decide) lk_X4_init_fieldLink_RX4_29_RaceWatch_Telling_threadBefore_I rfl rfl rfl rfl rfl (Nat.le_of_ble_eq_true rfl) dX4_init_44 (fun F10 H10 l10 e10 o10 hP => ?_)
  have h84 : F10 (84) = ob 4 ([.int (0), .int (-1), rf G 85, rf G 88, .int (0), .int (0), .int (0), .int (0), .int (0), rf G 89, rf G 90]) := e10
  have h85 := (o10 (85) (by decide)).trans h85
  have h86 := (o10 (86) (by decide)).trans h86
  have h87 := (o10 (87) (by decide)).trans h87
  have h88 := (o10 (88) (by decide)).trans h88
  have h89 := (o10 (89) (by decide)).trans h89
  have h90 := (o10 (90) (by decide)).trans h90
  have hO : ∀ j, j < 84 → F10 j = F j := fun j hj => (o10 j (by omega)).trans (hO j hj)
  rw [hQ]
  exact sx_vret X rfl hs rfl hP dX4_init_47 (⟨h84, h85, h86, h87, h88, h89, h90, hO⟩)
theorem ys_X6_init : yX6_init.cls ≠ "java/lang/invoke/MethodHandle" ∧ yX6_init.cls ≠ "java/lang/invoke/VarHandle" ∧ (parseMethodDescriptor yX6_init.desc).map (fun d => d.parameters.length) = some 0 := by decide +kernel
theorem yv_X6_init : yX6_init.cls = RX6 ∧ yX6_init.cls ≠ "java/lang/invoke/MethodHandle" ∧ yX6_init.cls ≠ "java/lang/invoke/VarHandle" ∧ (parseMethodDescriptor yX6_init.desc).map (fun d => d.parameters.length) = some 0 := ⟨rfl, ys_X6_init⟩
theorem lk_X6_init_methodLink_RX6_1_objectInit : (.methodLink RX6 1 objectInit : Cond) ∈ wsX6_init := List.mem_cons_of_mem _ (List.mem_append_left _ (List.mem_append_left _ (List.mem_append_left _ (List.mem_append_left _ (List.mem_append_left _ (List.mem_append_left _ (List.mem_append_left _ (List.mem_append_left _ (List.mem_of_getElem? (i := 0) rfl)))))))))
theorem lk_X6_init_instanceMethod_objectInit : (.instanceMethod objectInit : Cond) ∈ wsX6_init := List.mem_cons_of_mem _ (List.mem_append_left _ (List.mem_append_left _ (List.mem_append_left _ (List.mem_append_left _ (List.mem_append_left _ (List.mem_append_left _ (List.mem_append_left _ (List.mem_append_left _ (List.mem_of_getElem? (i := 1) rfl)))))))))
theorem lk_X6_init_code_objectInit_0xb1_1_none : (.code objectInit ⟨#[0xb1]⟩ 1 none : Cond) ∈ wsX6_init := List.mem_cons_of_mem _ (List.mem_append_left _ (List.mem_append_left _ (List.mem_append_left _ (List.mem_append_left _ (List.mem_append_left _ (List.mem_append_left _ (List.mem_append_left _ (List.mem_append_left _ (List.mem_of_getElem? (i := 2) rfl)))))))))
theorem in_X6_init_X5 : ∀ w ∈ wsX50, w ∈ wsX6_init := fun _ h => List.mem_cons_of_mem _ (List.mem_append_left _ (List.mem_append_left _ (List.mem_append_left _ (List.mem_append_left _ (List.mem_append_left _ (List.mem_append_left _ (List.mem_append_right _ (h))))))))
theorem lk_X6_init_classLink_RX6_7_RX5 : (.classLink RX6 7 RX5 : Cond) ∈ wsX6_init := List.mem_cons_of_mem _ (List.mem_append_left _ (List.mem_append_left _ (List.mem_append_left _ (List.mem_append_left _ (List.mem_append_left _ (List.mem_append_left _ (List.mem_append_left _ (List.mem_append_left _ (List.mem_of_getElem? (i := 3) rfl)))))))))
theorem lk_X6_init_instantiable_RX5_7 : (.instantiable RX5 7 : Cond) ∈ wsX6_init := List.mem_cons_of_mem _ (List.mem_append_left _ (List.mem_append_left _ (List.mem_append_left _ (List.mem_append_left _ (List.mem_append_left _ (List.mem_append_left _ (List.mem_append_left _ (List.mem_append_left _ (List.mem_of_getElem? (i := 4) rfl)))))))))
theorem lk_X6_init_initialized_RX5 : (.initialized RX5 : Cond) ∈ wsX6_init := List.mem_cons_of_mem _ (List.mem_append_left _ (List.mem_append_left _ (List.mem_append_left _ (List.mem_append_left _ (List.mem_append_left _ (List.mem_append_left _ (List.mem_append_left _ (List.mem_append_left _ (List.mem_of_getElem? (i := 5) rfl)))))))))
theorem lk_X6_init_methodLink_RX6_9_yX5_init : (.methodLink RX6 9 yX5_init : Cond) ∈ wsX6_init := List.mem_cons_of_mem _ (List.mem_append_left _ (List.mem_append_left _ (List.mem_append_left _ (List.mem_append_left _ (List.mem_append_left _ (List.mem_append_left _ (List.mem_append_left _ (List.mem_append_left _ (List.mem_of_getElem? (i := 14) rfl)))))))))
theorem lk_X6_init_instanceMethod_yX5_init : (.instanceMethod yX5_init : Cond) ∈ wsX6_init := List.mem_cons_of_mem _ (List.mem_append_left _ (List.mem_append_left _ (List.mem_append_left _ (List.mem_append_left _ (List.mem_append_left _ (List.mem_append_left _ (List.mem_append_left _ (List.mem_append_left _ (List.mem_of_getElem? (i := 15) rfl)))))))))
theorem in_X6_init_X6 : ∀ w ∈ wsX60, w ∈ wsX6_init := fun _ h => List.mem_cons_of_mem _ (List.mem_append_left _ (List.mem_append_left _ (List.mem_append_left _ (List.mem_append_left _ (List.mem_append_left _ (List.mem_append_right _ (h)))))))
theorem lk_X6_init_fieldLink_RX6_10_RaceWatch_world_LRaceWatch_World : (.fieldLink RX6 10 "RaceWatch" "world" "LRaceWatch$World;" : Cond) ∈ wsX6_init := List.mem_cons_of_mem _ (List.mem_append_left _ (List.mem_append_left _ (List.mem_append_left _ (List.mem_append_left _ (List.mem_append_left _ (List.mem_append_left _ (List.mem_append_left _ (List.mem_append_left _ (List.mem_of_getElem? (i := 6) rfl)))))))))
theorem lk_X6_init_fieldLink_RX6_16_RaceWatch_images_LRaceWatch_World : (.fieldLink RX6 16 "RaceWatch" "images" "[LRaceWatch$World;" : Cond) ∈ wsX6_init := List.mem_cons_of_mem _ (List.mem_append_left _ (List.mem_append_left _ (List.mem_append_left _ (List.mem_append_left _ (List.mem_append_left _ (List.mem_append_left _ (List.mem_append_left _ (List.mem_append_left _ (List.mem_of_getElem? (i := 7) rfl)))))))))
theorem lk_X6_init_arrayClass_boolean : (.arrayClass .boolean : Cond) ∈ wsX6_init := List.mem_cons_of_mem _ (List.mem_append_left _ (List.mem_append_left _ (List.mem_append_left _ (List.mem_append_left _ (List.mem_append_left _ (List.mem_append_left _ (List.mem_append_left _ (List.mem_append_left _ (List.mem_of_getElem? (i := 8) rfl)))))))))
theorem lk_X6_init_fieldLink_RX6_20_RaceWatch_isKept_Z : (.fieldLink RX6 20 "RaceWatch" "isKept" "[Z" : Cond) ∈ wsX6_init := List.mem_cons_of_mem _ (List.mem_append_left _ (List.mem_append_left _ (List.mem_append_left _ (List.mem_append_left _ (List.mem_append_left _ (List.mem_append_left _ (List.mem_append_left _ (List.mem_append_left _ (List.mem_of_getElem? (i := 9) rfl)))))))))
theorem in_X6_init_X4 : ∀ w ∈ wsX40, w ∈ wsX6_init := fun _ h => List.mem_cons_of_mem _ (List.mem_append_left _ (List.mem_append_left _ (List.mem_append_left _ (List.mem_append_left _ (List.mem_append_right _ (h))))))
theorem lk_X6_init_classLink_RX6_24_RX4 : (.classLink RX6 24 RX4 : Cond) ∈ wsX6_init := List.mem_cons_of_mem _ (List.mem_append_left _ (List.mem_append_left _ (List.mem_append_left _ (List.mem_append_left _ (List.mem_append_left _ (List.mem_append_left _ (List.mem_append_left _ (List.mem_append_left _ (List.mem_of_getElem? (i := 10) rfl)))))))))
theorem lk_X6_init_instantiable_RX4_11 : (.instantiable RX4 11 : Cond) ∈ wsX6_init := List.mem_cons_of_mem _ (List.mem_append_left _ (List.mem_append_left _ (List.mem_append_left _ (List.mem_append_left _ (List.mem_append_left _ (List.mem_append_left _ (List.mem_append_left _ (List.mem_append_left _ (List.mem_of_getElem? (i := 11) rfl)))))))))
theorem lk_X6_init_initialized_RX4 : (.initialized RX4 : Cond) ∈ wsX6_init := List.mem_cons_of_mem _ (List.mem_append_left _ (List.mem_append_left _ (List.mem_append_left _ (List.mem_append_left _ (List.mem_append_left _ (List.mem_append_left _ (List.mem_append_left _ (List.mem_append_left _ (List.mem_of_getElem? (i := 12) rfl)))))))))
theorem lk_X6_init_instanceMethod_yX4_init : (.instanceMethod yX4_init : Cond) ∈ wsX6_init := List.mem_cons_of_mem _ (List.mem_append_left _ (List.mem_append_left _ (List.mem_append_left _ (List.mem_append_left _ (List.mem_append_left _ (List.mem_append_left _ (List.mem_append_left _ (List.mem_append_right _ (List.mem_append_right _ (List.mem_append_right _ (List.mem_append_right _ (List.mem_of_getElem? (i := 6) rfl))))))))))))
theorem lk_X6_init_fieldLink_RX6_27_RaceWatch_telling_LRaceWatch_Telling : (.fieldLink RX6 27 "RaceWatch" "telling" "LRaceWatch$Telling;" : Cond) ∈ wsX6_init := List.mem_cons_of_mem _ (List.mem_append_left _ (List.mem_append_left _ (List.mem_append_left _ (List.mem_append_left _ (List.mem_append_left _ (List.mem_append_left _ (List.mem_append_left _ (List.mem_append_left _ (List.mem_of_getElem? (i := 13) rfl)))))))))
abbrev rmX6_init : Room := { frames := 5, cells := 90, slots := 11172, locals := 104 }
set_option maxHeartbeats 800000 in
set_option maxRecDepth 100000 in
theorem mX6_init {G : sx_G} (l : Launch) {F : Nat → va_E} {w : Nat → Int32}  (h0 : F (0) = ob 6 ([.null, .null, .null, .null])) : sx_V G l yX6_init wsX6_init rmX6_init [rf G 0] (1) F (91) (fun F1 => F1 0 = ob 6 ([rf G 1, rf G 28, rf G 83, rf G 84]) ∧ WV G F1 (iniF w) 0 1 ∧ (∃ im, F1 28 = rO G 2 im ∧ im 0 = some (sx_b G + 29) ∧ im 1 = some (sx_b G + 56)) ∧ WS G F1 29 ∧ WS G F1 56 ∧ F1 83 = rZ G 2 (fun _ => 0) ∧ F1 84 = ob 4 ([.int (0), .int (-1), rf G 85, rf G 88, .int (0), .int (0), .int (0), .int (0), .int (0), rf G 89, rf G 90]) ∧ F1 85 = ob 0 ([.int (0), rf G 86, rf G 87]) ∧ F1 86 = rI G (24) (fun _ => 0) ∧ F1 87 = rI G (24) (fun _ => 0) ∧ F1 88 = rI G (240) (fun _ => 0) ∧ F1 89 = rI G (240) (fun _ => 0) ∧ F1 90 = rI G (240) (fun _ => 0)) := by
  refine sx_enter (cc := cX6_init) (maxL := 1) (ret := none) (own := RX6) (nm := "<init>") (by decide) rfl rfl rfl (Nat.le_of_ble_eq_true rfl) ?_
  intro pp ee ss mm args below meth kc ls Q hQ X hs hP hl
  have hl : lv_has ls 1 [(0, rf G 0)] := hl
  have hO : ∀ j, j < 0 → F j = F j := fun _ _ => rfl
  refine lv_aload_n X.1.1 X.1.2.1 dX6_init_0 rfl (lv_at hl 0 rfl) ?_
  refine sx_obj X lk_X6_init_methodLink_RX6_1_objectInit lk_X6_init_instanceMethod_objectInit lk_X6_init_code_objectInit_0xb1_1_none hl.1 dX6_init_1 (Nat.le_of_ble_eq_true rfl) (Nat.le_of_ble_eq_true rfl) ?_
  refine lv_aload_n X.1.1 X.1.2.1 dX6_init_4 rfl (lv_at hl 0 rfl) ?_
  refine sx_new (ci := 5) X hP in_X6_init_X5 tyX5 tyX5_ok lk_X6_init_classLink_RX6_7_RX5 lk_X6_init_instantiable_RX5_7 lk_X6_init_initialized_RX5 rfl (fs := [.null, .null, .null, .null, .null, .null, .null]) (fun j hj => by rcases (show j = 0 ∨ j = 1 ∨ j = 2 ∨ j = 3 ∨ j = 4 ∨ j = 5 ∨ j = 6 by omega) with rfl | rfl | rfl | rfl | rfl | rfl | rfl <;> rfl) (Nat.le_of_ble_eq_true rfl) (Nat.le_of_ble_eq_true rfl) hs rfl dX6_init_5 (fun F1 H1 e1 o1 hP => ?_)
  have h1 : F1 (1) = ob 5 ([.null, .null, .null, .null, .null, .null, .null]) := e1
  have h0 := (o1 (0) (by decide)).trans h0
  have hO : ∀ j, j < 0 → F1 j = F j := fun j hj => (o1 j (by omega)).trans (hO j hj)
  refine lv_dup X.1.1 X.1.2.1 dX6_init_8 rfl ?_
  refine sx_ci (As := []) (rest := rf G 1 :: rf G 0 :: []) X (mX5_init_1 l (w := w) h1) gX6_init_X5_init rfl lk_X6_init_initialized_RX5 lk_X6_init_methodLink_RX6_9_yX5_init lk_X6_init_instanceMethod_yX5_init rfl ys_X5_init ⟨Nat.le_of_ble_eq_true rfl, Nat.le_of_ble_eq_true rfl⟩ hl.1 rfl (Nat.le_of_ble_eq_true rfl) dX6_init_9 ⟨Nat.le_of_ble_eq_true rfl, Nat.le_of_ble_eq_true rfl⟩ hs rfl hP (fun F2 H2 l2 hp hP => ?_)
  obtain ⟨hW1, o2⟩ := hp
  have h0 := (o2 (0) (by decide)).trans h0
  have h1 : F2 (1) = ob 5 ([rf G 2, rf G 3, rf G 4, rf G 6, rf G 8, rf G 10, rf G 19]) := WS.obj (WV.shape hW1)
  have hO : ∀ j, j < 0 → F2 j = F j := fun j hj => (o2 j (by omega)).trans (hO j hj)
  refine sx_putF X hP in_X6_init_X6 tyX6 tyX6_ok nmX6 h0 (by decide) rfl 0 (by decide) lk_X6_init_fieldLink_RX6_10_RaceWatch_world_LRaceWatch_World rfl rfl rfl rfl rfl (Nat.le_of_ble_eq_true rfl) dX6_init_12 (fun F3 H3 l3 e3 o3 hP => ?_)
  have h0 : F3 (0) = ob 6 ([rf G 1, .null, .null, .null]) := e3
  have h1 := (o3 (1) (by decide)).trans h1
  have hO : ∀ j, j < 0 → F3 j = F j := fun j hj => (o3 j (by omega)).trans (hO j hj)
  have hW1 := WV.upd hW1 (fun j a b => o3 j (by omega))
  refine lv_aload_n X.1.1 X.1.2.1 dX6_init_15 rfl (lv_at hl 0 rfl) ?_
  refine lv_iconst (v := nI 2) X.1.1 X.1.2.1 dX6_init_16 (by decide) ?_
  refine sx_newo X hP 2 lk_X6_init_classLink_RX6_7_RX5 (by decide) (Nat.le_of_ble_eq_true rfl) (Nat.le_of_ble_eq_true rfl) hs rfl dX6_init_17 (fun F4 H4 e4 o4 hP => ?_)
  have h28 : F4 (28) = rO G (2) (fun _ => none) := e4
  have h0 := (o4 (0) (by decide)).trans h0
  have h1 := (o4 (1) (by decide)).trans h1
  have hO : ∀ j, j < 0 → F4 j = F j := fun j hj => (o4 j (by omega)).trans (hO j hj)
  have hW1 := WV.upd hW1 (fun j a b => o4 j (by omega))
  refine lv_dup X.1.1 X.1.2.1 dX6_init_20 rfl ?_
  refine lv_iconst (v := nI 0) X.1.1 X.1.2.1 dX6_init_21 (by decide) ?_
  refine sx_new (ci := 5) X hP in_X6_init_X5 tyX5 tyX5_ok lk_X6_init_classLink_RX6_7_RX5 lk_X6_init_instantiable_RX5_7 lk_X6_init_initialized_RX5 rfl (fs := [.null, .null, .null, .null, .null, .null, .null]) (fun j hj => by rcases (show j = 0 ∨ j = 1 ∨ j = 2 ∨ j = 3 ∨ j = 4 ∨ j = 5 ∨ j = 6 by omega) with rfl | rfl | rfl | rfl | rfl | rfl | rfl <;> rfl) (Nat.le_of_ble_eq_true rfl) (Nat.le_of_ble_eq_true rfl) hs rfl dX6_init_22 (fun F5 H5 e5 o5 hP => ?_)
  have h29 : F5 (29) = ob 5 ([.null, .null, .null, .null, .null, .null, .null]) := e5
  have h0 := (o5 (0) (by decide)).trans h0
  have h1 := (o5 (1) (by decide)).trans h1
  have h28 := (o5 (28) (by decide)).trans h28
  have hO : ∀ j, j < 0 → F5 j = F j := fun j hj => (o5 j (by omega)).trans (hO j hj)
  have hW1 := WV.upd hW1 (fun j a b => o5 j (by omega))
  refine lv_dup X.1.1 X.1.2.1 dX6_init_25 rfl ?_
  refine sx_ci (As := []) (rest := rf G 29 :: .int (nI 0) :: rf G 28 :: rf G 28 :: rf G 0 :: []) X (mX5_init_29 l (w := w) h29) gX6_init_X5_init rfl lk_X6_init_initialized_RX5 lk_X6_init_methodLink_RX6_9_yX5_init lk_X6_init_instanceMethod_yX5_init rfl ys_X5_init ⟨Nat.le_of_ble_eq_true rfl, Nat.le_of_ble_eq_true rfl⟩ hl.1 rfl (Nat.le_of_ble_eq_true rfl) dX6_init_26 ⟨Nat.le_of_ble_eq_true rfl, Nat.le_of_ble_eq_true rfl⟩ hs rfl hP (fun F6 H6 l6 hp hP => ?_)
  obtain ⟨hW29, o6⟩ := hp
  have h0 := (o6 (0) (by decide)).trans h0
  have h1 := (o6 (1) (by decide)).trans h1
  have h28 := (o6 (28) (by decide)).trans h28
  have h29 : F6 (29) = ob 5 ([rf G 30, rf G 31, rf G 32, rf G 34, rf G 36, rf G 38, rf G 47]) := WS.obj (WV.shape hW29)
  have hO : ∀ j, j < 0 → F6 j = F j := fun j hj => (o6 j (by omega)).trans (hO j hj)
  have hW1 := WV.upd hW1 (fun j a b => o6 j (by omega))
  refine sx_oast X hP h28 (by decide) (0) (by decide) (by decide) h29 (by decide) dX6_init_29 (fun F7 H7 l7 e7 o7 hP => ?_)
  have h28 : F7 (28) = rO G (2) (va_up (fun _ => none) (0) (some (sx_b G + (29)))) := e7
  have h0 := (o7 (0) (by decide)).trans h0
  have h1 := (o7 (1) (by decide)).trans h1
  have h29 := (o7 (29) (by decide)).trans h29
  have hO : ∀ j, j < 0 → F7 j = F j := fun j hj => (o7 j (by omega)).trans (hO j hj)
  have hW1 := WV.upd hW1 (fun j a b => o7 j (by omega))
  have hW29 := WV.upd hW29 (fun j a b => o7 j (by omega))
  refine lv_dup X.1.1 X.1.2.1 dX6_init_30 rfl ?_
  refine lv_iconst (v := nI 1) X.1.1 X.1.2.1 dX6_init_31 (by decide) ?_
  refine sx_new (ci := 5) X hP in_X6_init_X5 tyX5 tyX5_ok lk_X6_init_classLink_RX6_7_RX5 lk_X6_init_instantiable_RX5_7 lk_X6_init_initialized_RX5 rfl (fs := [.null, .null, .null, .null, .null, .null, .null]) (fun j hj => by rcases (show j = 0 ∨ j = 1 ∨ j = 2 ∨ j = 3 ∨ j = 4 ∨ j = 5 ∨ j = 6 by omega) with rfl | rfl | rfl | rfl | rfl | rfl | rfl <;> rfl) (Nat.le_of_ble_eq_true rfl) (Nat.le_of_ble_eq_true rfl) hs rfl dX6_init_32 (fun F8 H8 e8 o8 hP => ?_)
  have h56 : F8 (56) = ob 5 ([.null, .null, .null, .null, .null, .null, .null]) := e8
  have h0 := (o8 (0) (by decide)).trans h0
  have h1 := (o8 (1) (by decide)).trans h1
  have h28 := (o8 (28) (by decide)).trans h28
  have h29 := (o8 (29) (by decide)).trans h29
  have hO : ∀ j, j < 0 → F8 j = F j := fun j hj => (o8 j (by omega)).trans (hO j hj)
  have hW1 := WV.upd hW1 (fun j a b => o8 j (by omega))
  have hW29 := WV.upd hW29 (fun j a b => o8 j (by omega))
  refine lv_dup X.1.1 X.1.2.1 dX6_init_35 rfl ?_
  refine sx_ci (As := []) (rest := rf G 56 :: .int (nI 1) :: rf G 28 :: rf G 28 :: rf G 0 :: []) X (mX5_init_56 l (w := w) h56) gX6_init_X5_init rfl lk_X6_init_initialized_RX5 lk_X6_init_methodLink_RX6_9_yX5_init lk_X6_init_instanceMethod_yX5_init rfl ys_X5_init ⟨Nat.le_of_ble_eq_true rfl, Nat.le_of_ble_eq_true rfl⟩ hl.1 rfl (Nat.le_of_ble_eq_true rfl) dX6_init_36 ⟨Nat.le_of_ble_eq_true rfl, Nat.le_of_ble_eq_true rfl⟩ hs rfl hP (fun F9 H9 l9 hp hP => ?_)
  obtain ⟨hW56, o9⟩ := hp
  have h0 := (o9 (0) (by decide)).trans h0
  have h1 := (o9 (1) (by decide)).trans h1
  have h28 := (o9 (28) (by decide)).trans h28
  have h29 := (o9 (29) (by decide)).trans h29
  have h56 : F9 (56) = ob 5 ([rf G 57, rf G 58, rf G 59, rf G 61, rf G 63, rf G 65, rf G 74]) := WS.obj (WV.shape hW56)
  have hO : ∀ j, j < 0 → F9 j = F j := fun j hj => (o9 j (by omega)).trans (hO j hj)
  have hW1 := WV.upd hW1 (fun j a b => o9 j (by omega))
  have hW29 := WV.upd hW29 (fun j a b => o9 j (by omega))
  refine sx_oast X hP h28 (by decide) (1) (by decide) (by decide) h56 (by decide) dX6_init_39 (fun F10 H10 l10 e10 o10 hP => ?_)
  have h28 : F10 (28) = rO G (2) (va_up (va_up (fun _ => none) (0) (some (sx_b G + (29)))) (1) (some (sx_b G + (56)))) := e10
  have h0 := (o10 (0) (by decide)).trans h0
  have h1 := (o10 (1) (by decide)).trans h1
  have h29 := (o10 (29) (by decide)).trans h29
  have h56 := (o10 (56) (by decide)).trans h56
  have hO : ∀ j, j < 0 → F10 j = F j := fun j hj => (o10 j (by omega)).trans (hO j hj)
  have hW1 := WV.upd hW1 (fun j a b => o10 j (by omega))
  have hW29 := WV.upd hW29 (fun j a b => o10 j (by omega))
  have hW56 := WV.upd hW56 (fun j a b => o10 j (by omega))
  refine sx_putF X hP in_X6_init_X6 tyX6 tyX6_ok nmX6 h0 (by decide) rfl 1 (by decide) lk_X6_init_fieldLink_RX6_16_RaceWatch_images_LRaceWatch_World rfl rfl rfl rfl rfl (Nat.le_of_ble_eq_true rfl) dX6_init_40 (fun F11 H11 l11 e11 o11 hP => ?_)
  have h0 : F11 (0) = ob 6 ([rf G 1, rf G 28, .null, .null]) := e11
  have h1 := (o11 (1) (by decide)).trans h1
  have h28 := (o11 (28) (by decide)).trans h28
  have h29 := (o11 (29) (by decide)).trans h29
  have h56 := (o11 (56) (by decide)).trans h56
  have hO : ∀ j, j < 0 → F11 j = F j := fun j hj => (o11 j (by omega)).trans (hO j hj)
  have hW1 := WV.upd hW1 (fun j a b => o11 j (by omega))
  have hW29 := WV.upd hW29 (fun j a b => o11 j (by omega))
  have hW56 := WV.upd hW56 (fun j a b => o11 j (by omega))
  refine lv_aload_n X.1.1 X.1.2.1 dX6_init_43 rfl (lv_at hl 0 rfl) ?_
  refine lv_iconst (v := nI 2) X.1.1 X.1.2.1 dX6_init_44 (by decide) ?_
  refine sx_newz X hP 2 lk_X6_init_arrayClass_boolean (by decide) (Nat.le_of_ble_eq_true rfl) (Nat.le_of_ble_eq_true rfl) hs rfl dX6_init_45 (fun F12 H12 e12 o12 hP => ?_)
  have h83 : F12 (83) = rZ G (2) (fun _ => 0) := e12
  have h0 := (o12 (0) (by decide)).trans h0
  have h1 := (o12 (1) (by decide)).trans h1
  have h28 := (o12 (28) (by decide)).trans h28
  have h29 := (o12 (29) (by decide)).trans h29
  have h56 := (o12 (56) (by decide)).trans h56
  have hO : ∀ j, j < 0 → F12 j = F j := fun j hj => (o12 j (by omega)).trans (hO j hj)
  have hW1 := WV.upd hW1 (fun j a b => o12 j (by omega))
  have hW29 := WV.upd hW29 (fun j a b => o12 j (by omega))
  have hW56 := WV.upd hW56 (fun j a b => o12 j (by omega))
  refine sx_putF X hP in_X6_init_X6 tyX6 tyX6_ok nmX6 h0 (by decide) rfl 2 (by decide) lk_X6_init_fieldLink_RX6_20_RaceWatch_isKept_Z rfl rfl rfl rfl rfl (Nat.le_of_ble_eq_true rfl) dX6_init_47 (fun F13 H13 l13 e13 o13 hP => ?_)
  have h0 : F13 (0) = ob 6 ([rf G 1, rf G 28, rf G 83, .null]) := e13
  have h1 := (o13 (1) (by decide)).trans h1
  have h28 := (o13 (28) (by decide)).trans h28
  have h29 := (o13 (29) (by decide)).trans h29
  have h56 := (o13 (56) (by decide)).trans h56
  have h83 := (o13 (83) (by decide)).trans h83
  have hO : ∀ j, j < 0 → F13 j = F j := fun j hj => (o13 j (by omega)).trans (hO j hj)
  have hW1 := WV.upd hW1 (fun j a b => o13 j (by omega))
  have hW29 := WV.upd hW29 (fun j a b => o13 j (by omega))
  have hW56 := WV.upd hW56 (fun j a b => o13 j (by omega))
  refine lv_aload_n X.1.1 X.1.2.1 dX6_init_50 rfl (lv_at hl 0 rfl) ?_
  refine sx_new (ci := 4) X hP in_X6_init_X4 tyX4 tyX4_ok lk_X6_init_classLink_RX6_24_RX4 lk_X6_init_instantiable_RX4_11 lk_X6_init_initialized_RX4 rfl (fs := [.int (0), .int (0), .null, .null, .int (0), .int (0), .int (0), .int (0), .int (0), .null, .null]) (fun j hj => by rcases (show j = 0 ∨ j = 1 ∨ j = 2 ∨ j = 3 ∨ j = 4 ∨ j = 5 ∨ j = 6 ∨ j = 7 ∨ j = 8 ∨ j = 9 ∨ j = 10 by omega) with rfl | rfl | rfl | rfl | rfl | rfl | rfl | rfl | rfl | rfl | rfl <;> rfl) (Nat.le_of_ble_eq_true rfl) (Nat.le_of_ble_eq_true rfl) hs rfl dX6_init_51 (fun F14 H14 e14 o14 hP => ?_)
  have h84 : F14 (84) = ob 4 ([.int (0), .int (0), .null, .null, .int (0), .int (0), .int (0), .int (0), .int (0), .null, .null]) := e14
  have h0 := (o14 (0) (by decide)).trans h0
  have h1 := (o14 (1) (by decide)).trans h1
  have h28 := (o14 (28) (by decide)).trans h28
  have h29 := (o14 (29) (by decide)).trans h29
  have h56 := (o14 (56) (by decide)).trans h56
  have h83 := (o14 (83) (by decide)).trans h83
  have hO : ∀ j, j < 0 → F14 j = F j := fun j hj => (o14 j (by omega)).trans (hO j hj)
  have hW1 := WV.upd hW1 (fun j a b => o14 j (by omega))
  have hW29 := WV.upd hW29 (fun j a b => o14 j (by omega))
  have hW56 := WV.upd hW56 (fun j a b => o14 j (by omega))
  refine lv_dup X.1.1 X.1.2.1 dX6_init_54 rfl ?_
  refine sx_cni (As := []) (rest := rf G 84 :: rf G 0 :: []) X (mX4_init l h84) gX6_init_X4_init_n26 rfl X.2.2.2.2.2.2.2.1 lk_X6_init_initialized_RX4 lk_X6_init_instanceMethod_yX4_init rfl ys_X4_init ⟨Nat.le_of_ble_eq_true rfl, Nat.le_of_ble_eq_true rfl⟩ hl.1 rfl (Nat.le_of_ble_eq_true rfl) dX6_init_55 ⟨Nat.le_of_ble_eq_true rfl, Nat.le_of_ble_eq_true rfl⟩ hs rfl hP (fun F15 H15 l15 hp hP => ?_)
  obtain ⟨e15_84, e15_85, e15_86, e15_87, e15_88, e15_89, e15_90, o15⟩ := hp
  have h0 := (o15 (0) (by decide)).trans h0
  have h1 := (o15 (1) (by decide)).trans h1
  have h28 := (o15 (28) (by decide)).trans h28
  have h29 := (o15 (29) (by decide)).trans h29
  have h56 := (o15 (56) (by decide)).trans h56
  have h83 := (o15 (83) (by decide)).trans h83
  have h84 : F15 (84) = ob 4 ([.int (0), .int (-1), rf G 85, rf G 88, .int (0), .int (0), .int (0), .int (0), .int (0), rf G 89, rf G 90]) := e15_84
  have h85 : F15 (85) = ob 0 ([.int (0), rf G 86, rf G 87]) := e15_85
  have h86 : F15 (86) = rI G (24) (fun _ => 0) := e15_86
  have h87 : F15 (87) = rI G (24) (fun _ => 0) := e15_87
  have h88 : F15 (88) = rI G (240) (fun _ => 0) := e15_88
  have h89 : F15 (89) = rI G (240) (fun _ => 0) := e15_89
  have h90 : F15 (90) = rI G (240) (fun _ => 0) := e15_90
  have hO : ∀ j, j < 0 → F15 j = F j := fun j hj => (o15 j (by omega)).trans (hO j hj)
  have hW1 := WV.upd hW1 (fun j a b => o15 j (by omega))
  have hW29 := WV.upd hW29 (fun j a b => o15 j (by omega))
  have hW56 := WV.upd hW56 (fun j a b => o15 j (by omega))
  refine sx_putF X hP in_X6_init_X6 tyX6 tyX6_ok nmX6 h0 (by decide) rfl 3 (by decide) lk_X6_init_fieldLink_RX6_27_RaceWatch_telling_LRaceWatch_Telling rfl rfl rfl rfl rfl (Nat.le_of_ble_eq_true rfl) dX6_init_58 (fun F16 H16 l16 e16 o16 hP => ?_)
  have h0 : F16 (0) = ob 6 ([rf G 1, rf G 28, rf G 83, rf G 84]) := e16
  have h1 := (o16 (1) (by decide)).trans h1
  have h28 := (o16 (28) (by decide)).trans h28
  have h29 := (o16 (29) (by decide)).trans h29
  have h56 := (o16 (56) (by decide)).trans h56
  have h83 := (o16 (83) (by decide)).trans h83
  have h84 := (o16 (84) (by decide)).trans h84
  have h85 := (o16 (85) (by decide)).trans h85
  have h86 := (o16 (86) (by decide)).trans h86
  have h87 := (o16 (87) (by decide)).trans h87
  have h88 := (o16 (88) (by decide)).trans h88
  have h89 := (o16 (89) (by decide)).trans h89
  have h90 := (o16 (90) (by decide)).trans h90
  have hO : ∀ j, j < 0 → F16 j = F j := fun j hj => (o16 j (by omega)).trans (hO j hj)
  have hW1 := WV.upd hW1 (fun j a b => o16 j (by omega))
  have hW29 := WV.upd hW29 (fun j a b => o16 j (by omega))
  have hW56 := WV.upd hW56 (fun j a b => o16 j (by omega))
  rw [hQ]
  exact sx_vret X rfl hs rfl hP dX6_init_61 (⟨h0, hW1, ⟨_, h28, rfl, rfl⟩, WV.shape hW29, WV.shape hW56, h83, h84, h85, h86, h87, h88, h89, h90⟩)
theorem ys_X7_init : yX7_init.cls ≠ "java/lang/invoke/MethodHandle" ∧ yX7_init.cls ≠ "java/lang/invoke/VarHandle" ∧ (parseMethodDescriptor yX7_init.desc).map (fun d => d.parameters.length) = some 0 := by decide +kernel
theorem yv_X7_init : yX7_init.cls = RX7 ∧ yX7_init.cls ≠ "java/lang/invoke/MethodHandle" ∧ yX7_init.cls ≠ "java/lang/invoke/VarHandle" ∧ (parseMethodDescriptor yX7_init.desc).map (fun d => d.parameters.length) = some 0 := ⟨rfl, ys_X7_init⟩
theorem lk_X7_init_methodLink_RX7_1_objectInit : (.methodLink RX7 1 objectInit : Cond) ∈ wsX7_init := List.mem_cons_of_mem _ (List.mem_append_left _ (List.mem_of_getElem? (i := 0) rfl))
theorem lk_X7_init_instanceMethod_objectInit : (.instanceMethod objectInit : Cond) ∈ wsX7_init := List.mem_cons_of_mem _ (List.mem_append_left _ (List.mem_of_getElem? (i := 1) rfl))
theorem lk_X7_init_code_objectInit_0xb1_1_none : (.code objectInit ⟨#[0xb1]⟩ 1 none : Cond) ∈ wsX7_init := List.mem_cons_of_mem _ (List.mem_append_left _ (List.mem_of_getElem? (i := 2) rfl))
theorem lk_X7_init_arrayClass_int : (.arrayClass .int : Cond) ∈ wsX7_init := List.mem_cons_of_mem _ (List.mem_append_left _ (List.mem_of_getElem? (i := 3) rfl))
theorem in_X7_init_X7 : ∀ w ∈ wsX70, w ∈ wsX7_init := fun _ h => List.mem_cons_of_mem _ (List.mem_append_right _ (h))
theorem lk_X7_init_fieldLink_RX7_7_RaceWatchModel_w_I : (.fieldLink RX7 7 "RaceWatchModel" "w" "[I" : Cond) ∈ wsX7_init := List.mem_cons_of_mem _ (List.mem_append_left _ (List.mem_of_getElem? (i := 4) rfl))
theorem lk_X7_init_arrayClass_boolean : (.arrayClass .boolean : Cond) ∈ wsX7_init := List.mem_cons_of_mem _ (List.mem_append_left _ (List.mem_of_getElem? (i := 5) rfl))
theorem lk_X7_init_fieldLink_RX7_13_RaceWatchModel_isKept_Z : (.fieldLink RX7 13 "RaceWatchModel" "isKept" "[Z" : Cond) ∈ wsX7_init := List.mem_cons_of_mem _ (List.mem_append_left _ (List.mem_of_getElem? (i := 6) rfl))
theorem lk_X7_init_fieldLink_RX7_17_RaceWatchModel_journals_I : (.fieldLink RX7 17 "RaceWatchModel" "journals" "[I" : Cond) ∈ wsX7_init := List.mem_cons_of_mem _ (List.mem_append_left _ (List.mem_of_getElem? (i := 7) rfl))
theorem lk_X7_init_fieldLink_RX7_20_RaceWatchModel_openLock_I : (.fieldLink RX7 20 "RaceWatchModel" "openLock" "[I" : Cond) ∈ wsX7_init := List.mem_cons_of_mem _ (List.mem_append_left _ (List.mem_of_getElem? (i := 8) rfl))
theorem lk_X7_init_fieldLink_RX7_23_RaceWatchModel_openThread_I : (.fieldLink RX7 23 "RaceWatchModel" "openThread" "[I" : Cond) ∈ wsX7_init := List.mem_cons_of_mem _ (List.mem_append_left _ (List.mem_of_getElem? (i := 9) rfl))
abbrev rmX7_init : Room := { frames := 2, cells := 5, slots := 4864, locals := 41 }
set_option maxHeartbeats 800000 in
set_option maxRecDepth 100000 in
theorem mX7_init {G : sx_G} (l : Launch) {F : Nat → va_E}  (h91 : F (91) = ob 7 ([.null, .null, .int (0), .null, .long (0), .int (0), .int (0), .int (0), .int (0), .int (0), .int (0), .int (0), .null, .null])) : sx_V G l yX7_init wsX7_init rmX7_init [rf G 91] (92) F (97) (fun F1 => F1 91 = ob 7 ([rf G 92, rf G 93, .int (0), rf G 94, .long (0), .int (0), .int (0), .int (0), .int (0), .int (0), .int (0), .int (0), rf G 95, rf G 96]) ∧ F1 92 = rI G 4358 (upd (iniF (fun _ => 0)) 1613 (-1)) ∧ F1 93 = rZ G 2 (fun _ => 0) ∧ F1 94 = rI G 24 (fun _ => 0) ∧ F1 95 = rI G 240 (fun _ => 0) ∧ F1 96 = rI G 240 (fun _ => 0) ∧ ∀ j, j < 91 → F1 j = F j) := by
  refine sx_enter (cc := cX7_init) (maxL := 1) (ret := none) (own := RX7) (nm := "<init>") (by decide) rfl rfl rfl (Nat.le_of_ble_eq_true rfl) ?_
  intro pp ee ss mm args below meth kc ls Q hQ X hs hP hl
  have hl : lv_has ls 1 [(0, rf G 91)] := hl
  have hO : ∀ j, j < 91 → F j = F j := fun _ _ => rfl
  refine lv_aload_n X.1.1 X.1.2.1 dX7_init_0 rfl (lv_at hl 0 rfl) ?_
  refine sx_obj X lk_X7_init_methodLink_RX7_1_objectInit lk_X7_init_instanceMethod_objectInit lk_X7_init_code_objectInit_0xb1_1_none hl.1 dX7_init_1 (Nat.le_of_ble_eq_true rfl) (Nat.le_of_ble_eq_true rfl) ?_
  refine lv_aload_n X.1.1 X.1.2.1 dX7_init_4 rfl (lv_at hl 0 rfl) ?_
  refine lv_sipush (v := nI 4358) X.1.1 X.1.2.1 dX7_init_5 (by decide) ?_
  refine sx_newi X hP 4358 lk_X7_init_arrayClass_int (by decide) (Nat.le_of_ble_eq_true rfl) (Nat.le_of_ble_eq_true rfl) hs rfl dX7_init_8 (fun F1 H1 e1 o1 hP => ?_)
  have h92 : F1 (92) = rI G (4358) (fun _ => 0) := e1
  have h91 := (o1 (91) (by decide)).trans h91
  have hO : ∀ j, j < 91 → F1 j = F j := fun j hj => (o1 j (by omega)).trans (hO j hj)
  refine sx_putF X hP in_X7_init_X7 tyX7 tyX7_ok nmX7 h91 (by decide) rfl 0 (by decide) lk_X7_init_fieldLink_RX7_7_RaceWatchModel_w_I rfl rfl rfl rfl rfl (Nat.le_of_ble_eq_true rfl) dX7_init_10 (fun F2 H2 l2 e2 o2 hP => ?_)
  have h91 : F2 (91) = ob 7 ([rf G 92, .null, .int (0), .null, .long (0), .int (0), .int (0), .int (0), .int (0), .int (0), .int (0), .int (0), .null, .null]) := e2
  have h92 := (o2 (92) (by decide)).trans h92
  have hO : ∀ j, j < 91 → F2 j = F j := fun j hj => (o2 j (by omega)).trans (hO j hj)
  refine lv_aload_n X.1.1 X.1.2.1 dX7_init_13 rfl (lv_at hl 0 rfl) ?_
  refine lv_iconst (v := nI 2) X.1.1 X.1.2.1 dX7_init_14 (by decide) ?_
  refine sx_newz X hP 2 lk_X7_init_arrayClass_boolean (by decide) (Nat.le_of_ble_eq_true rfl) (Nat.le_of_ble_eq_true rfl) hs rfl dX7_init_15 (fun F3 H3 e3 o3 hP => ?_)
  have h93 : F3 (93) = rZ G (2) (fun _ => 0) := e3
  have h91 := (o3 (91) (by decide)).trans h91
  have h92 := (o3 (92) (by decide)).trans h92
  have hO : ∀ j, j < 91 → F3 j = F j := fun j hj => (o3 j (by omega)).trans (hO j hj)
  refine sx_putF X hP in_X7_init_X7 tyX7 tyX7_ok nmX7 h91 (by decide) rfl 1 (by decide) lk_X7_init_fieldLink_RX7_13_RaceWatchModel_isKept_Z rfl rfl rfl rfl rfl (Nat.le_of_ble_eq_true rfl) dX7_init_17 (fun F4 H4 l4 e4 o4 hP => ?_)
  have h91 : F4 (91) = ob 7 ([rf G 92, rf G 93, .int (0), .null, .long (0), .int (0), .int (0), .int (0), .int (0), .int (0), .int (0), .int (0), .null, .null]) := e4
  have h92 := (o4 (92) (by decide)).trans h92
  have h93 := (o4 (93) (by decide)).trans h93
  have hO : ∀ j, j < 91 → F4 j = F j := fun j hj => (o4 j (by omega)).trans (hO j hj)
  refine lv_aload_n X.1.1 X.1.2.1 dX7_init_20 rfl (lv_at hl 0 rfl) ?_
  refine lv_bipush (v := nI 24) X.1.1 X.1.2.1 dX7_init_21 (by decide) ?_
  refine sx_newi X hP 24 lk_X7_init_arrayClass_int (by decide) (Nat.le_of_ble_eq_true rfl) (Nat.le_of_ble_eq_true rfl) hs rfl dX7_init_23 (fun F5 H5 e5 o5 hP => ?_)
  have h94 : F5 (94) = rI G (24) (fun _ => 0) := e5
  have h91 := (o5 (91) (by decide)).trans h91
  have h92 := (o5 (92) (by decide)).trans h92
  have h93 := (o5 (93) (by decide)).trans h93
  have hO : ∀ j, j < 91 → F5 j = F j := fun j hj => (o5 j (by omega)).trans (hO j hj)
  refine sx_putF X hP in_X7_init_X7 tyX7 tyX7_ok nmX7 h91 (by decide) rfl 3 (by decide) lk_X7_init_fieldLink_RX7_17_RaceWatchModel_journals_I rfl rfl rfl rfl rfl (Nat.le_of_ble_eq_true rfl) dX7_init_25 (fun F6 H6 l6 e6 o6 hP => ?_)
  have h91 : F6 (91) = ob 7 ([rf G 92, rf G 93, .int (0), rf G 94, .long (0), .int (0), .int (0), .int (0), .int (0), .int (0), .int (0), .int (0), .null, .null]) := e6
  have h92 := (o6 (92) (by decide)).trans h92
  have h93 := (o6 (93) (by decide)).trans h93
  have h94 := (o6 (94) (by decide)).trans h94
  have hO : ∀ j, j < 91 → F6 j = F j := fun j hj => (o6 j (by omega)).trans (hO j hj)
  refine lv_aload_n X.1.1 X.1.2.1 dX7_init_28 rfl (lv_at hl 0 rfl) ?_
  refine lv_sipush (v := nI 240) X.1.1 X.1.2.1 dX7_init_29 (by decide) ?_
  refine sx_newi X hP 240 lk_X7_init_arrayClass_int (by decide) (Nat.le_of_ble_eq_true rfl) (Nat.le_of_ble_eq_true rfl) hs rfl dX7_init_32 (fun F7 H7 e7 o7 hP => ?_)
  have h95 : F7 (95) = rI G (240) (fun _ => 0) := e7
  have h91 := (o7 (91) (by decide)).trans h91
  have h92 := (o7 (92) (by decide)).trans h92
  have h93 := (o7 (93) (by decide)).trans h93
  have h94 := (o7 (94) (by decide)).trans h94
  have hO : ∀ j, j < 91 → F7 j = F j := fun j hj => (o7 j (by omega)).trans (hO j hj)
  refine sx_putF X hP in_X7_init_X7 tyX7 tyX7_ok nmX7 h91 (by decide) rfl 12 (by decide) lk_X7_init_fieldLink_RX7_20_RaceWatchModel_openLock_I rfl rfl rfl rfl rfl (Nat.le_of_ble_eq_true rfl) dX7_init_34 (fun F8 H8 l8 e8 o8 hP => ?_)
  have h91 : F8 (91) = ob 7 ([rf G 92, rf G 93, .int (0), rf G 94, .long (0), .int (0), .int (0), .int (0), .int (0), .int (0), .int (0), .int (0), rf G 95, .null]) := e8
  have h92 := (o8 (92) (by decide)).trans h92
  have h93 := (o8 (93) (by decide)).trans h93
  have h94 := (o8 (94) (by decide)).trans h94
  have h95 := (o8 (95) (by decide)).trans h95
  have hO : ∀ j, j < 91 → F8 j = F j := fun j hj => (o8 j (by omega)).trans (hO j hj)
  refine lv_aload_n X.1.1 X.1.2.1 dX7_init_37 rfl (lv_at hl 0 rfl) ?_
  refine lv_sipush (v := nI 240) X.1.1 X.1.2.1 dX7_init_38 (by decide) ?_
  refine sx_newi X hP 240 lk_X7_init_arrayClass_int (by decide) (Nat.le_of_ble_eq_true rfl) (Nat.le_of_ble_eq_true rfl) hs rfl dX7_init_41 (fun F9 H9 e9 o9 hP => ?_)
  have h96 : F9 (96) = rI G (240) (fun _ => 0) := e9
  have h91 := (o9 (91) (by decide)).trans h91
  have h92 := (o9 (92) (by decide)).trans h92
  have h93 := (o9 (93) (by decide)).trans h93
  have h94 := (o9 (94) (by decide)).trans h94
  have h95 := (o9 (95) (by decide)).trans h95
  have hO : ∀ j, j < 91 → F9 j = F j := fun j hj => (o9 j (by omega)).trans (hO j hj)
  refine sx_putF X hP in_X7_init_X7 tyX7 tyX7_ok nmX7 h91 (by decide) rfl 13 (by decide) lk_X7_init_fieldLink_RX7_23_RaceWatchModel_openThread_I rfl rfl rfl rfl rfl (Nat.le_of_ble_eq_true rfl) dX7_init_43 (fun F10 H10 l10 e10 o10 hP => ?_)
  have h91 : F10 (91) = ob 7 ([rf G 92, rf G 93, .int (0), rf G 94, .long (0), .int (0), .int (0), .int (0), .int (0), .int (0), .int (0), .int (0), rf G 95, rf G 96]) := e10
  have h92 := (o10 (92) (by decide)).trans h92
  have h93 := (o10 (93) (by decide)).trans h93
  have h94 := (o10 (94) (by decide)).trans h94
  have h95 := (o10 (95) (by decide)).trans h95
  have h96 := (o10 (96) (by decide)).trans h96
  have hO : ∀ j, j < 91 → F10 j = F j := fun j hj => (o10 j (by omega)).trans (hO j hj)
  refine lv_aload_n X.1.1 X.1.2.1 dX7_init_46 rfl (lv_at hl 0 rfl) ?_
  refine sx_cvV (As := []) (rest := []) X (mX7_clear l h91 h92) gX7_init_X7_clear rfl yv_X7_clear ⟨Nat.le_of_ble_eq_true rfl, Nat.le_of_ble_eq_true rfl⟩ h91 (by decide) rfl rfl hl.1 rfl (Nat.le_of_ble_eq_true rfl) dX7_init_47 ⟨Nat.le_of_ble_eq_true rfl, Nat.le_of_ble_eq_true rfl⟩ hs rfl hP (fun F11 H11 l11 hp hP => ?_)
  obtain ⟨e11, o11⟩ := hp
  have h92 : F11 (92) = rI G (4358) (iniF (fun _ => 0)) := e11
  have h91 := (o11 (91) (by decide)).trans h91
  have h93 := (o11 (93) (by decide)).trans h93
  have h94 := (o11 (94) (by decide)).trans h94
  have h95 := (o11 (95) (by decide)).trans h95
  have h96 := (o11 (96) (by decide)).trans h96
  have hO : ∀ j, j < 91 → F11 j = F j := fun j hj => (o11 j (by omega)).trans (hO j hj)
  refine lv_aload_n X.1.1 X.1.2.1 dX7_init_50 rfl (lv_at hl 0 rfl) ?_
  refine sx_get X hP in_X7_init_X7 h91 (by decide) rfl 0 (by decide) lk_X7_init_fieldLink_RX7_7_RaceWatchModel_w_I rfl dX7_init_51 ?_
  refine lv_sipush (v := nI 1613) X.1.1 X.1.2.1 dX7_init_54 (by decide) ?_
  refine lv_iconst (v := (-1)) X.1.1 X.1.2.1 dX7_init_57 (by decide) ?_
  refine sx_ast X hP h92 (by decide) (1613) (by decide) (by decide) dX7_init_58 (fun F12 H12 l12 e12 o12 hP => ?_)
  obtain ⟨w12, hw12⟩ : ∃ z, z = upd (iniF (fun _ => 0)) (1613) (-1) := ⟨_, rfl⟩
  rw [← hw12] at e12
  have h92 : F12 (92) = rI G (4358) (w12) := e12
  have h91 := (o12 (91) (by decide)).trans h91
  have h93 := (o12 (93) (by decide)).trans h93
  have h94 := (o12 (94) (by decide)).trans h94
  have h95 := (o12 (95) (by decide)).trans h95
  have h96 := (o12 (96) (by decide)).trans h96
  have hO : ∀ j, j < 91 → F12 j = F j := fun j hj => (o12 j (by omega)).trans (hO j hj)
  rw [hQ]
  exact sx_vret X rfl hs rfl hP dX7_init_59 (⟨h91, h92.trans (by rw [hw12]), h93, h94, h95, h96, hO⟩)
