theorem itF_le (a : Nat) : itF a ≤ 9 := by
  unfold itF
  repeat' split
  all_goals decide
theorem ys_X4_tellSign : yX4_tellSign.cls ≠ "java/lang/invoke/MethodHandle" ∧ yX4_tellSign.cls ≠ "java/lang/invoke/VarHandle" ∧ (parseMethodDescriptor yX4_tellSign.desc).map (fun d => d.parameters.length) = some 1 := by decide +kernel
theorem yv_X4_tellSign : yX4_tellSign.cls = RX4 ∧ yX4_tellSign.cls ≠ "java/lang/invoke/MethodHandle" ∧ yX4_tellSign.cls ≠ "java/lang/invoke/VarHandle" ∧ (parseMethodDescriptor yX4_tellSign.desc).map (fun d => d.parameters.length) = some 1 := ⟨rfl, ys_X4_tellSign⟩
theorem in_X4_tellSign_X4 : ∀ w ∈ wsX40, w ∈ wsX4_tellSign := fun _ h => List.mem_cons_of_mem _ (List.mem_append_right _ (h))
theorem lk_X4_tellSign_fieldLink_RX4_36_RaceWatch_Telling_due_I : (.fieldLink RX4 36 "RaceWatch$Telling" "due" "I" : Cond) ∈ wsX4_tellSign := List.mem_cons_of_mem _ (List.mem_append_left _ (List.mem_of_getElem? (i := 0) rfl))
theorem lk_X4_tellSign_fieldLink_RX4_52_RaceWatch_Telling_item_I : (.fieldLink RX4 52 "RaceWatch$Telling" "item" "I" : Cond) ∈ wsX4_tellSign := List.mem_cons_of_mem _ (List.mem_append_left _ (List.mem_of_getElem? (i := 1) rfl))
abbrev rmX4_tellSign : Room := { frames := 1, cells := 0, slots := 0, locals := 20 }
set_option maxHeartbeats 800000 in
set_option maxRecDepth 100000 in
theorem mX4_tellSign_0 {G : sx_G} (l : Launch) {F : Nat → va_E} {a : Nat} {q0 q1 q5 q6 q7 q8 : Value}  (ha : a < 256) (h84 : F (84) = ob 4 ([q0, q1, rf G 85, rf G 88, .int (nI 0), q5, q6, q7, q8, rf G 89, rf G 90])) : sx_I G l yX4_tellSign wsX4_tellSign rmX4_tellSign [rf G 84, .int (nI (a))] (97) F (97) (fun r F1 => F1 84 = ob 4 ([q0, q1, rf G 85, rf G 88, .int (nI 1), .int (if itF a = 9 then -1 else nI (itF a)), q6, q7, q8, rf G 89, rf G 90]) ∧ (∀ j, j ≠ 84 → F1 j = F j) ∧ (itF a = 9 ∧ nI 1 = r ∨ ¬ itF a = 9 ∧ nI 0 = r)) := by
  refine sx_enter (cc := cX4_tellSign) (maxL := 3) (ret := some .int) (own := RX4) (nm := "tellSign") (by decide) rfl rfl rfl (Nat.le_of_ble_eq_true rfl) ?_
  intro pp ee ss mm args below meth kc ls Q hQ X hs hP hl
  have hl : lv_has ls 3 [(0, rf G 84), (1, .int (nI (a)))] := hl
  have hO : ∀ j, j ≠ 84 → F j = F j := fun _ _ => rfl
  refine lv_aload_n X.1.1 X.1.2.1 dX4_tellSign_0 rfl (lv_at hl 0 rfl) ?_
  refine sx_get X hP in_X4_tellSign_X4 h84 (by decide) rfl 4 (by decide) lk_X4_tellSign_fieldLink_RX4_36_RaceWatch_Telling_due_I rfl dX4_tellSign_1 ?_
  refine sx_if_ne X (by decide) (tgt := 34) dX4_tellSign_4 (by decide) (fun h => absurd h (by decide)) (fun _ => ?_)
  refine lv_aload_n X.1.1 X.1.2.1 dX4_tellSign_7 rfl (lv_at hl 0 rfl) ?_
  refine lv_iload_n X.1.1 X.1.2.1 dX4_tellSign_8 rfl (lv_at hl 1 rfl) ?_
  refine sx_csI (As := [.int (nI (a))]) (rest := rf G 84 :: []) X (mX4_itemOf l (a := a) (by omega)) gX4_tellSign_X4_itemOf rfl ys_X4_itemOf ⟨Nat.le_of_ble_eq_true rfl, Nat.le_of_ble_eq_true rfl⟩ hl.1 rfl (Nat.le_of_ble_eq_true rfl) dX4_tellSign_9 ⟨Nat.le_of_ble_eq_true rfl, Nat.le_of_ble_eq_true rfl⟩ hs rfl hP (fun r1 F1 H1 l1 hp hP => ?_)
  obtain ⟨rfl, rfl⟩ := hp
  refine sx_put X hP in_X4_tellSign_X4 tyX4 tyX4_ok nmX4 h84 (by decide) rfl 5 (by decide) lk_X4_tellSign_fieldLink_RX4_52_RaceWatch_Telling_item_I rfl rfl rfl (Nat.le_of_ble_eq_true rfl) dX4_tellSign_12 (fun F2 H2 l2 e2 o2 hP => ?_)
  have h84 : F2 (84) = ob 4 ([q0, q1, rf G 85, rf G 88, .int (nI 0), .int (if itF a = 9 then -1 else nI (itF a)), q6, q7, q8, rf G 89, rf G 90]) := e2
  have hO : ∀ j, j ≠ 84 → F2 j = F j := fun j hj => (o2 j (by omega)).trans (hO j hj)
  refine lv_aload_n X.1.1 X.1.2.1 dX4_tellSign_15 rfl (lv_at hl 0 rfl) ?_
  refine lv_iconst (v := nI 1) X.1.1 X.1.2.1 dX4_tellSign_16 (by decide) ?_
  refine sx_put X hP in_X4_tellSign_X4 tyX4 tyX4_ok nmX4 h84 (by decide) rfl 4 (by decide) lk_X4_tellSign_fieldLink_RX4_36_RaceWatch_Telling_due_I rfl rfl rfl (Nat.le_of_ble_eq_true rfl) dX4_tellSign_17 (fun F3 H3 l3 e3 o3 hP => ?_)
  have h84 : F3 (84) = ob 4 ([q0, q1, rf G 85, rf G 88, .int (nI 1), .int (if itF a = 9 then -1 else nI (itF a)), q6, q7, q8, rf G 89, rf G 90]) := e3
  have hO : ∀ j, j ≠ 84 → F3 j = F j := fun j hj => (o3 j (by omega)).trans (hO j hj)
  refine lv_aload_n X.1.1 X.1.2.1 dX4_tellSign_20 rfl (lv_at hl 0 rfl) ?_
  refine sx_get X hP in_X4_tellSign_X4 h84 (by decide) rfl 5 (by decide) lk_X4_tellSign_fieldLink_RX4_52_RaceWatch_Telling_item_I rfl dX4_tellSign_21 ?_
  refine lv_iconst (v := (-1)) X.1.1 X.1.2.1 dX4_tellSign_24 (by decide) ?_
  refine lv_icmp_ne X.1.1 X.1.2.1 (tgt := 32) dX4_tellSign_25 (by decide) (fun c25 => ?_) (fun c25 => ?_)
  · refine lv_iconst (v := nI 0) X.1.1 X.1.2.1 dX4_tellSign_32 (by decide) ?_
    rw [hQ]
    exact sx_iret X rfl hs rfl hP dX4_tellSign_33 (⟨h84, hO, Or.inr ⟨fun q => c25 (by rw [if_pos q]), rfl⟩⟩)
  · refine lv_iconst (v := nI 1) X.1.1 X.1.2.1 dX4_tellSign_28 (by decide) ?_
    refine lv_goto (tgt := 33) X.1.1 X.1.2.1 dX4_tellSign_29 (by decide) ?_
    rw [hQ]
    exact sx_iret X rfl hs rfl hP dX4_tellSign_33 (⟨h84, hO, Or.inl ⟨Classical.byContradiction (fun q => by rw [if_neg q] at c25; exact sx_m1 (by have := itF_le a; omega) c25), rfl⟩⟩)
set_option maxHeartbeats 800000 in
set_option maxRecDepth 100000 in
theorem mX4_tellSign_2 {G : sx_G} (l : Launch) {F : Nat → va_E} {a : Nat} {q0 q1 q5 q6 q7 q8 : Value}  (ha : a < 256) (h84 : F (84) = ob 4 ([q0, q1, rf G 85, rf G 88, .int (nI 2), q5, q6, q7, q8, rf G 89, rf G 90])) : sx_I G l yX4_tellSign wsX4_tellSign rmX4_tellSign [rf G 84, .int (nI (a))] (97) F (97) (fun r F1 => F1 84 = ob 4 ([q0, q1, rf G 85, rf G 88, .int (nI 0), q5, q6, q7, q8, rf G 89, rf G 90]) ∧ (∀ j, j ≠ 84 → F1 j = F j) ∧ (a = 59 ∧ nI 0 = r ∨ ¬ a = 59 ∧ nI 1 = r)) := by
  refine sx_enter (cc := cX4_tellSign) (maxL := 3) (ret := some .int) (own := RX4) (nm := "tellSign") (by decide) rfl rfl rfl (Nat.le_of_ble_eq_true rfl) ?_
  intro pp ee ss mm args below meth kc ls Q hQ X hs hP hl
  have hl : lv_has ls 3 [(0, rf G 84), (1, .int (nI (a)))] := hl
  have hO : ∀ j, j ≠ 84 → F j = F j := fun _ _ => rfl
  refine lv_aload_n X.1.1 X.1.2.1 dX4_tellSign_0 rfl (lv_at hl 0 rfl) ?_
  refine sx_get X hP in_X4_tellSign_X4 h84 (by decide) rfl 4 (by decide) lk_X4_tellSign_fieldLink_RX4_36_RaceWatch_Telling_due_I rfl dX4_tellSign_1 ?_
  refine sx_if_ne X (by decide) (tgt := 34) dX4_tellSign_4 (by decide) (fun _ => ?_) (fun h => absurd h (by decide))
  refine lv_aload_n X.1.1 X.1.2.1 dX4_tellSign_34 rfl (lv_at hl 0 rfl) ?_
  refine sx_get X hP in_X4_tellSign_X4 h84 (by decide) rfl 4 (by decide) lk_X4_tellSign_fieldLink_RX4_36_RaceWatch_Telling_due_I rfl dX4_tellSign_35 ?_
  refine lv_iconst (v := nI 2) X.1.1 X.1.2.1 dX4_tellSign_38 (by decide) ?_
  refine sx_icmp_ne X (by decide) (by decide) (tgt := 47) dX4_tellSign_39 (by decide) (fun h => absurd h (by decide)) (fun _ => ?_)
  refine lv_bipush (v := nI 59) X.1.1 X.1.2.1 dX4_tellSign_42 (by decide) ?_
  refine lv_goto (tgt := 49) X.1.1 X.1.2.1 dX4_tellSign_44 (by decide) ?_
  refine lv_istore_n (lv' := [(2, .int (nI 59)), (0, rf G 84), (1, .int (nI (a)))]) X.1.1 X.1.2.1 dX4_tellSign_49 rfl hl (by decide) rfl (fun ls hl => ?_)
  refine lv_aload_n X.1.1 X.1.2.1 dX4_tellSign_50 rfl (lv_at hl 1 rfl) ?_
  refine lv_iconst (v := nI 0) X.1.1 X.1.2.1 dX4_tellSign_51 (by decide) ?_
  refine sx_put X hP in_X4_tellSign_X4 tyX4 tyX4_ok nmX4 h84 (by decide) rfl 4 (by decide) lk_X4_tellSign_fieldLink_RX4_36_RaceWatch_Telling_due_I rfl rfl rfl (Nat.le_of_ble_eq_true rfl) dX4_tellSign_52 (fun F1 H1 l1 e1 o1 hP => ?_)
  have h84 : F1 (84) = ob 4 ([q0, q1, rf G 85, rf G 88, .int (nI 0), q5, q6, q7, q8, rf G 89, rf G 90]) := e1
  have hO : ∀ j, j ≠ 84 → F1 j = F j := fun j hj => (o1 j (by omega)).trans (hO j hj)
  refine lv_iload_n X.1.1 X.1.2.1 dX4_tellSign_55 rfl (lv_at hl 2 rfl) ?_
  refine lv_iload_n X.1.1 X.1.2.1 dX4_tellSign_56 rfl (lv_at hl 0 rfl) ?_
  refine sx_icmp_ne X (by omega) (by decide) (tgt := 64) dX4_tellSign_57 (by decide) (fun c57 => ?_) (fun c57 => ?_)
  · refine lv_iconst (v := nI 1) X.1.1 X.1.2.1 dX4_tellSign_64 (by decide) ?_
    rw [hQ]
    exact sx_iret X rfl hs rfl hP dX4_tellSign_65 (⟨h84, hO, Or.inr ⟨c57, rfl⟩⟩)
  · refine lv_iconst (v := nI 0) X.1.1 X.1.2.1 dX4_tellSign_60 (by decide) ?_
    refine lv_goto (tgt := 65) X.1.1 X.1.2.1 dX4_tellSign_61 (by decide) ?_
    rw [hQ]
    exact sx_iret X rfl hs rfl hP dX4_tellSign_65 (⟨h84, hO, Or.inl ⟨c57, rfl⟩⟩)
set_option maxHeartbeats 800000 in
set_option maxRecDepth 100000 in
theorem mX4_tellSign_3 {G : sx_G} (l : Launch) {F : Nat → va_E} {a : Nat} {q0 q1 q5 q6 q7 q8 : Value}  (ha : a < 256) (h84 : F (84) = ob 4 ([q0, q1, rf G 85, rf G 88, .int (nI 3), q5, q6, q7, q8, rf G 89, rf G 90])) : sx_I G l yX4_tellSign wsX4_tellSign rmX4_tellSign [rf G 84, .int (nI (a))] (97) F (97) (fun r F1 => F1 84 = ob 4 ([q0, q1, rf G 85, rf G 88, .int (nI 0), q5, q6, q7, q8, rf G 89, rf G 90]) ∧ (∀ j, j ≠ 84 → F1 j = F j) ∧ (a = 40 ∧ nI 0 = r ∨ ¬ a = 40 ∧ nI 1 = r)) := by
  refine sx_enter (cc := cX4_tellSign) (maxL := 3) (ret := some .int) (own := RX4) (nm := "tellSign") (by decide) rfl rfl rfl (Nat.le_of_ble_eq_true rfl) ?_
  intro pp ee ss mm args below meth kc ls Q hQ X hs hP hl
  have hl : lv_has ls 3 [(0, rf G 84), (1, .int (nI (a)))] := hl
  have hO : ∀ j, j ≠ 84 → F j = F j := fun _ _ => rfl
  refine lv_aload_n X.1.1 X.1.2.1 dX4_tellSign_0 rfl (lv_at hl 0 rfl) ?_
  refine sx_get X hP in_X4_tellSign_X4 h84 (by decide) rfl 4 (by decide) lk_X4_tellSign_fieldLink_RX4_36_RaceWatch_Telling_due_I rfl dX4_tellSign_1 ?_
  refine sx_if_ne X (by decide) (tgt := 34) dX4_tellSign_4 (by decide) (fun _ => ?_) (fun h => absurd h (by decide))
  refine lv_aload_n X.1.1 X.1.2.1 dX4_tellSign_34 rfl (lv_at hl 0 rfl) ?_
  refine sx_get X hP in_X4_tellSign_X4 h84 (by decide) rfl 4 (by decide) lk_X4_tellSign_fieldLink_RX4_36_RaceWatch_Telling_due_I rfl dX4_tellSign_35 ?_
  refine lv_iconst (v := nI 2) X.1.1 X.1.2.1 dX4_tellSign_38 (by decide) ?_
  refine sx_icmp_ne X (by decide) (by decide) (tgt := 47) dX4_tellSign_39 (by decide) (fun _ => ?_) (fun h => absurd h (by decide))
  refine lv_bipush (v := nI 40) X.1.1 X.1.2.1 dX4_tellSign_47 (by decide) ?_
  refine lv_istore_n (lv' := [(2, .int (nI 40)), (0, rf G 84), (1, .int (nI (a)))]) X.1.1 X.1.2.1 dX4_tellSign_49 rfl hl (by decide) rfl (fun ls hl => ?_)
  refine lv_aload_n X.1.1 X.1.2.1 dX4_tellSign_50 rfl (lv_at hl 1 rfl) ?_
  refine lv_iconst (v := nI 0) X.1.1 X.1.2.1 dX4_tellSign_51 (by decide) ?_
  refine sx_put X hP in_X4_tellSign_X4 tyX4 tyX4_ok nmX4 h84 (by decide) rfl 4 (by decide) lk_X4_tellSign_fieldLink_RX4_36_RaceWatch_Telling_due_I rfl rfl rfl (Nat.le_of_ble_eq_true rfl) dX4_tellSign_52 (fun F1 H1 l1 e1 o1 hP => ?_)
  have h84 : F1 (84) = ob 4 ([q0, q1, rf G 85, rf G 88, .int (nI 0), q5, q6, q7, q8, rf G 89, rf G 90]) := e1
  have hO : ∀ j, j ≠ 84 → F1 j = F j := fun j hj => (o1 j (by omega)).trans (hO j hj)
  refine lv_iload_n X.1.1 X.1.2.1 dX4_tellSign_55 rfl (lv_at hl 2 rfl) ?_
  refine lv_iload_n X.1.1 X.1.2.1 dX4_tellSign_56 rfl (lv_at hl 0 rfl) ?_
  refine sx_icmp_ne X (by omega) (by decide) (tgt := 64) dX4_tellSign_57 (by decide) (fun c57 => ?_) (fun c57 => ?_)
  · refine lv_iconst (v := nI 1) X.1.1 X.1.2.1 dX4_tellSign_64 (by decide) ?_
    rw [hQ]
    exact sx_iret X rfl hs rfl hP dX4_tellSign_65 (⟨h84, hO, Or.inr ⟨c57, rfl⟩⟩)
  · refine lv_iconst (v := nI 0) X.1.1 X.1.2.1 dX4_tellSign_60 (by decide) ?_
    refine lv_goto (tgt := 65) X.1.1 X.1.2.1 dX4_tellSign_61 (by decide) ?_
    rw [hQ]
    exact sx_iret X rfl hs rfl hP dX4_tellSign_65 (⟨h84, hO, Or.inl ⟨c57, rfl⟩⟩)
