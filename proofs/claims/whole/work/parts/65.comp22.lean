theorem ys_X4_tellThread : yX4_tellThread.cls ≠ "java/lang/invoke/MethodHandle" ∧ yX4_tellThread.cls ≠ "java/lang/invoke/VarHandle" ∧ (parseMethodDescriptor yX4_tellThread.desc).map (fun d => d.parameters.length) = some 2 := by decide +kernel
theorem yv_X4_tellThread : yX4_tellThread.cls = RX4 ∧ yX4_tellThread.cls ≠ "java/lang/invoke/MethodHandle" ∧ yX4_tellThread.cls ≠ "java/lang/invoke/VarHandle" ∧ (parseMethodDescriptor yX4_tellThread.desc).map (fun d => d.parameters.length) = some 2 := ⟨rfl, ys_X4_tellThread⟩
theorem in_X4_tellThread_X4 : ∀ w ∈ wsX40, w ∈ wsX4_tellThread := fun _ h => List.mem_cons_of_mem _ (List.mem_append_left _ (List.mem_append_right _ (h)))
theorem lk_X4_tellThread_fieldLink_RX4_39_RaceWatch_Telling_threadAtIt_I : (.fieldLink RX4 39 "RaceWatch$Telling" "threadAtIt" "I" : Cond) ∈ wsX4_tellThread := List.mem_cons_of_mem _ (List.mem_append_left _ (List.mem_append_left _ (List.mem_of_getElem? (i := 0) rfl)))
theorem lk_X4_tellThread_fieldLink_RX4_36_RaceWatch_Telling_due_I : (.fieldLink RX4 36 "RaceWatch$Telling" "due" "I" : Cond) ∈ wsX4_tellThread := List.mem_cons_of_mem _ (List.mem_append_left _ (List.mem_append_left _ (List.mem_of_getElem? (i := 1) rfl)))
abbrev rmX4_tellThread : Room := { frames := 1, cells := 0, slots := 0, locals := 21 }
set_option maxHeartbeats 800000 in
set_option maxRecDepth 100000 in
theorem mX4_tellThread {G : sx_G} (l : Launch) {F : Nat → va_E} {d x : Nat} {tw : Int32} {st ol ot : Nat → Int32} {q0 q1 q4 q5 q7 : Value}  (hd : d < 240) (hx : x < 4) (h84 : F (84) = ob 4 ([q0, q1, rf G 85, rf G 88, q4, q5, .int (tw), q7, .int (nI (d)), rf G 89, rf G 90])) (h89 : F (89) = rI G (240) (ol)) (h90 : F (90) = rI G (240) (ot)) (h1 : F (1) = ob 5 ([rf G 2, rf G 3, rf G 4, rf G 6, rf G 8, rf G 10, rf G 19])) (h2 : F (2) = rI G (4) (st)) : sx_I G l yX4_tellThread wsX4_tellThread rmX4_tellThread [rf G 84, .int (nI (x)), rf G 1] (97) F (97) (fun r F1 => (¬ st x = nI 1 ∧ F1 = F ∧ nI 4 = r) ∨ (st x = nI 1 ∧ F1 84 = ob 4 ([q0, q1, rf G 85, rf G 88, .int (nI 3), q5, .int (nI (x)), q7, .int (nI (1 + d)), rf G 89, rf G 90]) ∧ F1 89 = rI G 240 (upd ol d (-1)) ∧ F1 90 = rI G 240 (upd ot d tw) ∧ (∀ j, j ≠ 84 ∧ j ≠ 89 ∧ j ≠ 90 → F1 j = F j) ∧ nI 0 = r)) := by
  refine sx_enter (cc := cX4_tellThread) (maxL := 3) (ret := some .int) (own := RX4) (nm := "tellThread") (by decide) rfl rfl rfl (Nat.le_of_ble_eq_true rfl) ?_
  intro pp ee ss mm args below meth kc ls Q hQ X hs hP hl
  have hl : lv_has ls 3 [(0, rf G 84), (1, .int (nI (x))), (2, rf G 1)] := hl
  have hO : ∀ j, j ≠ 84 ∧ j ≠ 89 ∧ j ≠ 90 → F j = F j := fun _ _ => rfl
  refine lv_aload_n X.1.1 X.1.2.1 dX4_tellThread_0 rfl (lv_at hl 2 rfl) ?_
  refine lv_iload_n X.1.1 X.1.2.1 dX4_tellThread_1 rfl (lv_at hl 1 rfl) ?_
  refine sx_cvI (As := [.int (nI (x))]) (rest := []) X (mX5_goes l (t := x) (by omega) h1 h2) gX4_tellThread_X5_goes rfl yv_X5_goes ⟨Nat.le_of_ble_eq_true rfl, Nat.le_of_ble_eq_true rfl⟩ h1 (by decide) rfl rfl hl.1 rfl (Nat.le_of_ble_eq_true rfl) dX4_tellThread_2 ⟨Nat.le_of_ble_eq_true rfl, Nat.le_of_ble_eq_true rfl⟩ hs rfl hP (fun r1 F1 H1 l1 hp hP => ?_)
  obtain ⟨rfl, ⟨b2, rfl⟩ | ⟨b2, rfl⟩⟩ := hp
  · refine sx_if_ne X (by decide) (tgt := 10) dX4_tellThread_5 (by decide) (fun _ => ?_) (fun h => absurd h (by decide))
    refine lv_aload_n X.1.1 X.1.2.1 dX4_tellThread_10 rfl (lv_at hl 0 rfl) ?_
    refine lv_iconst (v := (-1)) X.1.1 X.1.2.1 dX4_tellThread_11 (by decide) ?_
    refine sx_cvV (As := [.int (-1)]) (rest := []) X (mX4_open l (d := d) (tw := (tw)) (a := (-1)) (by omega) h84 h89 h90) gX4_tellThread_X4_open rfl yv_X4_open ⟨Nat.le_of_ble_eq_true rfl, Nat.le_of_ble_eq_true rfl⟩ h84 (by decide) rfl rfl hl.1 rfl (Nat.le_of_ble_eq_true rfl) dX4_tellThread_12 ⟨Nat.le_of_ble_eq_true rfl, Nat.le_of_ble_eq_true rfl⟩ hs rfl hP (fun F3 H3 l3 hp hP => ?_)
    obtain ⟨e3, f3, g3, o3⟩ := hp
    have h84 : F3 (84) = ob 4 ([q0, q1, rf G 85, rf G 88, q4, q5, .int (tw), q7, .int (nI (1 + d)), rf G 89, rf G 90]) := e3
    have h89 : F3 (89) = rI G (240) (upd ol d (-1)) := f3
    have h90 : F3 (90) = rI G (240) (upd ot d (tw)) := g3
    have h1 := (o3 (1) (by decide)).trans h1
    have h2 := (o3 (2) (by decide)).trans h2
    have hO : ∀ j, j ≠ 84 ∧ j ≠ 89 ∧ j ≠ 90 → F3 j = F j := fun j hj => (o3 j (by omega)).trans (hO j hj)
    refine lv_aload_n X.1.1 X.1.2.1 dX4_tellThread_15 rfl (lv_at hl 0 rfl) ?_
    refine lv_iload_n X.1.1 X.1.2.1 dX4_tellThread_16 rfl (lv_at hl 1 rfl) ?_
    refine sx_put X hP in_X4_tellThread_X4 tyX4 tyX4_ok nmX4 h84 (by decide) rfl 6 (by decide) lk_X4_tellThread_fieldLink_RX4_39_RaceWatch_Telling_threadAtIt_I rfl rfl rfl (Nat.le_of_ble_eq_true rfl) dX4_tellThread_17 (fun F4 H4 l4 e4 o4 hP => ?_)
    have h84 : F4 (84) = ob 4 ([q0, q1, rf G 85, rf G 88, q4, q5, .int (nI (x)), q7, .int (nI (1 + d)), rf G 89, rf G 90]) := e4
    have h89 := (o4 (89) (by decide)).trans h89
    have h90 := (o4 (90) (by decide)).trans h90
    have h1 := (o4 (1) (by decide)).trans h1
    have h2 := (o4 (2) (by decide)).trans h2
    have hO : ∀ j, j ≠ 84 ∧ j ≠ 89 ∧ j ≠ 90 → F4 j = F j := fun j hj => (o4 j (by omega)).trans (hO j hj)
    refine lv_aload_n X.1.1 X.1.2.1 dX4_tellThread_20 rfl (lv_at hl 0 rfl) ?_
    refine lv_iconst (v := nI 3) X.1.1 X.1.2.1 dX4_tellThread_21 (by decide) ?_
    refine sx_put X hP in_X4_tellThread_X4 tyX4 tyX4_ok nmX4 h84 (by decide) rfl 4 (by decide) lk_X4_tellThread_fieldLink_RX4_36_RaceWatch_Telling_due_I rfl rfl rfl (Nat.le_of_ble_eq_true rfl) dX4_tellThread_22 (fun F5 H5 l5 e5 o5 hP => ?_)
    have h84 : F5 (84) = ob 4 ([q0, q1, rf G 85, rf G 88, .int (nI 3), q5, .int (nI (x)), q7, .int (nI (1 + d)), rf G 89, rf G 90]) := e5
    have h89 := (o5 (89) (by decide)).trans h89
    have h90 := (o5 (90) (by decide)).trans h90
    have h1 := (o5 (1) (by decide)).trans h1
    have h2 := (o5 (2) (by decide)).trans h2
    have hO : ∀ j, j ≠ 84 ∧ j ≠ 89 ∧ j ≠ 90 → F5 j = F j := fun j hj => (o5 j (by omega)).trans (hO j hj)
    refine lv_iconst (v := nI 0) X.1.1 X.1.2.1 dX4_tellThread_25 (by decide) ?_
    rw [hQ]
    exact sx_iret X rfl hs rfl hP dX4_tellThread_26 (Or.inr ⟨b2, h84, h89, h90, hO, rfl⟩)
  · refine sx_if_ne X (by decide) (tgt := 10) dX4_tellThread_5 (by decide) (fun h => absurd h (by decide)) (fun _ => ?_)
    refine lv_iconst (v := nI 4) X.1.1 X.1.2.1 dX4_tellThread_8 (by decide) ?_
    rw [hQ]
    exact sx_iret X rfl hs rfl hP dX4_tellThread_9 (Or.inl ⟨b2, rfl, rfl⟩)
