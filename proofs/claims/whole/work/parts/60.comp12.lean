theorem ys_X6_event : yX6_event.cls ≠ "java/lang/invoke/MethodHandle" ∧ yX6_event.cls ≠ "java/lang/invoke/VarHandle" ∧ (parseMethodDescriptor yX6_event.desc).map (fun d => d.parameters.length) = some 3 := by decide +kernel
theorem yv_X6_event : yX6_event.cls = RX6 ∧ yX6_event.cls ≠ "java/lang/invoke/MethodHandle" ∧ yX6_event.cls ≠ "java/lang/invoke/VarHandle" ∧ (parseMethodDescriptor yX6_event.desc).map (fun d => d.parameters.length) = some 3 := ⟨rfl, ys_X6_event⟩
theorem in_X6_event_X6 : ∀ w ∈ wsX60, w ∈ wsX6_event := fun _ h => List.mem_cons_of_mem _ (List.mem_append_left _ (List.mem_append_left _ (List.mem_append_left _ (List.mem_append_left _ (List.mem_append_right _ (h))))))
theorem lk_X6_event_fieldLink_RX6_10_RaceWatch_world_LRaceWatch_World : (.fieldLink RX6 10 "RaceWatch" "world" "LRaceWatch$World;" : Cond) ∈ wsX6_event := List.mem_cons_of_mem _ (List.mem_append_left _ (List.mem_append_left _ (List.mem_append_left _ (List.mem_append_left _ (List.mem_append_left _ (List.mem_append_left _ (List.mem_of_getElem? (i := 0) rfl)))))))
abbrev rmX6_event : Room := { frames := 5, cells := 0, slots := 0, locals := 134 }
set_option maxHeartbeats 800000 in
set_option maxRecDepth 100000 in
theorem mX6_event {G : sx_G} (l : Launch) {F : Nat → va_E} {w : Nat → Int32} {M : Nat} {xt xs xw : Int32}  (hW : WV G F w M 1) (hwf : WFw w M) (h0 : F (0) = ob 6 ([rf G 1, rf G 28, rf G 83, rf G 84])) (h1 : F (1) = ob 5 ([rf G 2, rf G 3, rf G 4, rf G 6, rf G 8, rf G 10, rf G 19])) : sx_I G l yX6_event wsX6_event rmX6_event [rf G 0, .int (xt), .int (xs), .int (xw)] (97) F (97) (fun r F1 => (F1 = F ∧ evF w M xt xs xw = (r, w)) ∨ ∃ t s x, t < 4 ∧ s < 8 ∧ x < boundF s ∧ (6 ≤ s → x ≠ t) ∧ M < 160 ∧ evF w M xt xs xw = (r, comeF w M t s x) ∧ r = nI M ∧ WV G F1 (comeF w M t s x) (1 + M) 1 ∧ ∀ j, (j = 0 ∨ 27 < j) → F1 j = F j) := by
  refine sx_enter (cc := cX6_event) (maxL := 5) (ret := some .int) (own := RX6) (nm := "event") (by decide) rfl rfl rfl (Nat.le_of_ble_eq_true rfl) ?_
  intro pp ee ss mm args below meth kc ls Q hQ X hs hP hl
  have hl : lv_has ls 5 [(0, rf G 0), (1, .int (xt)), (2, .int (xs)), (3, .int (xw))] := hl
  have hO : ∀ j, j = 0 ∨ 27 < j → F j = F j := fun _ _ => rfl
  refine lv_aload_n X.1.1 X.1.2.1 dX6_event_0 rfl (lv_at hl 0 rfl) ?_
  refine lv_iload_n X.1.1 X.1.2.1 dX6_event_1 rfl (lv_at hl 1 rfl) ?_
  refine lv_iload_n X.1.1 X.1.2.1 dX6_event_2 rfl (lv_at hl 2 rfl) ?_
  refine lv_iload_n X.1.1 X.1.2.1 dX6_event_3 rfl (lv_at hl 3 rfl) ?_
  refine sx_cvI (As := [.int (xt), .int (xs), .int (xw)]) (rest := []) X (mX6_refusalOf l (w := w) (M := M) hW hwf h0) gX6_event_X6_refusalOf rfl yv_X6_refusalOf ⟨Nat.le_of_ble_eq_true rfl, Nat.le_of_ble_eq_true rfl⟩ h0 (by decide) rfl rfl hl.1 rfl (Nat.le_of_ble_eq_true rfl) dX6_event_4 ⟨Nat.le_of_ble_eq_true rfl, Nat.le_of_ble_eq_true rfl⟩ hs rfl hP (fun r1 F1 H1 l1 hp hP => ?_)
  obtain ⟨rfl, ⟨hne, hev⟩ | ⟨rfl, t, s, x, ht, hs8, hx, hxt, rfl, rfl, rfl, hM, hev⟩⟩ := hp
  · refine lv_istore (lv' := [(4, .int (r1)), (0, rf G 0), (1, .int (xt)), (2, .int (xs)), (3, .int (xw))]) X.1.1 X.1.2.1 dX6_event_7 hl (by decide) rfl (fun ls hl => ?_)
    refine lv_iload X.1.1 X.1.2.1 dX6_event_9 (lv_at hl 0 rfl) ?_
    refine lv_if_ne X.1.1 X.1.2.1 (tgt := 27) dX6_event_11 (by decide) (fun c11 => ?_) (fun c11 => ?_)
    · refine lv_iload X.1.1 X.1.2.1 dX6_event_27 (lv_at hl 0 rfl) ?_
      rw [hQ]
      exact sx_iret X rfl hs rfl hP dX6_event_29 (Or.inl ⟨rfl, hev⟩)
    · exact absurd (c11.trans nI_0.symm) hne
  · refine lv_istore (lv' := [(4, .int (nI 0)), (0, rf G 0), (1, .int (nI (t))), (2, .int (nI (s))), (3, .int (nI (x)))]) X.1.1 X.1.2.1 dX6_event_7 hl (by decide) rfl (fun ls hl => ?_)
    refine lv_iload X.1.1 X.1.2.1 dX6_event_9 (lv_at hl 0 rfl) ?_
    refine sx_if_ne X (by decide) (tgt := 27) dX6_event_11 (by decide) (fun h => absurd h (by decide)) (fun _ => ?_)
    refine lv_aload_n X.1.1 X.1.2.1 dX6_event_14 rfl (lv_at hl 1 rfl) ?_
    refine sx_get X hP in_X6_event_X6 h0 (by decide) rfl 0 (by decide) lk_X6_event_fieldLink_RX6_10_RaceWatch_world_LRaceWatch_World rfl dX6_event_15 ?_
    refine lv_iload_n X.1.1 X.1.2.1 dX6_event_18 rfl (lv_at hl 2 rfl) ?_
    refine lv_iload_n X.1.1 X.1.2.1 dX6_event_19 rfl (lv_at hl 3 rfl) ?_
    refine lv_iload_n X.1.1 X.1.2.1 dX6_event_20 rfl (lv_at hl 4 rfl) ?_
    refine sx_cvI (As := [.int (nI (t)), .int (nI (s)), .int (nI (x))]) (rest := []) X (mX5_come l (w := w) (M := M) (t := t) (s := s) (x := x) hW hwf hM ht hs8 hx hxt) gX6_event_X5_come rfl yv_X5_come ⟨Nat.le_of_ble_eq_true rfl, Nat.le_of_ble_eq_true rfl⟩ h1 (by decide) rfl rfl hl.1 rfl (Nat.le_of_ble_eq_true rfl) dX6_event_21 ⟨Nat.le_of_ble_eq_true rfl, Nat.le_of_ble_eq_true rfl⟩ hs rfl hP (fun r2 F2 H2 l2 hp hP => ?_)
    obtain ⟨hW1, o2, rfl⟩ := hp
    have h0 := (o2 0 (by decide)).trans h0
    have hO : ∀ j, j = 0 ∨ 27 < j → F2 j = F j := fun j hj => (o2 j hj).trans (hO j hj)
    refine lv_goto (tgt := 29) X.1.1 X.1.2.1 dX6_event_24 (by decide) ?_
    rw [hQ]
    exact sx_iret X rfl hs rfl hP dX6_event_29 (Or.inr ⟨t, s, x, ht, hs8, hx, hxt, hM, hev, rfl, hW1, hO⟩)
