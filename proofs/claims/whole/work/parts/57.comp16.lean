theorem WV.obj {G : sx_G} {F : Nat → va_E} {w : Nat → Int32} {n : Nat} (h : WV G F w n 1) : F 1 = ob 5 ([rf G 2, rf G 3, rf G 4, rf G 6, rf G 8, rf G 10, rf G 19]) := by
  obtain ⟨st, ho, ct, cl, cs, kr, r4, r6, r8, h1, -⟩ := h
  exact h1
theorem WV.log {G : sx_G} {F : Nat → va_E} {w : Nat → Int32} {n : Nat} (h : WV G F w n 1) : F 19 = ob 3 ([.int (nI (n)), rf G 20, rf G 21, rf G 22, rf G 23, rf G 24, rf G 26, rf G 27]) := by
  obtain ⟨st, ho, ct, cl, cs, kr, r4, r6, r8, h1, h2, h3, h4, h5, h6, h7, h8, h9, h10, hkr, hRV, hKV, ⟨th, so, wi, lo, lc, rb, rc, rr, h19, -⟩, hRw⟩ := h
  exact h19
theorem WS.obj {G : sx_G} {F : Nat → va_E} {B : Nat} (h : WS G F B) : F B = ob 5 ([rf G (1 + B), rf G (2 + B), rf G (3 + B), rf G (5 + B), rf G (7 + B), rf G (9 + B), rf G (18 + B)]) := by
  obtain ⟨st, ho, ct, cl, cs, kr, h1, -⟩ := h
  exact h1
theorem ys_X6_keep : yX6_keep.cls ≠ "java/lang/invoke/MethodHandle" ∧ yX6_keep.cls ≠ "java/lang/invoke/VarHandle" ∧ (parseMethodDescriptor yX6_keep.desc).map (fun d => d.parameters.length) = some 1 := by decide +kernel
theorem yv_X6_keep : yX6_keep.cls = RX6 ∧ yX6_keep.cls ≠ "java/lang/invoke/MethodHandle" ∧ yX6_keep.cls ≠ "java/lang/invoke/VarHandle" ∧ (parseMethodDescriptor yX6_keep.desc).map (fun d => d.parameters.length) = some 1 := ⟨rfl, ys_X6_keep⟩
theorem in_X6_keep_X6 : ∀ w ∈ wsX60, w ∈ wsX6_keep := fun _ h => List.mem_cons_of_mem _ (List.mem_append_left _ (List.mem_append_left _ (List.mem_append_left _ (List.mem_append_left _ (List.mem_append_right _ (h))))))
theorem lk_X6_keep_fieldLink_RX6_16_RaceWatch_images_LRaceWatch_World : (.fieldLink RX6 16 "RaceWatch" "images" "[LRaceWatch$World;" : Cond) ∈ wsX6_keep := List.mem_cons_of_mem _ (List.mem_append_left _ (List.mem_append_left _ (List.mem_append_left _ (List.mem_append_left _ (List.mem_append_left _ (List.mem_append_left _ (List.mem_of_getElem? (i := 1) rfl)))))))
theorem lk_X6_keep_fieldLink_RX6_10_RaceWatch_world_LRaceWatch_World : (.fieldLink RX6 10 "RaceWatch" "world" "LRaceWatch$World;" : Cond) ∈ wsX6_keep := List.mem_cons_of_mem _ (List.mem_append_left _ (List.mem_append_left _ (List.mem_append_left _ (List.mem_append_left _ (List.mem_append_left _ (List.mem_append_left _ (List.mem_of_getElem? (i := 2) rfl)))))))
theorem lk_X6_keep_fieldLink_RX6_20_RaceWatch_isKept_Z : (.fieldLink RX6 20 "RaceWatch" "isKept" "[Z" : Cond) ∈ wsX6_keep := List.mem_cons_of_mem _ (List.mem_append_left _ (List.mem_append_left _ (List.mem_append_left _ (List.mem_append_left _ (List.mem_append_left _ (List.mem_append_left _ (List.mem_of_getElem? (i := 3) rfl)))))))
theorem in_X6_keep_X5 : ∀ w ∈ wsX50, w ∈ wsX6_keep := fun _ h => List.mem_cons_of_mem _ (List.mem_append_left _ (List.mem_append_left _ (List.mem_append_left _ (List.mem_append_right _ (h)))))
theorem lk_X6_keep_fieldLink_RX6_31_RaceWatch_World_log_LRaceWatch_Log : (.fieldLink RX6 31 "RaceWatch$World" "log" "LRaceWatch$Log;" : Cond) ∈ wsX6_keep := List.mem_cons_of_mem _ (List.mem_append_left _ (List.mem_append_left _ (List.mem_append_left _ (List.mem_append_left _ (List.mem_append_left _ (List.mem_append_left _ (List.mem_of_getElem? (i := 4) rfl)))))))
theorem in_X6_keep_X3 : ∀ w ∈ wsX30, w ∈ wsX6_keep := fun _ h => List.mem_cons_of_mem _ (List.mem_append_left _ (List.mem_append_left _ (List.mem_append_right _ (h))))
theorem lk_X6_keep_fieldLink_RX6_35_RaceWatch_Log_count_I : (.fieldLink RX6 35 "RaceWatch$Log" "count" "I" : Cond) ∈ wsX6_keep := List.mem_cons_of_mem _ (List.mem_append_left _ (List.mem_append_left _ (List.mem_append_left _ (List.mem_append_left _ (List.mem_append_left _ (List.mem_append_left _ (List.mem_of_getElem? (i := 5) rfl)))))))
theorem lk_X6_keep_constant_RX6_67_1000000001 : (.constant RX6 67 (-1000000001) : Cond) ∈ wsX6_keep := List.mem_cons_of_mem _ (List.mem_append_left _ (List.mem_append_left _ (List.mem_append_left _ (List.mem_append_left _ (List.mem_append_left _ (List.mem_append_left _ (List.mem_of_getElem? (i := 0) rfl)))))))
abbrev rmX6_keep : Room := { frames := 4, cells := 0, slots := 0, locals := 125 }
set_option maxHeartbeats 800000 in
set_option maxRecDepth 100000 in
theorem mX6_keep {G : sx_G} (l : Launch) {F : Nat → va_E} {w : Nat → Int32} {M : Nat} {x : Int32} {im : Nat → Option Nat} {ik : Nat → Int32}  (hW : WV G F w M 1) (hwf : WFw w M) (him : im 0 = some (sx_b G + 29) ∧ im 1 = some (sx_b G + 56)) (hS0 : WS G F 29) (hS1 : WS G F 56) (h0 : F (0) = ob 6 ([rf G 1, rf G 28, rf G 83, rf G 84])) (h28 : F (28) = rO G (2) (im)) (h83 : F (83) = rZ G (2) (ik)) : sx_I G l yX6_keep wsX6_keep rmX6_keep [rf G 0, .int (x)] (97) F (97) (fun r F1 => (¬ inR x 2 ∧ F1 = F ∧ -1000000001 = r) ∨ ∃ i, i < 2 ∧ x = nI i ∧ WV G F1 w M (29 + 27 * i) ∧ F1 83 = rZ G 2 (upd ik i (nI 1)) ∧ (∀ j, (j < 29 + 27 * i ∨ 56 + 27 * i ≤ j) ∧ j ≠ 83 → F1 j = F j) ∧ nI M = r) := by
  refine sx_enter (cc := cX6_keep) (maxL := 2) (ret := some .int) (own := RX6) (nm := "keep") (by decide) rfl rfl rfl (Nat.le_of_ble_eq_true rfl) ?_
  intro pp ee ss mm args below meth kc ls Q hQ X hs hP hl
  have hl : lv_has ls 2 [(0, rf G 0), (1, .int (x))] := hl
  have h1 := WV.obj hW
  have h19 := WV.log hW
  have h29 : F 29 = ob 5 ([rf G 30, rf G 31, rf G 32, rf G 34, rf G 36, rf G 38, rf G 47]) := WS.obj hS0
  have h56 : F 56 = ob 5 ([rf G 57, rf G 58, rf G 59, rf G 61, rf G 63, rf G 65, rf G 74]) := WS.obj hS1
  refine lv_iload_n X.1.1 X.1.2.1 dX6_keep_0 rfl (lv_at hl 1 rfl) ?_
  refine lv_iconst (v := nI 2) X.1.1 X.1.2.1 dX6_keep_1 (by decide) ?_
  refine sx_csI (As := [.int (x), .int (nI 2)]) (rest := []) X (mX6_isIn l (x := (x)) (k := 2) (by omega)) gX6_keep_X6_isIn rfl ys_X6_isIn ⟨Nat.le_of_ble_eq_true rfl, Nat.le_of_ble_eq_true rfl⟩ hl.1 rfl (Nat.le_of_ble_eq_true rfl) dX6_keep_2 ⟨Nat.le_of_ble_eq_true rfl, Nat.le_of_ble_eq_true rfl⟩ hs rfl hP (fun r1 F1 H1 l1 hp hP => ?_)
  obtain ⟨rfl, ⟨b2, rfl⟩ | ⟨b2, rfl⟩⟩ := hp
  · obtain ⟨i, hi, rfl⟩ := b2
    rcases (show i = 0 ∨ i = 1 by omega) with rfl | rfl
    · refine sx_if_ne X (by decide) (tgt := 11) dX6_keep_5 (by decide) (fun _ => ?_) (fun h => absurd h (by decide))
      refine lv_aload_n X.1.1 X.1.2.1 dX6_keep_11 rfl (lv_at hl 0 rfl) ?_
      refine sx_get X hP in_X6_keep_X6 h0 (by decide) rfl 1 (by decide) lk_X6_keep_fieldLink_RX6_16_RaceWatch_images_LRaceWatch_World rfl dX6_keep_12 ?_
      refine lv_iload_n X.1.1 X.1.2.1 dX6_keep_15 rfl (lv_at hl 1 rfl) ?_
      refine sx_oald X hP h28 (by decide) (0) (by decide) (by decide) (q := 29) him.1 dX6_keep_16 ?_
      refine lv_aload_n X.1.1 X.1.2.1 dX6_keep_17 rfl (lv_at hl 0 rfl) ?_
      refine sx_get X hP in_X6_keep_X6 h0 (by decide) rfl 0 (by decide) lk_X6_keep_fieldLink_RX6_10_RaceWatch_world_LRaceWatch_World rfl dX6_keep_18 ?_
      refine sx_cvV (As := [rf G 1]) (rest := []) X (mX5_copy l (B := 29) (C := 1) (M := M) (w := w) (by decide) (by decide) (by decide) hwf.2.1 hwf hS0 hW) gX6_keep_X5_copy rfl yv_X5_copy ⟨Nat.le_of_ble_eq_true rfl, Nat.le_of_ble_eq_true rfl⟩ h29 (by decide) rfl rfl hl.1 rfl (Nat.le_of_ble_eq_true rfl) dX6_keep_21 ⟨Nat.le_of_ble_eq_true rfl, Nat.le_of_ble_eq_true rfl⟩ hs rfl hP (fun F3 H3 l3 hp hP => ?_)
      obtain ⟨hW1, o3⟩ := hp
      have h0 := (o3 0 (by decide)).trans h0
      have h28 := (o3 28 (by decide)).trans h28
      have h83 := (o3 83 (by decide)).trans h83
      have h1 := (o3 1 (by decide)).trans h1
      have h19 := (o3 19 (by decide)).trans h19
      refine lv_aload_n X.1.1 X.1.2.1 dX6_keep_24 rfl (lv_at hl 0 rfl) ?_
      refine sx_get X hP in_X6_keep_X6 h0 (by decide) rfl 2 (by decide) lk_X6_keep_fieldLink_RX6_20_RaceWatch_isKept_Z rfl dX6_keep_25 ?_
      refine lv_iload_n X.1.1 X.1.2.1 dX6_keep_28 rfl (lv_at hl 1 rfl) ?_
      refine lv_iconst (v := nI 1) X.1.1 X.1.2.1 dX6_keep_29 (by decide) ?_
      refine sx_zast X hP h83 (by decide) (0) (by decide) (by decide) (by decide) dX6_keep_30 (fun F4 H4 l4 e4 o4 hP => ?_)
      obtain ⟨w4, hw4⟩ : ∃ z, z = upd ik (0) (nI (1)) := ⟨_, rfl⟩
      rw [← hw4] at e4
      have h83 : F4 (83) = rZ G (2) (w4) := e4
      have h0 := (o4 (0) (by decide)).trans h0
      have h28 := (o4 (28) (by decide)).trans h28
      have h1 := (o4 (1) (by decide)).trans h1
      have h19 := (o4 (19) (by decide)).trans h19
      refine lv_aload_n X.1.1 X.1.2.1 dX6_keep_31 rfl (lv_at hl 0 rfl) ?_
      refine sx_get X hP in_X6_keep_X6 h0 (by decide) rfl 0 (by decide) lk_X6_keep_fieldLink_RX6_10_RaceWatch_world_LRaceWatch_World rfl dX6_keep_32 ?_
      refine sx_get X hP in_X6_keep_X5 h1 (by decide) rfl 6 (by decide) lk_X6_keep_fieldLink_RX6_31_RaceWatch_World_log_LRaceWatch_Log rfl dX6_keep_35 ?_
      refine sx_get X hP in_X6_keep_X3 h19 (by decide) rfl 0 (by decide) lk_X6_keep_fieldLink_RX6_35_RaceWatch_Log_count_I rfl dX6_keep_38 ?_
      rw [hQ]
      exact sx_iret X rfl hs rfl hP dX6_keep_41 (Or.inr ⟨0, by decide, rfl, WV.upd hW1 (fun j a b => o4 j (by omega)), h83.trans (by rw [hw4]), fun j hj => (o4 j (by omega)).trans (o3 j (by omega)), rfl⟩)
    · refine sx_if_ne X (by decide) (tgt := 11) dX6_keep_5 (by decide) (fun _ => ?_) (fun h => absurd h (by decide))
      refine lv_aload_n X.1.1 X.1.2.1 dX6_keep_11 rfl (lv_at hl 0 rfl) ?_
      refine sx_get X hP in_X6_keep_X6 h0 (by decide) rfl 1 (by decide) lk_X6_keep_fieldLink_RX6_16_RaceWatch_images_LRaceWatch_World rfl dX6_keep_12 ?_
      refine lv_iload_n X.1.1 X.1.2.1 dX6_keep_15 rfl (lv_at hl 1 rfl) ?_
      refine sx_oald X hP h28 (by decide) (1) (by decide) (by decide) (q := 56) him.2 dX6_keep_16 ?_
      refine lv_aload_n X.1.1 X.1.2.1 dX6_keep_17 rfl (lv_at hl 0 rfl) ?_
      refine sx_get X hP in_X6_keep_X6 h0 (by decide) rfl 0 (by decide) lk_X6_keep_fieldLink_RX6_10_RaceWatch_world_LRaceWatch_World rfl dX6_keep_18 ?_
      refine sx_cvV (As := [rf G 1]) (rest := []) X (mX5_copy l (B := 56) (C := 1) (M := M) (w := w) (by decide) (by decide) (by decide) hwf.2.1 hwf hS1 hW) gX6_keep_X5_copy rfl yv_X5_copy ⟨Nat.le_of_ble_eq_true rfl, Nat.le_of_ble_eq_true rfl⟩ h56 (by decide) rfl rfl hl.1 rfl (Nat.le_of_ble_eq_true rfl) dX6_keep_21 ⟨Nat.le_of_ble_eq_true rfl, Nat.le_of_ble_eq_true rfl⟩ hs rfl hP (fun F5 H5 l5 hp hP => ?_)
      obtain ⟨hW1, o5⟩ := hp
      have h0 := (o5 0 (by decide)).trans h0
      have h28 := (o5 28 (by decide)).trans h28
      have h83 := (o5 83 (by decide)).trans h83
      have h1 := (o5 1 (by decide)).trans h1
      have h19 := (o5 19 (by decide)).trans h19
      refine lv_aload_n X.1.1 X.1.2.1 dX6_keep_24 rfl (lv_at hl 0 rfl) ?_
      refine sx_get X hP in_X6_keep_X6 h0 (by decide) rfl 2 (by decide) lk_X6_keep_fieldLink_RX6_20_RaceWatch_isKept_Z rfl dX6_keep_25 ?_
      refine lv_iload_n X.1.1 X.1.2.1 dX6_keep_28 rfl (lv_at hl 1 rfl) ?_
      refine lv_iconst (v := nI 1) X.1.1 X.1.2.1 dX6_keep_29 (by decide) ?_
      refine sx_zast X hP h83 (by decide) (1) (by decide) (by decide) (by decide) dX6_keep_30 (fun F6 H6 l6 e6 o6 hP => ?_)
      obtain ⟨w6, hw6⟩ : ∃ z, z = upd ik (1) (nI (1)) := ⟨_, rfl⟩
      rw [← hw6] at e6
      have h83 : F6 (83) = rZ G (2) (w6) := e6
      have h0 := (o6 (0) (by decide)).trans h0
      have h28 := (o6 (28) (by decide)).trans h28
      have h1 := (o6 (1) (by decide)).trans h1
      have h19 := (o6 (19) (by decide)).trans h19
      refine lv_aload_n X.1.1 X.1.2.1 dX6_keep_31 rfl (lv_at hl 0 rfl) ?_
      refine sx_get X hP in_X6_keep_X6 h0 (by decide) rfl 0 (by decide) lk_X6_keep_fieldLink_RX6_10_RaceWatch_world_LRaceWatch_World rfl dX6_keep_32 ?_
      refine sx_get X hP in_X6_keep_X5 h1 (by decide) rfl 6 (by decide) lk_X6_keep_fieldLink_RX6_31_RaceWatch_World_log_LRaceWatch_Log rfl dX6_keep_35 ?_
      refine sx_get X hP in_X6_keep_X3 h19 (by decide) rfl 0 (by decide) lk_X6_keep_fieldLink_RX6_35_RaceWatch_Log_count_I rfl dX6_keep_38 ?_
      rw [hQ]
      exact sx_iret X rfl hs rfl hP dX6_keep_41 (Or.inr ⟨1, by decide, rfl, WV.upd hW1 (fun j a b => o6 j (by omega)), h83.trans (by rw [hw6]), fun j hj => (o6 j (by omega)).trans (o5 j (by omega)), rfl⟩)
  · refine sx_if_ne X (by decide) (tgt := 11) dX6_keep_5 (by decide) (fun h => absurd h (by decide)) (fun _ => ?_)
    refine lv_ldc (v := -1000000001) X.1.1 X.1.2.1 X.1.2.2.2.1 (X.1.2.2.2.2 _ lk_X6_keep_constant_RX6_67_1000000001) dX6_keep_8 ?_
    rw [hQ]
    exact sx_iret X rfl hs rfl hP dX6_keep_10 (Or.inl ⟨b2, rfl, rfl⟩)
theorem ys_X6_goBack : yX6_goBack.cls ≠ "java/lang/invoke/MethodHandle" ∧ yX6_goBack.cls ≠ "java/lang/invoke/VarHandle" ∧ (parseMethodDescriptor yX6_goBack.desc).map (fun d => d.parameters.length) = some 1 := by decide +kernel
theorem yv_X6_goBack : yX6_goBack.cls = RX6 ∧ yX6_goBack.cls ≠ "java/lang/invoke/MethodHandle" ∧ yX6_goBack.cls ≠ "java/lang/invoke/VarHandle" ∧ (parseMethodDescriptor yX6_goBack.desc).map (fun d => d.parameters.length) = some 1 := ⟨rfl, ys_X6_goBack⟩
theorem in_X6_goBack_X6 : ∀ w ∈ wsX60, w ∈ wsX6_goBack := fun _ h => List.mem_cons_of_mem _ (List.mem_append_left _ (List.mem_append_left _ (List.mem_append_left _ (List.mem_append_left _ (List.mem_append_right _ (h))))))
theorem lk_X6_goBack_fieldLink_RX6_20_RaceWatch_isKept_Z : (.fieldLink RX6 20 "RaceWatch" "isKept" "[Z" : Cond) ∈ wsX6_goBack := List.mem_cons_of_mem _ (List.mem_append_left _ (List.mem_append_left _ (List.mem_append_left _ (List.mem_append_left _ (List.mem_append_left _ (List.mem_append_left _ (List.mem_of_getElem? (i := 1) rfl)))))))
theorem lk_X6_goBack_fieldLink_RX6_10_RaceWatch_world_LRaceWatch_World : (.fieldLink RX6 10 "RaceWatch" "world" "LRaceWatch$World;" : Cond) ∈ wsX6_goBack := List.mem_cons_of_mem _ (List.mem_append_left _ (List.mem_append_left _ (List.mem_append_left _ (List.mem_append_left _ (List.mem_append_left _ (List.mem_append_left _ (List.mem_of_getElem? (i := 3) rfl)))))))
theorem lk_X6_goBack_fieldLink_RX6_16_RaceWatch_images_LRaceWatch_World : (.fieldLink RX6 16 "RaceWatch" "images" "[LRaceWatch$World;" : Cond) ∈ wsX6_goBack := List.mem_cons_of_mem _ (List.mem_append_left _ (List.mem_append_left _ (List.mem_append_left _ (List.mem_append_left _ (List.mem_append_left _ (List.mem_append_left _ (List.mem_of_getElem? (i := 4) rfl)))))))
theorem in_X6_goBack_X5 : ∀ w ∈ wsX50, w ∈ wsX6_goBack := fun _ h => List.mem_cons_of_mem _ (List.mem_append_left _ (List.mem_append_left _ (List.mem_append_left _ (List.mem_append_right _ (h)))))
theorem lk_X6_goBack_fieldLink_RX6_31_RaceWatch_World_log_LRaceWatch_Log : (.fieldLink RX6 31 "RaceWatch$World" "log" "LRaceWatch$Log;" : Cond) ∈ wsX6_goBack := List.mem_cons_of_mem _ (List.mem_append_left _ (List.mem_append_left _ (List.mem_append_left _ (List.mem_append_left _ (List.mem_append_left _ (List.mem_append_left _ (List.mem_of_getElem? (i := 5) rfl)))))))
theorem in_X6_goBack_X3 : ∀ w ∈ wsX30, w ∈ wsX6_goBack := fun _ h => List.mem_cons_of_mem _ (List.mem_append_left _ (List.mem_append_left _ (List.mem_append_right _ (h))))
theorem lk_X6_goBack_fieldLink_RX6_35_RaceWatch_Log_count_I : (.fieldLink RX6 35 "RaceWatch$Log" "count" "I" : Cond) ∈ wsX6_goBack := List.mem_cons_of_mem _ (List.mem_append_left _ (List.mem_append_left _ (List.mem_append_left _ (List.mem_append_left _ (List.mem_append_left _ (List.mem_append_left _ (List.mem_of_getElem? (i := 6) rfl)))))))
theorem lk_X6_goBack_constant_RX6_72_1000000003 : (.constant RX6 72 (-1000000003) : Cond) ∈ wsX6_goBack := List.mem_cons_of_mem _ (List.mem_append_left _ (List.mem_append_left _ (List.mem_append_left _ (List.mem_append_left _ (List.mem_append_left _ (List.mem_append_left _ (List.mem_of_getElem? (i := 2) rfl)))))))
theorem lk_X6_goBack_constant_RX6_67_1000000001 : (.constant RX6 67 (-1000000001) : Cond) ∈ wsX6_goBack := List.mem_cons_of_mem _ (List.mem_append_left _ (List.mem_append_left _ (List.mem_append_left _ (List.mem_append_left _ (List.mem_append_left _ (List.mem_append_left _ (List.mem_of_getElem? (i := 0) rfl)))))))
abbrev rmX6_goBack : Room := { frames := 4, cells := 0, slots := 0, locals := 125 }
set_option maxHeartbeats 800000 in
set_option maxRecDepth 100000 in
theorem mX6_goBack {G : sx_G} (l : Launch) {F : Nat → va_E} {w : Nat → Int32} {M : Nat} {x : Int32} {im : Nat → Option Nat} {ik : Nat → Int32} {v : Nat → Nat → Int32} {m : Nat → Nat}  (hW : WV G F w M 1) (hwf : WFw w M) (him : im 0 = some (sx_b G + 29) ∧ im 1 = some (sx_b G + 56)) (hI : ∀ i, i < 2 → ¬ ik i = 0 → WFw (v i) (m i) ∧ WV G F (v i) (m i) (29 + 27 * i)) (h0 : F (0) = ob 6 ([rf G 1, rf G 28, rf G 83, rf G 84])) (h28 : F (28) = rO G (2) (im)) (h83 : F (83) = rZ G (2) (ik)) : sx_I G l yX6_goBack wsX6_goBack rmX6_goBack [rf G 0, .int (x)] (97) F (97) (fun r F1 => (¬ inR x 2 ∧ F1 = F ∧ -1000000001 = r) ∨ (∃ i, i < 2 ∧ x = nI i ∧ ik i = 0 ∧ F1 = F ∧ -1000000003 = r) ∨ ∃ i, i < 2 ∧ x = nI i ∧ ¬ ik i = 0 ∧ WV G F1 (v i) (m i) 1 ∧ (∀ j, (j = 0 ∨ 27 < j) → F1 j = F j) ∧ nI (m i) = r) := by
  refine sx_enter (cc := cX6_goBack) (maxL := 2) (ret := some .int) (own := RX6) (nm := "goBack") (by decide) rfl rfl rfl (Nat.le_of_ble_eq_true rfl) ?_
  intro pp ee ss mm args below meth kc ls Q hQ X hs hP hl
  have hl : lv_has ls 2 [(0, rf G 0), (1, .int (x))] := hl
  have h1 := WV.obj hW
  have h19 := WV.log hW
  refine lv_iload_n X.1.1 X.1.2.1 dX6_goBack_0 rfl (lv_at hl 1 rfl) ?_
  refine lv_iconst (v := nI 2) X.1.1 X.1.2.1 dX6_goBack_1 (by decide) ?_
  refine sx_csI (As := [.int (x), .int (nI 2)]) (rest := []) X (mX6_isIn l (x := (x)) (k := 2) (by omega)) gX6_goBack_X6_isIn rfl ys_X6_isIn ⟨Nat.le_of_ble_eq_true rfl, Nat.le_of_ble_eq_true rfl⟩ hl.1 rfl (Nat.le_of_ble_eq_true rfl) dX6_goBack_2 ⟨Nat.le_of_ble_eq_true rfl, Nat.le_of_ble_eq_true rfl⟩ hs rfl hP (fun r1 F1 H1 l1 hp hP => ?_)
  obtain ⟨rfl, ⟨b2, rfl⟩ | ⟨b2, rfl⟩⟩ := hp
  · obtain ⟨i, hi, rfl⟩ := b2
    rcases (show i = 0 ∨ i = 1 by omega) with rfl | rfl
    · refine sx_if_ne X (by decide) (tgt := 11) dX6_goBack_5 (by decide) (fun _ => ?_) (fun h => absurd h (by decide))
      refine lv_aload_n X.1.1 X.1.2.1 dX6_goBack_11 rfl (lv_at hl 0 rfl) ?_
      refine sx_get X hP in_X6_goBack_X6 h0 (by decide) rfl 2 (by decide) lk_X6_goBack_fieldLink_RX6_20_RaceWatch_isKept_Z rfl dX6_goBack_12 ?_
      refine lv_iload_n X.1.1 X.1.2.1 dX6_goBack_15 rfl (lv_at hl 1 rfl) ?_
      refine sx_zald X hP h83 (by decide) (0) (by decide) (by decide) dX6_goBack_16 ?_
      refine lv_if_ne X.1.1 X.1.2.1 (tgt := 23) dX6_goBack_17 (by decide) (fun c17 => ?_) (fun c17 => ?_)
      · refine lv_aload_n X.1.1 X.1.2.1 dX6_goBack_23 rfl (lv_at hl 0 rfl) ?_
        refine sx_get X hP in_X6_goBack_X6 h0 (by decide) rfl 0 (by decide) lk_X6_goBack_fieldLink_RX6_10_RaceWatch_world_LRaceWatch_World rfl dX6_goBack_24 ?_
        refine lv_aload_n X.1.1 X.1.2.1 dX6_goBack_27 rfl (lv_at hl 0 rfl) ?_
        refine sx_get X hP in_X6_goBack_X6 h0 (by decide) rfl 1 (by decide) lk_X6_goBack_fieldLink_RX6_16_RaceWatch_images_LRaceWatch_World rfl dX6_goBack_28 ?_
        refine lv_iload_n X.1.1 X.1.2.1 dX6_goBack_31 rfl (lv_at hl 1 rfl) ?_
        refine sx_oald X hP h28 (by decide) (0) (by decide) (by decide) (q := 29) him.1 dX6_goBack_32 ?_
        obtain ⟨hwi, hWi⟩ := hI 0 (by decide) c17
        refine sx_cvV (As := [rf G 29]) (rest := []) X (mX5_copy l (B := 1) (C := 29) (M := m 0) (w := v 0) (by decide) (by decide) (by decide) hwi.2.1 hwi (WV.shape hW) hWi) gX6_goBack_X5_copy rfl yv_X5_copy ⟨Nat.le_of_ble_eq_true rfl, Nat.le_of_ble_eq_true rfl⟩ h1 (by decide) rfl rfl hl.1 rfl (Nat.le_of_ble_eq_true rfl) dX6_goBack_33 ⟨Nat.le_of_ble_eq_true rfl, Nat.le_of_ble_eq_true rfl⟩ hs rfl hP (fun F3 H3 l3 hp hP => ?_)
        obtain ⟨hW1, o3⟩ := hp
        have h0 := (o3 0 (by decide)).trans h0
        have h28 := (o3 28 (by decide)).trans h28
        have h83 := (o3 83 (by decide)).trans h83
        have h1 := WV.obj hW1
        have h19 := WV.log hW1
        refine lv_aload_n X.1.1 X.1.2.1 dX6_goBack_36 rfl (lv_at hl 0 rfl) ?_
        refine sx_get X hP in_X6_goBack_X6 h0 (by decide) rfl 0 (by decide) lk_X6_goBack_fieldLink_RX6_10_RaceWatch_world_LRaceWatch_World rfl dX6_goBack_37 ?_
        refine sx_get X hP in_X6_goBack_X5 h1 (by decide) rfl 6 (by decide) lk_X6_goBack_fieldLink_RX6_31_RaceWatch_World_log_LRaceWatch_Log rfl dX6_goBack_40 ?_
        refine sx_get X hP in_X6_goBack_X3 h19 (by decide) rfl 0 (by decide) lk_X6_goBack_fieldLink_RX6_35_RaceWatch_Log_count_I rfl dX6_goBack_43 ?_
        rw [hQ]
        exact sx_iret X rfl hs rfl hP dX6_goBack_46 (Or.inr (Or.inr ⟨0, by decide, rfl, c17, hW1, fun j hj => o3 j (by omega), rfl⟩))
      · refine lv_ldc (v := -1000000003) X.1.1 X.1.2.1 X.1.2.2.2.1 (X.1.2.2.2.2 _ lk_X6_goBack_constant_RX6_72_1000000003) dX6_goBack_20 ?_
        rw [hQ]
        exact sx_iret X rfl hs rfl hP dX6_goBack_22 (Or.inr (Or.inl ⟨0, by decide, rfl, c17, rfl, rfl⟩))
    · refine sx_if_ne X (by decide) (tgt := 11) dX6_goBack_5 (by decide) (fun _ => ?_) (fun h => absurd h (by decide))
      refine lv_aload_n X.1.1 X.1.2.1 dX6_goBack_11 rfl (lv_at hl 0 rfl) ?_
      refine sx_get X hP in_X6_goBack_X6 h0 (by decide) rfl 2 (by decide) lk_X6_goBack_fieldLink_RX6_20_RaceWatch_isKept_Z rfl dX6_goBack_12 ?_
      refine lv_iload_n X.1.1 X.1.2.1 dX6_goBack_15 rfl (lv_at hl 1 rfl) ?_
      refine sx_zald X hP h83 (by decide) (1) (by decide) (by decide) dX6_goBack_16 ?_
      refine lv_if_ne X.1.1 X.1.2.1 (tgt := 23) dX6_goBack_17 (by decide) (fun c17 => ?_) (fun c17 => ?_)
      · refine lv_aload_n X.1.1 X.1.2.1 dX6_goBack_23 rfl (lv_at hl 0 rfl) ?_
        refine sx_get X hP in_X6_goBack_X6 h0 (by decide) rfl 0 (by decide) lk_X6_goBack_fieldLink_RX6_10_RaceWatch_world_LRaceWatch_World rfl dX6_goBack_24 ?_
        refine lv_aload_n X.1.1 X.1.2.1 dX6_goBack_27 rfl (lv_at hl 0 rfl) ?_
        refine sx_get X hP in_X6_goBack_X6 h0 (by decide) rfl 1 (by decide) lk_X6_goBack_fieldLink_RX6_16_RaceWatch_images_LRaceWatch_World rfl dX6_goBack_28 ?_
        refine lv_iload_n X.1.1 X.1.2.1 dX6_goBack_31 rfl (lv_at hl 1 rfl) ?_
        refine sx_oald X hP h28 (by decide) (1) (by decide) (by decide) (q := 56) him.2 dX6_goBack_32 ?_
        obtain ⟨hwi, hWi⟩ := hI 1 (by decide) c17
        refine sx_cvV (As := [rf G 56]) (rest := []) X (mX5_copy l (B := 1) (C := 56) (M := m 1) (w := v 1) (by decide) (by decide) (by decide) hwi.2.1 hwi (WV.shape hW) hWi) gX6_goBack_X5_copy rfl yv_X5_copy ⟨Nat.le_of_ble_eq_true rfl, Nat.le_of_ble_eq_true rfl⟩ h1 (by decide) rfl rfl hl.1 rfl (Nat.le_of_ble_eq_true rfl) dX6_goBack_33 ⟨Nat.le_of_ble_eq_true rfl, Nat.le_of_ble_eq_true rfl⟩ hs rfl hP (fun F4 H4 l4 hp hP => ?_)
        obtain ⟨hW1, o4⟩ := hp
        have h0 := (o4 0 (by decide)).trans h0
        have h28 := (o4 28 (by decide)).trans h28
        have h83 := (o4 83 (by decide)).trans h83
        have h1 := WV.obj hW1
        have h19 := WV.log hW1
        refine lv_aload_n X.1.1 X.1.2.1 dX6_goBack_36 rfl (lv_at hl 0 rfl) ?_
        refine sx_get X hP in_X6_goBack_X6 h0 (by decide) rfl 0 (by decide) lk_X6_goBack_fieldLink_RX6_10_RaceWatch_world_LRaceWatch_World rfl dX6_goBack_37 ?_
        refine sx_get X hP in_X6_goBack_X5 h1 (by decide) rfl 6 (by decide) lk_X6_goBack_fieldLink_RX6_31_RaceWatch_World_log_LRaceWatch_Log rfl dX6_goBack_40 ?_
        refine sx_get X hP in_X6_goBack_X3 h19 (by decide) rfl 0 (by decide) lk_X6_goBack_fieldLink_RX6_35_RaceWatch_Log_count_I rfl dX6_goBack_43 ?_
        rw [hQ]
        exact sx_iret X rfl hs rfl hP dX6_goBack_46 (Or.inr (Or.inr ⟨1, by decide, rfl, c17, hW1, fun j hj => o4 j (by omega), rfl⟩))
      · refine lv_ldc (v := -1000000003) X.1.1 X.1.2.1 X.1.2.2.2.1 (X.1.2.2.2.2 _ lk_X6_goBack_constant_RX6_72_1000000003) dX6_goBack_20 ?_
        rw [hQ]
        exact sx_iret X rfl hs rfl hP dX6_goBack_22 (Or.inr (Or.inl ⟨1, by decide, rfl, c17, rfl, rfl⟩))
  · refine sx_if_ne X (by decide) (tgt := 11) dX6_goBack_5 (by decide) (fun h => absurd h (by decide)) (fun _ => ?_)
    refine lv_ldc (v := -1000000001) X.1.1 X.1.2.1 X.1.2.2.2.1 (X.1.2.2.2.2 _ lk_X6_goBack_constant_RX6_67_1000000001) dX6_goBack_8 ?_
    rw [hQ]
    exact sx_iret X rfl hs rfl hP dX6_goBack_10 (Or.inl ⟨b2, rfl, rfl⟩)
