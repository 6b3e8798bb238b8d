theorem ys_X7_run : yX7_run.cls ≠ "java/lang/invoke/MethodHandle" ∧ yX7_run.cls ≠ "java/lang/invoke/VarHandle" ∧ (parseMethodDescriptor yX7_run.desc).map (fun d => d.parameters.length) = some 0 := by decide +kernel
theorem yv_X7_run : yX7_run.cls = RX7 ∧ yX7_run.cls ≠ "java/lang/invoke/MethodHandle" ∧ yX7_run.cls ≠ "java/lang/invoke/VarHandle" ∧ (parseMethodDescriptor yX7_run.desc).map (fun d => d.parameters.length) = some 0 := ⟨rfl, ys_X7_run⟩
theorem in_X7_run_X7 : ∀ w ∈ wsX70, w ∈ wsX7_run := fun _ h => List.mem_cons_of_mem _ (List.mem_append_right _ (h))
theorem lk_X7_run_fieldLink_RX7_7_RaceWatchModel_w_I : (.fieldLink RX7 7 "RaceWatchModel" "w" "[I" : Cond) ∈ wsX7_run := List.mem_cons_of_mem _ (List.mem_append_left _ (List.mem_append_left _ (List.mem_of_getElem? (i := 0) rfl)))
theorem lk_X7_run_fieldLink_RX7_133_RaceWatchModel_at_I : (.fieldLink RX7 133 "RaceWatchModel" "at" "I" : Cond) ∈ wsX7_run := List.mem_cons_of_mem _ (List.mem_append_left _ (List.mem_append_left _ (List.mem_of_getElem? (i := 1) rfl)))
theorem lk_X7_run_fieldLink_RX7_159_RaceWatchModel_who_I : (.fieldLink RX7 159 "RaceWatchModel" "who" "I" : Cond) ∈ wsX7_run := List.mem_cons_of_mem _ (List.mem_append_left _ (List.mem_append_left _ (List.mem_of_getElem? (i := 2) rfl)))
theorem lk_X7_run_fieldLink_RX7_162_RaceWatchModel_open_I : (.fieldLink RX7 162 "RaceWatchModel" "open" "I" : Cond) ∈ wsX7_run := List.mem_cons_of_mem _ (List.mem_append_left _ (List.mem_append_left _ (List.mem_of_getElem? (i := 3) rfl)))
theorem lk_X7_run_fieldLink_RX7_156_RaceWatchModel_regions_I : (.fieldLink RX7 156 "RaceWatchModel" "regions" "I" : Cond) ∈ wsX7_run := List.mem_cons_of_mem _ (List.mem_append_left _ (List.mem_append_left _ (List.mem_of_getElem? (i := 4) rfl)))
theorem lk_X7_run_fieldLink_RX7_136_RaceWatchModel_fault_I : (.fieldLink RX7 136 "RaceWatchModel" "fault" "I" : Cond) ∈ wsX7_run := List.mem_cons_of_mem _ (List.mem_append_left _ (List.mem_append_left _ (List.mem_of_getElem? (i := 5) rfl)))
theorem lk_X7_run_fieldLink_RX7_139_RaceWatchModel_faultAt_I : (.fieldLink RX7 139 "RaceWatchModel" "faultAt" "I" : Cond) ∈ wsX7_run := List.mem_cons_of_mem _ (List.mem_append_left _ (List.mem_append_left _ (List.mem_of_getElem? (i := 6) rfl)))
abbrev rmX7_run : Room := { frames := 7, cells := 0, slots := 0, locals := 165 }
set_option maxHeartbeats 800000 in
set_option maxRecDepth 100000 in
theorem mX7_run {G : sx_G} (l : Launch) {F : Nat → va_E} {a1 xl : Value} {w jo ol ot : Nat → Int32} {A : Nat → Nat} {len n en : Nat} {z5 z6 z7 z8 z9 z10 z11 : Int32}  (hWF : WFw w n) (hA : LT A len w) (hen : en ≤ 24) (hjo : ∀ j, j < en → ∃ v, v < 6 ∧ jo j = nI v) (h91 : F (91) = ob 7 ([rf G 92, a1, .int (nI (en)), rf G 94, xl, .int (z5), .int (z6), .int (z7), .int (z8), .int (z9), .int (z10), .int (z11), rf G 95, rf G 96])) (h92 : F (92) = rI G (4358) (w)) (h94 : F (94) = rI G (24) (jo)) (h95 : F (95) = rI G (240) (ol)) (h96 : F (96) = rI G (240) (ot)) : sx_I G l yX7_run wsX7_run rmX7_run [rf G 91] (97) F (97) (fun r F1 => ∃ (f pos : Nat) (Tf : TT), goT A len (len - 0) (w, n, en, jo, 0, 0, 0, 0, ol, ot) = (f, pos, Tf) ∧ (F1 92 = rI G 4358 (upd (upd (shA Tf.2.2.2.2.2.2.2.1 Tf).1 1372 (nI 0)) 1613 (if f = 0 then -1 else nI pos)) ∧ F1 94 = rI G 24 (shA Tf.2.2.2.2.2.2.2.1 Tf).2.2.2.1 ∧ (∃ y5 y6 y7 y8 y9 y10 y11, F1 91 = ob 7 [rf G 92, a1, .int (nI ((shA Tf.2.2.2.2.2.2.2.1 Tf).2.2.1)), rf G 94, xl, .int y5, .int y6, .int y7, .int y8, .int y9, .int y10, .int y11, rf G 95, rf G 96]) ∧ (∃ o1, F1 95 = rI G 240 o1) ∧ (∃ o2, F1 96 = rI G 240 o2) ∧ (if f = 0 then nI (shA Tf.2.2.2.2.2.2.2.1 Tf).2.1 - nI n else -10 - nI f) = r) ∧ ∀ j, j ≠ 91 ∧ j ≠ 92 ∧ j ≠ 94 ∧ j ≠ 95 ∧ j ≠ 96 → F1 j = F j) := by
  refine sx_enter (cc := cX7_run) (maxL := 3) (ret := some .int) (own := RX7) (nm := "run") (by decide) rfl rfl rfl (Nat.le_of_ble_eq_true rfl) ?_
  intro pp ee ss mm args below meth kc ls Q hQ X hs hP hl
  have hl : lv_has ls 3 [(0, rf G 91)] := hl
  have hO : ∀ j, j ≠ 91 ∧ j ≠ 92 ∧ j ≠ 94 ∧ j ≠ 95 ∧ j ≠ 96 → F j = F j := fun _ _ => rfl
  have hn := hWF.2.1
  have h91n := hWF.1
  have hl240 := hA.2.1
  refine lv_aload_n X.1.1 X.1.2.1 dX7_run_0 rfl (lv_at hl 0 rfl) ?_
  refine sx_get X hP in_X7_run_X7 h91 (by decide) rfl 0 (by decide) lk_X7_run_fieldLink_RX7_7_RaceWatchModel_w_I rfl dX7_run_1 ?_
  refine lv_bipush (v := nI 91) X.1.1 X.1.2.1 dX7_run_4 (by decide) ?_
  refine sx_ald X hP h92 (by decide) (91) (by decide) (by decide) dX7_run_6 ?_
  rw [h91n]
  refine lv_istore_n (lv' := [(1, .int (nI (n))), (0, rf G 91)]) X.1.1 X.1.2.1 dX7_run_7 rfl hl (by decide) rfl (fun ls hl => ?_)
  refine lv_aload_n X.1.1 X.1.2.1 dX7_run_8 rfl (lv_at hl 1 rfl) ?_
  refine lv_iconst (v := nI 0) X.1.1 X.1.2.1 dX7_run_9 (by decide) ?_
  refine sx_put X hP in_X7_run_X7 tyX7 tyX7_ok nmX7 h91 (by decide) rfl 5 (by decide) lk_X7_run_fieldLink_RX7_133_RaceWatchModel_at_I rfl rfl rfl (Nat.le_of_ble_eq_true rfl) dX7_run_10 (fun F1 H1 l1 e1 o1 hP => ?_)
  have h91 : F1 (91) = ob 7 ([rf G 92, a1, .int (nI (en)), rf G 94, xl, .int (nI 0), .int (z6), .int (z7), .int (z8), .int (z9), .int (z10), .int (z11), rf G 95, rf G 96]) := e1
  have h92 := (o1 (92) (by decide)).trans h92
  have h94 := (o1 (94) (by decide)).trans h94
  have h95 := (o1 (95) (by decide)).trans h95
  have h96 := (o1 (96) (by decide)).trans h96
  have hO : ∀ j, j ≠ 91 ∧ j ≠ 92 ∧ j ≠ 94 ∧ j ≠ 95 ∧ j ≠ 96 → F1 j = F j := fun j hj => (o1 j (by omega)).trans (hO j hj)
  refine lv_aload_n X.1.1 X.1.2.1 dX7_run_13 rfl (lv_at hl 1 rfl) ?_
  refine lv_iconst (v := nI 0) X.1.1 X.1.2.1 dX7_run_14 (by decide) ?_
  refine sx_put X hP in_X7_run_X7 tyX7 tyX7_ok nmX7 h91 (by decide) rfl 9 (by decide) lk_X7_run_fieldLink_RX7_159_RaceWatchModel_who_I rfl rfl rfl (Nat.le_of_ble_eq_true rfl) dX7_run_15 (fun F2 H2 l2 e2 o2 hP => ?_)
  have h91 : F2 (91) = ob 7 ([rf G 92, a1, .int (nI (en)), rf G 94, xl, .int (nI 0), .int (z6), .int (z7), .int (z8), .int (nI 0), .int (z10), .int (z11), rf G 95, rf G 96]) := e2
  have h92 := (o2 (92) (by decide)).trans h92
  have h94 := (o2 (94) (by decide)).trans h94
  have h95 := (o2 (95) (by decide)).trans h95
  have h96 := (o2 (96) (by decide)).trans h96
  have hO : ∀ j, j ≠ 91 ∧ j ≠ 92 ∧ j ≠ 94 ∧ j ≠ 95 ∧ j ≠ 96 → F2 j = F j := fun j hj => (o2 j (by omega)).trans (hO j hj)
  refine lv_aload_n X.1.1 X.1.2.1 dX7_run_18 rfl (lv_at hl 1 rfl) ?_
  refine lv_iconst (v := nI 0) X.1.1 X.1.2.1 dX7_run_19 (by decide) ?_
  refine sx_put X hP in_X7_run_X7 tyX7 tyX7_ok nmX7 h91 (by decide) rfl 10 (by decide) lk_X7_run_fieldLink_RX7_162_RaceWatchModel_open_I rfl rfl rfl (Nat.le_of_ble_eq_true rfl) dX7_run_20 (fun F3 H3 l3 e3 o3 hP => ?_)
  have h91 : F3 (91) = ob 7 ([rf G 92, a1, .int (nI (en)), rf G 94, xl, .int (nI 0), .int (z6), .int (z7), .int (z8), .int (nI 0), .int (nI 0), .int (z11), rf G 95, rf G 96]) := e3
  have h92 := (o3 (92) (by decide)).trans h92
  have h94 := (o3 (94) (by decide)).trans h94
  have h95 := (o3 (95) (by decide)).trans h95
  have h96 := (o3 (96) (by decide)).trans h96
  have hO : ∀ j, j ≠ 91 ∧ j ≠ 92 ∧ j ≠ 94 ∧ j ≠ 95 ∧ j ≠ 96 → F3 j = F j := fun j hj => (o3 j (by omega)).trans (hO j hj)
  refine lv_aload_n X.1.1 X.1.2.1 dX7_run_23 rfl (lv_at hl 1 rfl) ?_
  refine lv_iconst (v := nI 0) X.1.1 X.1.2.1 dX7_run_24 (by decide) ?_
  refine sx_put X hP in_X7_run_X7 tyX7 tyX7_ok nmX7 h91 (by decide) rfl 11 (by decide) lk_X7_run_fieldLink_RX7_156_RaceWatchModel_regions_I rfl rfl rfl (Nat.le_of_ble_eq_true rfl) dX7_run_25 (fun F4 H4 l4 e4 o4 hP => ?_)
  have h91 : F4 (91) = ob 7 ([rf G 92, a1, .int (nI (en)), rf G 94, xl, .int (nI 0), .int (z6), .int (z7), .int (z8), .int (nI 0), .int (nI 0), .int (nI 0), rf G 95, rf G 96]) := e4
  have h92 := (o4 (92) (by decide)).trans h92
  have h94 := (o4 (94) (by decide)).trans h94
  have h95 := (o4 (95) (by decide)).trans h95
  have h96 := (o4 (96) (by decide)).trans h96
  have hO : ∀ j, j ≠ 91 ∧ j ≠ 92 ∧ j ≠ 94 ∧ j ≠ 95 ∧ j ≠ 96 → F4 j = F j := fun j hj => (o4 j (by omega)).trans (hO j hj)
  refine lv_aload_n X.1.1 X.1.2.1 dX7_run_28 rfl (lv_at hl 1 rfl) ?_
  refine lv_iconst (v := nI 0) X.1.1 X.1.2.1 dX7_run_29 (by decide) ?_
  refine sx_put X hP in_X7_run_X7 tyX7 tyX7_ok nmX7 h91 (by decide) rfl 7 (by decide) lk_X7_run_fieldLink_RX7_136_RaceWatchModel_fault_I rfl rfl rfl (Nat.le_of_ble_eq_true rfl) dX7_run_30 (fun F5 H5 l5 e5 o5 hP => ?_)
  have h91 : F5 (91) = ob 7 ([rf G 92, a1, .int (nI (en)), rf G 94, xl, .int (nI 0), .int (z6), .int (nI 0), .int (z8), .int (nI 0), .int (nI 0), .int (nI 0), rf G 95, rf G 96]) := e5
  have h92 := (o5 (92) (by decide)).trans h92
  have h94 := (o5 (94) (by decide)).trans h94
  have h95 := (o5 (95) (by decide)).trans h95
  have h96 := (o5 (96) (by decide)).trans h96
  have hO : ∀ j, j ≠ 91 ∧ j ≠ 92 ∧ j ≠ 94 ∧ j ≠ 95 ∧ j ≠ 96 → F5 j = F j := fun j hj => (o5 j (by omega)).trans (hO j hj)
  refine lv_aload_n X.1.1 X.1.2.1 dX7_run_33 rfl (lv_at hl 1 rfl) ?_
  refine lv_iconst (v := (-1)) X.1.1 X.1.2.1 dX7_run_34 (by decide) ?_
  refine sx_put X hP in_X7_run_X7 tyX7 tyX7_ok nmX7 h91 (by decide) rfl 8 (by decide) lk_X7_run_fieldLink_RX7_139_RaceWatchModel_faultAt_I rfl rfl rfl (Nat.le_of_ble_eq_true rfl) dX7_run_35 (fun F6 H6 l6 e6 o6 hP => ?_)
  have h91 : F6 (91) = ob 7 ([rf G 92, a1, .int (nI (en)), rf G 94, xl, .int (nI 0), .int (z6), .int (nI 0), .int (-1), .int (nI 0), .int (nI 0), .int (nI 0), rf G 95, rf G 96]) := e6
  have h92 := (o6 (92) (by decide)).trans h92
  have h94 := (o6 (94) (by decide)).trans h94
  have h95 := (o6 (95) (by decide)).trans h95
  have h96 := (o6 (96) (by decide)).trans h96
  have hO : ∀ j, j ≠ 91 ∧ j ≠ 92 ∧ j ≠ 94 ∧ j ≠ 95 ∧ j ≠ 96 → F6 j = F j := fun j hj => (o6 j (by omega)).trans (hO j hj)
  refine lv_iconst (v := nI 1) X.1.1 X.1.2.1 dX7_run_38 (by decide) ?_
  refine lv_istore_n (lv' := [(2, .int (nI 1)), (1, .int (nI (n))), (0, rf G 91)]) X.1.1 X.1.2.1 dX7_run_39 rfl hl (by decide) rfl (fun ls hl => ?_)
  have l2 : ∀ (k_l2 : Nat) (w2 : Nat → Int32) (n2 : Nat) (en2 : Nat) (jo2 : Nat → Int32) (due2 : Nat) (it2 : Nat) (who2 : Nat) (d2 : Nat) (ol2 : Nat → Int32) (ot2 : Nat → Int32) (i2 : Nat) (fig2 : Int32) (f : Nat) (pos : Nat) (ft : Int32) (gd : Nat) (Tf : TT) (Fv : Nat → va_E) (Hv : Heap) (lv : List Loc) (ls : Array Slot), (d2 = k_l2) → (IT A len i2 (w2, n2, en2, jo2, due2, it2, who2, d2, ol2, ot2)) → (i2 ≤ len) → (goT A len (len - 0) (w, n, en, jo, 0, 0, 0, 0, ol, ot) = (f, pos, Tf)) → (f ≤ 4) → (ft = if f = 0 then -1 else nI pos) → (shA d2 (w2, n2, en2, jo2, due2, it2, who2, d2, ol2, ot2) = shA Tf.2.2.2.2.2.2.2.1 Tf) → (Fv (91) = ob 7 ([rf G 92, a1, .int (nI (en2)), rf G 94, xl, .int (nI (i2)), .int (fig2), .int (nI (f)), .int (ft), .int (nI (who2)), .int (nI (d2)), .int (nI (rgF ol2 d2)), rf G 95, rf G 96])) → (Fv (92) = rI G (4358) (w2)) → (Fv (94) = rI G (24) (jo2)) → (Fv (95) = rI G (240) (ol2)) → (Fv (96) = rI G (240) (ot2)) → (∀ j, j ≠ 91 ∧ j ≠ 92 ∧ j ≠ 94 ∧ j ≠ 95 ∧ j ≠ 96 → Fv j = F j) → sx_H G (97) Fv ss.heap Hv lv → lv_has ls 3 [(0, rf G 91), (1, .int (nI (n))), (2, .int (nI (gd)))] → W pp l ee rmX7_run ss mm args below meth kc Hv lv 0 0 Q (F0 mm 81 ls []) := by
    intro k_l2
    induction k_l2 with
    | zero =>
      intro w2 n2 en2 jo2 due2 it2 who2 d2 ol2 ot2 i2 fig2 f pos ft gd Tf Fv Hv lv ls hkd hIT2 hi2 hgo hf4 hft hsh h91 h92 h94 h95 h96 hO hP hl
      have hd0 : d2 = 0 := hkd
      have hA2 := hIT2.2.2.2.2.2.2.2.2
      have hW2 := hIT2.1
      have h91n2 := hW2.1
      have hn2 := hW2.2.1
      have hrl2 := rgF_le ol2 d2
      refine lv_aload_n X.1.1 X.1.2.1 dX7_run_81 rfl (lv_at hl 0 rfl) ?_
      refine sx_get X hP in_X7_run_X7 h91 (by decide) rfl 10 (by decide) lk_X7_run_fieldLink_RX7_162_RaceWatchModel_open_I rfl dX7_run_82 ?_
      refine sx_if_le X (by omega) (tgt := 95) dX7_run_85 (by decide) (fun c85 => ?_) (fun c85 => absurd c85 (by omega))
      refine lv_aload_n X.1.1 X.1.2.1 dX7_run_95 rfl (lv_at hl 0 rfl) ?_
      refine sx_get X hP in_X7_run_X7 h91 (by decide) rfl 0 (by decide) lk_X7_run_fieldLink_RX7_7_RaceWatchModel_w_I rfl dX7_run_96 ?_
      refine lv_sipush (v := nI 1372) X.1.1 X.1.2.1 dX7_run_99 (by decide) ?_
      refine lv_iconst (v := nI 0) X.1.1 X.1.2.1 dX7_run_102 (by decide) ?_
      refine sx_ast X hP h92 (by decide) (1372) (by decide) (by decide) dX7_run_103 (fun F7 H7 l7 e7 o7 hP => ?_)
      obtain ⟨w7, hw7⟩ : ∃ z, z = upd w2 (1372) (nI (0)) := ⟨_, rfl⟩
      rw [← hw7] at e7
      have h91n2_7 : w7 (91) = (nI (n2)) := by rw [hw7]; exact (pk_un (by decide)).trans h91n2
      have h92 : F7 (92) = rI G (4358) (w7) := e7
      have h91 := (o7 (91) (by decide)).trans h91
      have h94 := (o7 (94) (by decide)).trans h94
      have h95 := (o7 (95) (by decide)).trans h95
      have h96 := (o7 (96) (by decide)).trans h96
      have hO : ∀ j, j ≠ 91 ∧ j ≠ 92 ∧ j ≠ 94 ∧ j ≠ 95 ∧ j ≠ 96 → F7 j = F j := fun j hj => (o7 j (by omega)).trans (hO j hj)
      refine lv_aload_n X.1.1 X.1.2.1 dX7_run_104 rfl (lv_at hl 0 rfl) ?_
      refine sx_get X hP in_X7_run_X7 h91 (by decide) rfl 0 (by decide) lk_X7_run_fieldLink_RX7_7_RaceWatchModel_w_I rfl dX7_run_105 ?_
      refine lv_sipush (v := nI 1613) X.1.1 X.1.2.1 dX7_run_108 (by decide) ?_
      refine lv_aload_n X.1.1 X.1.2.1 dX7_run_111 rfl (lv_at hl 0 rfl) ?_
      refine sx_get X hP in_X7_run_X7 h91 (by decide) rfl 8 (by decide) lk_X7_run_fieldLink_RX7_139_RaceWatchModel_faultAt_I rfl dX7_run_112 ?_
      refine sx_ast X hP h92 (by decide) (1613) (by decide) (by decide) dX7_run_115 (fun F8 H8 l8 e8 o8 hP => ?_)
      obtain ⟨w8, hw8⟩ : ∃ z, z = upd w7 (1613) (ft) := ⟨_, rfl⟩
      rw [← hw8] at e8
      have h91n2_7_8 : w8 (91) = (nI (n2)) := by rw [hw8]; exact (pk_un (by decide)).trans h91n2_7
      have h92 : F8 (92) = rI G (4358) (w8) := e8
      have h91 := (o8 (91) (by decide)).trans h91
      have h94 := (o8 (94) (by decide)).trans h94
      have h95 := (o8 (95) (by decide)).trans h95
      have h96 := (o8 (96) (by decide)).trans h96
      have hO : ∀ j, j ≠ 91 ∧ j ≠ 92 ∧ j ≠ 94 ∧ j ≠ 95 ∧ j ≠ 96 → F8 j = F j := fun j hj => (o8 j (by omega)).trans (hO j hj)
      refine lv_aload_n X.1.1 X.1.2.1 dX7_run_116 rfl (lv_at hl 0 rfl) ?_
      refine sx_get X hP in_X7_run_X7 h91 (by decide) rfl 7 (by decide) lk_X7_run_fieldLink_RX7_136_RaceWatchModel_fault_I rfl dX7_run_117 ?_
      refine sx_if_le X (by omega) (tgt := 133) dX7_run_120 (by decide) (fun c120 => ?_) (fun c120 => ?_)
      · refine lv_aload_n X.1.1 X.1.2.1 dX7_run_133 rfl (lv_at hl 0 rfl) ?_
        refine sx_get X hP in_X7_run_X7 h91 (by decide) rfl 0 (by decide) lk_X7_run_fieldLink_RX7_7_RaceWatchModel_w_I rfl dX7_run_134 ?_
        refine lv_bipush (v := nI 91) X.1.1 X.1.2.1 dX7_run_137 (by decide) ?_
        refine sx_ald X hP h92 (by decide) (91) (by decide) (by decide) dX7_run_139 ?_
        rw [h91n2_7_8]
        refine lv_iload_n X.1.1 X.1.2.1 dX7_run_140 rfl (lv_at hl 1 rfl) ?_
        refine lv_isub X.1.1 X.1.2.1 dX7_run_141 ?_
        have hT3 : shA Tf.2.2.2.2.2.2.2.1 Tf = (w2, n2, en2, jo2, due2, it2, who2, d2, ol2, ot2) := by rw [← hsh, hd0]; rfl
        rw [hQ]
        exact sx_iret X rfl hs rfl hP dX7_run_142 (⟨f, pos, Tf, hgo, by rw [hT3]; exact ⟨h92.trans (by rw [hw8, hw7, hft]), h94, ⟨_, _, _, _, _, _, _, h91⟩, ⟨_, h95⟩, ⟨_, h96⟩, by rw [if_pos c120]⟩, hO⟩)
      · refine lv_bipush (v := (-10)) X.1.1 X.1.2.1 dX7_run_123 (by decide) ?_
        refine lv_aload_n X.1.1 X.1.2.1 dX7_run_125 rfl (lv_at hl 0 rfl) ?_
        refine sx_get X hP in_X7_run_X7 h91 (by decide) rfl 7 (by decide) lk_X7_run_fieldLink_RX7_136_RaceWatchModel_fault_I rfl dX7_run_126 ?_
        refine lv_isub X.1.1 X.1.2.1 dX7_run_129 ?_
        refine lv_goto (tgt := 142) X.1.1 X.1.2.1 dX7_run_130 (by decide) ?_
        have hT3 : shA Tf.2.2.2.2.2.2.2.1 Tf = (w2, n2, en2, jo2, due2, it2, who2, d2, ol2, ot2) := by rw [← hsh, hd0]; rfl
        rw [hQ]
        exact sx_iret X rfl hs rfl hP dX7_run_142 (⟨f, pos, Tf, hgo, by rw [hT3]; exact ⟨h92.trans (by rw [hw8, hw7, hft]), h94, ⟨_, _, _, _, _, _, _, h91⟩, ⟨_, h95⟩, ⟨_, h96⟩, by rw [if_neg (by omega)]⟩, hO⟩)
    | succ k_l2 ih_l2 =>
      intro w2 n2 en2 jo2 due2 it2 who2 d2 ol2 ot2 i2 fig2 f pos ft gd Tf Fv Hv lv ls hkd hIT2 hi2 hgo hf4 hft hsh h91 h92 h94 h95 h96 hO hP hl
      have hrl2 := rgF_le ol2 d2
      have hd2i : d2 ≤ i2 := hIT2.2.2.1
      have hl240 := hIT2.2.2.2.2.2.2.2.2.2.1
      refine lv_aload_n X.1.1 X.1.2.1 dX7_run_81 rfl (lv_at hl 0 rfl) ?_
      refine sx_get X hP in_X7_run_X7 h91 (by decide) rfl 10 (by decide) lk_X7_run_fieldLink_RX7_162_RaceWatchModel_open_I rfl dX7_run_82 ?_
      refine sx_if_le X (by omega) (tgt := 95) dX7_run_85 (by decide) (fun c85 => absurd c85 (by omega)) (fun c85 => ?_)
      refine lv_aload_n X.1.1 X.1.2.1 dX7_run_88 rfl (lv_at hl 0 rfl) ?_
      refine sx_cvV (As := []) (rest := []) X (mX7_shuts l (due := due2) (it := it2) (i := i2) hIT2 (by omega) hi2 h91 h92 h94 h95 h96) gX7_run_X7_shuts rfl yv_X7_shuts ⟨Nat.le_of_ble_eq_true rfl, Nat.le_of_ble_eq_true rfl⟩ h91 (by decide) rfl rfl hl.1 rfl (Nat.le_of_ble_eq_true rfl) dX7_run_89 ⟨Nat.le_of_ble_eq_true rfl, Nat.le_of_ble_eq_true rfl⟩ hs rfl hP (fun F9 H9 l9 hp hP => ?_)
      obtain ⟨hRS, o9⟩ := hp
      have hO : ∀ j, j ≠ 91 ∧ j ≠ 92 ∧ j ≠ 94 ∧ j ≠ 95 ∧ j ≠ 96 → F9 j = F j := fun j hj => (o9 j hj).trans (hO j hj)
      refine lv_goto (tgt := 81) X.1.1 X.1.2.1 dX7_run_92 (by decide) ?_
      have hIT3 := IT.shut hIT2 (by omega)
      have hd3 := shutT_d (w := w2) (n := n2) (en := en2) (jo := jo2) (due := due2) (it := it2) (who := who2) (d := d2) (ol := ol2) (ot := ot2)
      have hs3 : shA k_l2 (shutT (w2, n2, en2, jo2, due2, it2, who2, d2, ol2, ot2)) = shA Tf.2.2.2.2.2.2.2.1 Tf := by rw [← hsh, hkd]; rfl
      generalize shutT (w2, n2, en2, jo2, due2, it2, who2, d2, ol2, ot2) = S3 at hRS hIT3 hd3 hs3
      obtain ⟨w3, n3, en3, jo3, due3, it3, who3, d3, ol3, ot3⟩ := S3
      obtain ⟨h91, h92, h94, h95, h96⟩ := hRS
      have hd3 : d3 = d2 - 1 := hd3
      exact ih_l2 (w3) (n3) (en3) (jo3) (due3) (it3) (who3) (d3) (ol3) (ot3) (i2) (fig2) (f) (pos) (ft) (gd) (Tf) _ _ _ _ (by omega) (hIT3) (hi2) (hgo) (hf4) (hft) ((congrFun (congrArg shA (show d3 = k_l2 by omega)) _).trans hs3) h91 h92 h94 h95 h96 hO hP (lv_sub hl [0, 1, 2] rfl)
  have l1 : ∀ (k_l1 : Nat) (w1 : Nat → Int32) (n1 : Nat) (en1 : Nat) (jo1 : Nat → Int32) (it1 : Nat) (who1 : Nat) (d1 : Nat) (ol1 : Nat → Int32) (ot1 : Nat → Int32) (i1 : Nat) (fig1 : Int32) (Fv : Nat → va_E) (Hv : Heap) (lv : List Loc) (ls : Array Slot), (len < i1 + k_l1) → (IT A len i1 (w1, n1, en1, jo1, 0, it1, who1, d1, ol1, ot1)) → (i1 ≤ len) → (goT A len (len - 0) (w, n, en, jo, 0, 0, 0, 0, ol, ot) = goT A len (len - i1) (w1, n1, en1, jo1, 0, it1, who1, d1, ol1, ot1)) → (Fv (91) = ob 7 ([rf G 92, a1, .int (nI (en1)), rf G 94, xl, .int (nI (i1)), .int (fig1), .int (nI 0), .int (-1), .int (nI (who1)), .int (nI (d1)), .int (nI (rgF ol1 d1)), rf G 95, rf G 96])) → (Fv (92) = rI G (4358) (w1)) → (Fv (94) = rI G (24) (jo1)) → (Fv (95) = rI G (240) (ol1)) → (Fv (96) = rI G (240) (ot1)) → (∀ j, j ≠ 91 ∧ j ≠ 92 ∧ j ≠ 94 ∧ j ≠ 95 ∧ j ≠ 96 → Fv j = F j) → sx_H G (97) Fv ss.heap Hv lv → lv_has ls 3 [(0, rf G 91), (1, .int (nI (n))), (2, .int (nI 1))] → W pp l ee rmX7_run ss mm args below meth kc Hv lv 0 0 Q (F0 mm 40 ls []) := by
    intro k_l1
    induction k_l1 with
    | zero =>
      intro w1 n1 en1 jo1 it1 who1 d1 ol1 ot1 i1 fig1 Fv Hv lv ls hk1 hIT1 hi1 hgo1 h91 h92 h94 h95 h96 hO hP hl
      exact absurd hk1 (by omega)
    | succ k_l1 ih_l1 =>
      intro w1 n1 en1 jo1 it1 who1 d1 ol1 ot1 i1 fig1 Fv Hv lv ls hk1 hIT1 hi1 hgo1 h91 h92 h94 h95 h96 hO hP hl
      have hA1 := hIT1.2.2.2.2.2.2.2.2
      have hl240 := hA1.2.1
      have hrl1 := rgF_le ol1 d1
      have hd1i : d1 ≤ i1 := hIT1.2.2.1
      refine lv_iload_n X.1.1 X.1.2.1 dX7_run_40 rfl (lv_at hl 2 rfl) ?_
      refine sx_if_eq X (by decide) (tgt := 64) dX7_run_41 (by decide) (fun h => absurd h (by decide)) (fun _ => ?_)
      refine lv_aload_n X.1.1 X.1.2.1 dX7_run_44 rfl (lv_at hl 0 rfl) ?_
      refine sx_cvI (As := []) (rest := []) X (mX7_here l (A := A) (len := len) (i := i1) hA1 (by omega) hA1.1 hA1.2.1 h91 h92) gX7_run_X7_here rfl yv_X7_here ⟨Nat.le_of_ble_eq_true rfl, Nat.le_of_ble_eq_true rfl⟩ h91 (by decide) rfl rfl hl.1 rfl (Nat.le_of_ble_eq_true rfl) dX7_run_45 ⟨Nat.le_of_ble_eq_true rfl, Nat.le_of_ble_eq_true rfl⟩ hs rfl hP (fun r10 F10 H10 l10 hp hP => ?_)
      obtain ⟨i10, sk10, e10, o10, hr10⟩ := hp
      have h91 : F10 (91) = ob 7 ([rf G 92, a1, .int (nI (en1)), rf G 94, xl, .int (nI (i10)), .int (fig1), .int (nI 0), .int (-1), .int (nI (who1)), .int (nI (d1)), .int (nI (rgF ol1 d1)), rf G 95, rf G 96]) := e10
      have h92 := (o10 (92) (by decide)).trans h92
      have h94 := (o10 (94) (by decide)).trans h94
      have h95 := (o10 (95) (by decide)).trans h95
      have h96 := (o10 (96) (by decide)).trans h96
      have hO : ∀ j, j ≠ 91 ∧ j ≠ 92 ∧ j ≠ 94 ∧ j ≠ 95 ∧ j ≠ 96 → F10 j = F j := fun j hj => (o10 j (by omega)).trans (hO j hj)
      have g10a := sk10.1
      have g10b := sk10.2.1
      by_cases hlt10 : i10 < len
      · rw [if_pos hlt10] at hr10
        subst hr10
        have g10c := (hA1.2.2 i10 hlt10).1
        have g10d := sk10.2.2.2 hlt10
        refine lv_iconst (v := (-1)) X.1.1 X.1.2.1 dX7_run_48 (by decide) ?_
        refine lv_icmp_eq X.1.1 X.1.2.1 (tgt := 64) dX7_run_49 (by decide) (fun h => absurd h (sx_m1 (by omega))) (fun _ => ?_)
        refine lv_aload_n X.1.1 X.1.2.1 dX7_run_52 rfl (lv_at hl 0 rfl) ?_
        refine lv_aload_n X.1.1 X.1.2.1 dX7_run_53 rfl (lv_at hl 0 rfl) ?_
        refine sx_cvI (As := []) (rest := rf G 91 :: []) X (mX7_here l (A := A) (len := len) (i := i10) hA1 (by omega) hA1.1 hA1.2.1 h91 h92) gX7_run_X7_here rfl yv_X7_here ⟨Nat.le_of_ble_eq_true rfl, Nat.le_of_ble_eq_true rfl⟩ h91 (by decide) rfl rfl hl.1 rfl (Nat.le_of_ble_eq_true rfl) dX7_run_54 ⟨Nat.le_of_ble_eq_true rfl, Nat.le_of_ble_eq_true rfl⟩ hs rfl hP (fun r11 F11 H11 l11 hp hP => ?_)
        obtain ⟨i11, sk11, e11, o11, hr11⟩ := hp
        have hsm : i10 = i11 := (sk11.same g10d (by omega)).symm
        subst hsm
        rw [if_pos (by omega)] at hr11
        subst hr11
        have h91 : F11 (91) = ob 7 ([rf G 92, a1, .int (nI (en1)), rf G 94, xl, .int (nI (i10)), .int (fig1), .int (nI 0), .int (-1), .int (nI (who1)), .int (nI (d1)), .int (nI (rgF ol1 d1)), rf G 95, rf G 96]) := e11
        have h92 := (o11 (92) (by decide)).trans h92
        have h94 := (o11 (94) (by decide)).trans h94
        have h95 := (o11 (95) (by decide)).trans h95
        have h96 := (o11 (96) (by decide)).trans h96
        have hO : ∀ j, j ≠ 91 ∧ j ≠ 92 ∧ j ≠ 94 ∧ j ≠ 95 ∧ j ≠ 96 → F11 j = F j := fun j hj => (o11 j (by omega)).trans (hO j hj)
        refine sx_cvI (As := [.int (nI (A i10))]) (rest := []) X (mX7_takesItem l (A := A) (len := len) (i := i10) (hIT1.le (by omega)) (by omega) g10d g10c h91 h92 h94 h95 h96) gX7_run_X7_takesItem rfl yv_X7_takesItem ⟨Nat.le_of_ble_eq_true rfl, Nat.le_of_ble_eq_true rfl⟩ h91 (by decide) rfl rfl hl.1 rfl (Nat.le_of_ble_eq_true rfl) dX7_run_57 ⟨Nat.le_of_ble_eq_true rfl, Nat.le_of_ble_eq_true rfl⟩ hs rfl hP (fun r12 F12 H12 l12 hp hP => ?_)
        obtain ⟨hdn, o12⟩ := hp
        have hO : ∀ j, j ≠ 91 ∧ j ≠ 92 ∧ j ≠ 94 ∧ j ≠ 95 ∧ j ≠ 96 → F12 j = F j := fun j hj => (o12 j hj).trans (hO j hj)
        have hgx : goT A len (len - i1) (w1, n1, en1, jo1, 0, it1, who1, d1, ol1, ot1) = goT A len (len - i10) (w1, n1, en1, jo1, 0, it1, who1, d1, ol1, ot1) := sk10.go
        rcases hdn with ⟨rfl, T3, i3, fig3, g1, g2, g3, hIT3, hRS, hg3⟩ | ⟨rfl, T3, i3, f3, fig3, g0, g1, g2, hIT3, hRS, hg3⟩
        · obtain ⟨w3, n3, en3, jo3, due3, it3, who3, d3, ol3, ot3⟩ := T3
          have g3 : due3 = 0 := g3
          subst g3
          obtain ⟨h91, h92, h94, h95, h96⟩ := hRS
          refine lv_istore_n (lv' := [(2, .int (nI 1)), (0, rf G 91), (1, .int (nI (n)))]) X.1.1 X.1.2.1 dX7_run_60 rfl hl (by decide) rfl (fun ls hl => ?_)
          refine lv_goto (tgt := 40) X.1.1 X.1.2.1 dX7_run_61 (by decide) ?_
          exact ih_l1 (w3) (n3) (en3) (jo3) (it3) (who3) (d3) (ol3) (ot3) (i3) (fig3) _ _ _ _ (by omega) (hIT3) (by omega) (hgo1.trans (hgx.trans hg3)) h91 h92 h94 h95 h96 hO hP (lv_sub hl [1, 2, 0] rfl)
        · obtain ⟨w3, n3, en3, jo3, due3, it3, who3, d3, ol3, ot3⟩ := T3
          obtain ⟨h91, h92, h94, h95, h96⟩ := hRS
          have hg3 := hgo1.trans (hgx.trans hg3)
          refine lv_istore_n (lv' := [(2, .int (nI 0)), (0, rf G 91), (1, .int (nI (n)))]) X.1.1 X.1.2.1 dX7_run_60 rfl hl (by decide) rfl (fun ls hl => ?_)
          refine lv_goto (tgt := 40) X.1.1 X.1.2.1 dX7_run_61 (by decide) ?_
          refine lv_iload_n X.1.1 X.1.2.1 dX7_run_40 rfl (lv_at hl 0 rfl) ?_
          refine sx_if_eq X (by decide) (tgt := 64) dX7_run_41 (by decide) (fun _ => ?_) (fun h => absurd h (by decide))
          refine lv_iload_n X.1.1 X.1.2.1 dX7_run_64 rfl (lv_at hl 0 rfl) ?_
          refine sx_if_eq X (by decide) (tgt := 81) dX7_run_65 (by decide) (fun _ => ?_) (fun h => absurd h (by decide))
          exact l2 d3 (w3) (n3) (en3) (jo3) (due3) (it3) (who3) (d3) (ol3) (ot3) (i3) (fig3) (f3) (i3) (_) (0) (_) _ _ _ _ (rfl) (hIT3) (by omega) (hg3) (by omega) (by rw [if_neg (by omega)]) (rfl) h91 h92 h94 h95 h96 hO hP (lv_sub hl [1, 2, 0] rfl)
      · rw [if_neg hlt10] at hr10
        subst hr10
        have g10e : i10 = len := by omega
        refine lv_iconst (v := (-1)) X.1.1 X.1.2.1 dX7_run_48 (by decide) ?_
        refine lv_icmp_eq X.1.1 X.1.2.1 (tgt := 64) dX7_run_49 (by decide) (fun _ => ?_) (fun h => absurd rfl h)
        refine lv_iload_n X.1.1 X.1.2.1 dX7_run_64 rfl (lv_at hl 2 rfl) ?_
        refine sx_if_eq X (by decide) (tgt := 81) dX7_run_65 (by decide) (fun h => absurd h (by decide)) (fun _ => ?_)
        refine lv_aload_n X.1.1 X.1.2.1 dX7_run_68 rfl (lv_at hl 0 rfl) ?_
        refine sx_get X hP in_X7_run_X7 h91 (by decide) rfl 10 (by decide) lk_X7_run_fieldLink_RX7_162_RaceWatchModel_open_I rfl dX7_run_69 ?_
        refine sx_if_le X (by omega) (tgt := 81) dX7_run_72 (by decide) (fun c72 => ?_) (fun c72 => ?_)
        · exact l2 d1 (w1) (n1) (en1) (jo1) (0) (it1) (who1) (d1) (ol1) (ot1) (i10) (fig1) (0) (len) (_) (1) (_) _ _ _ _ (rfl) (hIT1.le (by omega)) (by omega) (by rw [hgo1, sk10.go, g10e]; exact goT_fin ⟨rfl, show d1 = 0 by omega⟩) (by decide) (by rw [if_pos rfl]) (rfl) h91 h92 h94 h95 h96 hO hP (lv_sub hl [0, 1, 2] rfl)
        · refine lv_aload_n X.1.1 X.1.2.1 dX7_run_75 rfl (lv_at hl 0 rfl) ?_
          refine lv_iconst (v := nI 1) X.1.1 X.1.2.1 dX7_run_76 (by decide) ?_
          refine sx_cvI (As := [.int (nI 1)]) (rest := []) X (mX7_fails l (i := i10) (f := 1) h91) gX7_run_X7_fails rfl yv_X7_fails ⟨Nat.le_of_ble_eq_true rfl, Nat.le_of_ble_eq_true rfl⟩ h91 (by decide) rfl rfl hl.1 rfl (Nat.le_of_ble_eq_true rfl) dX7_run_77 ⟨Nat.le_of_ble_eq_true rfl, Nat.le_of_ble_eq_true rfl⟩ hs rfl hP (fun r13 F13 H13 l13 hp hP => ?_)
          obtain ⟨e13, o13, rfl⟩ := hp
          have h91 : F13 (91) = ob 7 ([rf G 92, a1, .int (nI (en1)), rf G 94, xl, .int (nI (i10)), .int (fig1), .int (nI 1), .int (nI (i10)), .int (nI (who1)), .int (nI (d1)), .int (nI (rgF ol1 d1)), rf G 95, rf G 96]) := e13
          have h92 := (o13 (92) (by decide)).trans h92
          have h94 := (o13 (94) (by decide)).trans h94
          have h95 := (o13 (95) (by decide)).trans h95
          have h96 := (o13 (96) (by decide)).trans h96
          have hO : ∀ j, j ≠ 91 ∧ j ≠ 92 ∧ j ≠ 94 ∧ j ≠ 95 ∧ j ≠ 96 → F13 j = F j := fun j hj => (o13 j (by omega)).trans (hO j hj)
          refine lv_istore_n (lv' := [(2, .int (nI 0)), (0, rf G 91), (1, .int (nI (n)))]) X.1.1 X.1.2.1 dX7_run_80 rfl hl (by decide) rfl (fun ls hl => ?_)
          exact l2 d1 (w1) (n1) (en1) (jo1) (0) (it1) (who1) (d1) (ol1) (ot1) (i10) (fig1) (1) (i10) (_) (0) (_) _ _ _ _ (rfl) (hIT1.le (by omega)) (by omega) (by rw [hgo1, sk10.go, g10e]; exact goT_end (Or.inr (show ¬ d1 = 0 by omega))) (by decide) (by rw [if_neg (by decide)]) (rfl) h91 h92 h94 h95 h96 hO hP (lv_sub hl [1, 2, 0] rfl)
  exact l1 (len + 1) (w) (n) (en) (jo) (0) (0) (0) (ol) (ot) (0) (z6) _ _ _ _ (by omega) (⟨hWF, hn, by omega, by decide, hen, hjo, fun j hj => absurd hj (by omega), ⟨fun j hj => absurd hj (by omega), fun hj => absurd hj (by omega)⟩, hA⟩) (by omega) (rfl) h91 h92 h94 h95 h96 hO hP (lv_sub hl [2, 1, 0] rfl)
