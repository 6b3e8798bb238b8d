theorem ys_X7_fails : yX7_fails.cls ≠ "java/lang/invoke/MethodHandle" ∧ yX7_fails.cls ≠ "java/lang/invoke/VarHandle" ∧ (parseMethodDescriptor yX7_fails.desc).map (fun d => d.parameters.length) = some 1 := by decide +kernel
theorem yv_X7_fails : yX7_fails.cls = RX7 ∧ yX7_fails.cls ≠ "java/lang/invoke/MethodHandle" ∧ yX7_fails.cls ≠ "java/lang/invoke/VarHandle" ∧ (parseMethodDescriptor yX7_fails.desc).map (fun d => d.parameters.length) = some 1 := ⟨rfl, ys_X7_fails⟩
theorem in_X7_fails_X7 : ∀ w ∈ wsX70, w ∈ wsX7_fails := fun _ h => List.mem_cons_of_mem _ (List.mem_append_right _ (h))
theorem lk_X7_fails_fieldLink_RX7_136_RaceWatchModel_fault_I : (.fieldLink RX7 136 "RaceWatchModel" "fault" "I" : Cond) ∈ wsX7_fails := List.mem_cons_of_mem _ (List.mem_append_left _ (List.mem_of_getElem? (i := 0) rfl))
theorem lk_X7_fails_fieldLink_RX7_133_RaceWatchModel_at_I : (.fieldLink RX7 133 "RaceWatchModel" "at" "I" : Cond) ∈ wsX7_fails := List.mem_cons_of_mem _ (List.mem_append_left _ (List.mem_of_getElem? (i := 1) rfl))
theorem lk_X7_fails_fieldLink_RX7_139_RaceWatchModel_faultAt_I : (.fieldLink RX7 139 "RaceWatchModel" "faultAt" "I" : Cond) ∈ wsX7_fails := List.mem_cons_of_mem _ (List.mem_append_left _ (List.mem_of_getElem? (i := 2) rfl))
abbrev rmX7_fails : Room := { frames := 0, cells := 0, slots := 0, locals := 0 }
set_option maxHeartbeats 4000000 in
set_option maxRecDepth 100000 in
theorem mX7_fails {G : sx_G} (l : Launch) {F : Nat → va_E} {v0 v1 v2 v3 v4 v6 v9 v10 v11 v12 v13 : Value} {i f : Nat} {fa fat : Int32} (h91 : F (91) = ob 7 ([v0, v1, v2, v3, v4, .int (nI (i)), v6, .int (fa), .int (fat), v9, v10, v11, v12, v13])) : sx_I G l yX7_fails wsX7_fails rmX7_fails [rf G 91, .int (nI (f))] (97) F (97) (fun r F1 => F1 91 = ob 7 ([v0, v1, v2, v3, v4, .int (nI (i)), v6, .int (nI (f)), .int (nI (i)), v9, v10, v11, v12, v13]) ∧ (∀ j, j ≠ 91 → F1 j = F j) ∧ nI 0 = r) := by
  refine sx_enter (cc := cX7_fails) (maxL := 2) (ret := some .boolean) (own := RX7) (nm := "fails") (by decide) rfl rfl rfl (Nat.le_of_ble_eq_true rfl) ?_
  intro pp ee ss mm args below meth kc ls Q hQ X hs hP hl
  have hl : lv_has ls 2 [(0, rf G 91), (1, .int (nI (f)))] := hl
  have hO : ∀ j, j ≠ 91 → F j = F j := fun _ _ => rfl
  refine lv_aload_n X.1.1 X.1.2.1 dX7_fails_0 rfl (lv_at hl 0 rfl) ?_
  refine lv_iload_n X.1.1 X.1.2.1 dX7_fails_1 rfl (lv_at hl 1 rfl) ?_
  refine sx_put X hP in_X7_fails_X7 tyX7 tyX7_ok nmX7 h91 (by decide) rfl 7 (by decide) lk_X7_fails_fieldLink_RX7_136_RaceWatchModel_fault_I rfl rfl rfl (Nat.le_of_ble_eq_true rfl) dX7_fails_2 (fun F1 H1 l1 e1 o1 hP => ?_)
  have h91 : F1 (91) = ob 7 ([v0, v1, v2, v3, v4, .int (nI (i)), v6, .int (nI (f)), .int (fat), v9, v10, v11, v12, v13]) := e1
  have hO : ∀ j, j ≠ 91 → F1 j = F j := fun j hj => (o1 j (by omega)).trans (hO j hj)
  refine lv_aload_n X.1.1 X.1.2.1 dX7_fails_5 rfl (lv_at hl 0 rfl) ?_
  refine lv_aload_n X.1.1 X.1.2.1 dX7_fails_6 rfl (lv_at hl 0 rfl) ?_
  refine sx_get X hP in_X7_fails_X7 h91 (by decide) rfl 5 (by decide) lk_X7_fails_fieldLink_RX7_133_RaceWatchModel_at_I rfl dX7_fails_7 ?_
  refine sx_put X hP in_X7_fails_X7 tyX7 tyX7_ok nmX7 h91 (by decide) rfl 8 (by decide) lk_X7_fails_fieldLink_RX7_139_RaceWatchModel_faultAt_I rfl rfl rfl (Nat.le_of_ble_eq_true rfl) dX7_fails_10 (fun F2 H2 l2 e2 o2 hP => ?_)
  have h91 : F2 (91) = ob 7 ([v0, v1, v2, v3, v4, .int (nI (i)), v6, .int (nI (f)), .int (nI (i)), v9, v10, v11, v12, v13]) := e2
  have hO : ∀ j, j ≠ 91 → F2 j = F j := fun j hj => (o2 j (by omega)).trans (hO j hj)
  refine lv_iconst (v := nI 0) X.1.1 X.1.2.1 dX7_fails_13 (by decide) ?_
  rw [hQ]
  exact sx_zret X rfl (by decide) hs rfl hP dX7_fails_14 (⟨h91, hO, rfl⟩)
theorem ys_X7_here : yX7_here.cls ≠ "java/lang/invoke/MethodHandle" ∧ yX7_here.cls ≠ "java/lang/invoke/VarHandle" ∧ (parseMethodDescriptor yX7_here.desc).map (fun d => d.parameters.length) = some 0 := by decide +kernel
theorem yv_X7_here : yX7_here.cls = RX7 ∧ yX7_here.cls ≠ "java/lang/invoke/MethodHandle" ∧ yX7_here.cls ≠ "java/lang/invoke/VarHandle" ∧ (parseMethodDescriptor yX7_here.desc).map (fun d => d.parameters.length) = some 0 := ⟨rfl, ys_X7_here⟩
theorem in_X7_here_X7 : ∀ w ∈ wsX70, w ∈ wsX7_here := fun _ h => List.mem_cons_of_mem _ (List.mem_append_right _ (h))
theorem lk_X7_here_fieldLink_RX7_133_RaceWatchModel_at_I : (.fieldLink RX7 133 "RaceWatchModel" "at" "I" : Cond) ∈ wsX7_here := List.mem_cons_of_mem _ (List.mem_append_left _ (List.mem_of_getElem? (i := 0) rfl))
theorem lk_X7_here_fieldLink_RX7_7_RaceWatchModel_w_I : (.fieldLink RX7 7 "RaceWatchModel" "w" "[I" : Cond) ∈ wsX7_here := List.mem_cons_of_mem _ (List.mem_append_left _ (List.mem_of_getElem? (i := 1) rfl))
abbrev rmX7_here : Room := { frames := 0, cells := 0, slots := 0, locals := 0 }
set_option maxHeartbeats 4000000 in
set_option maxRecDepth 100000 in
theorem mX7_here {G : sx_G} (l : Launch) {F : Nat → va_E} {v1 v2 v3 v4 v6 v7 v8 v9 v10 v11 v12 v13 : Value} {w : Nat → Int32} {A : Nat → Nat} {i len : Nat} (hA : LT A len w) (hi : i ≤ len) (hlen : w 1372 = nI len) (hl240 : len ≤ 240) (h91 : F (91) = ob 7 ([rf G 92, v1, v2, v3, v4, .int (nI (i)), v6, v7, v8, v9, v10, v11, v12, v13])) (h92 : F (92) = rI G (4358) (w)) : sx_I G l yX7_here wsX7_here rmX7_here [rf G 91] (97) F (97) (fun r F1 => ∃ i1, Sk A len i i1 ∧ F1 91 = ob 7 ([rf G 92, v1, v2, v3, v4, .int (nI (i1)), v6, v7, v8, v9, v10, v11, v12, v13]) ∧ (∀ j, j ≠ 91 → F1 j = F j) ∧ (if i1 < len then nI (A i1) else -1) = r) := by
  refine sx_enter (cc := cX7_here) (maxL := 1) (ret := some .int) (own := RX7) (nm := "here") (by decide) rfl rfl rfl (Nat.le_of_ble_eq_true rfl) ?_
  intro pp ee ss mm args below meth kc ls Q hQ X hs hP hl
  have hl : lv_has ls 1 [(0, rf G 91)] := hl
  have hO : ∀ j, j ≠ 91 → F j = F j := fun _ _ => rfl
  have lo : ∀ (k_lo : Nat) (q : Nat) (Fv : Nat → va_E) (Hv : Heap) (lv : List Loc) (ls : Array Slot), (q + k_lo = len) → (i ≤ q) → (∀ j, i ≤ j → j < q → A j = 32) → (Fv (91) = ob 7 ([rf G 92, v1, v2, v3, v4, .int (nI (q)), v6, v7, v8, v9, v10, v11, v12, v13])) → (Fv (92) = rI G (4358) (w)) → (∀ j, j ≠ 91 → Fv j = F j) → sx_H G (97) Fv ss.heap Hv lv → lv_has ls 1 [(0, rf G 91)] → W pp l ee rmX7_here ss mm args below meth kc Hv lv 0 0 Q (F0 mm 0 ls []) := by
    intro k_lo
    induction k_lo with
    | zero =>
      intro q Fv Hv lv ls hk hiq hbl h91 h92 hO hP hl
      refine lv_aload_n X.1.1 X.1.2.1 dX7_here_0 rfl (lv_at hl 0 rfl) ?_
      refine sx_get X hP in_X7_here_X7 h91 (by decide) rfl 5 (by decide) lk_X7_here_fieldLink_RX7_133_RaceWatchModel_at_I rfl dX7_here_1 ?_
      refine lv_aload_n X.1.1 X.1.2.1 dX7_here_4 rfl (lv_at hl 0 rfl) ?_
      refine sx_get X hP in_X7_here_X7 h91 (by decide) rfl 0 (by decide) lk_X7_here_fieldLink_RX7_7_RaceWatchModel_w_I rfl dX7_here_5 ?_
      refine lv_sipush (v := nI 1372) X.1.1 X.1.2.1 dX7_here_8 (by decide) ?_
      refine sx_ald X hP h92 (by decide) (1372) (by decide) (by decide) dX7_here_11 ?_
      rw [hlen]
      refine sx_icmp_ge X (by omega) (by omega) (tgt := 46) dX7_here_12 (by decide) (fun c12 => ?_) (fun c12 => absurd c12 (by omega))
      refine lv_aload_n X.1.1 X.1.2.1 dX7_here_46 rfl (lv_at hl 0 rfl) ?_
      refine sx_get X hP in_X7_here_X7 h91 (by decide) rfl 5 (by decide) lk_X7_here_fieldLink_RX7_133_RaceWatchModel_at_I rfl dX7_here_47 ?_
      refine lv_aload_n X.1.1 X.1.2.1 dX7_here_50 rfl (lv_at hl 0 rfl) ?_
      refine sx_get X hP in_X7_here_X7 h91 (by decide) rfl 0 (by decide) lk_X7_here_fieldLink_RX7_7_RaceWatchModel_w_I rfl dX7_here_51 ?_
      refine lv_sipush (v := nI 1372) X.1.1 X.1.2.1 dX7_here_54 (by decide) ?_
      refine sx_ald X hP h92 (by decide) (1372) (by decide) (by decide) dX7_here_57 ?_
      rw [hlen]
      refine sx_icmp_ge X (by omega) (by omega) (tgt := 77) dX7_here_58 (by decide) (fun c58 => ?_) (fun c58 => absurd c58 (by omega))
      refine lv_iconst (v := (-1)) X.1.1 X.1.2.1 dX7_here_77 (by decide) ?_
      rw [hQ]
      exact sx_iret X rfl hs rfl hP dX7_here_78 (⟨q, ⟨hiq, by omega, hbl, fun h => absurd h (by omega)⟩, h91, hO, by rw [if_neg (by omega)]⟩)
    | succ k_lo ih_lo =>
      intro q Fv Hv lv ls hk hiq hbl h91 h92 hO hP hl
      have hA256 := (hA.2.2 q (by omega)).1
      have hAq := (hA.2.2 q (by omega)).2
      refine lv_aload_n X.1.1 X.1.2.1 dX7_here_0 rfl (lv_at hl 0 rfl) ?_
      refine sx_get X hP in_X7_here_X7 h91 (by decide) rfl 5 (by decide) lk_X7_here_fieldLink_RX7_133_RaceWatchModel_at_I rfl dX7_here_1 ?_
      refine lv_aload_n X.1.1 X.1.2.1 dX7_here_4 rfl (lv_at hl 0 rfl) ?_
      refine sx_get X hP in_X7_here_X7 h91 (by decide) rfl 0 (by decide) lk_X7_here_fieldLink_RX7_7_RaceWatchModel_w_I rfl dX7_here_5 ?_
      refine lv_sipush (v := nI 1372) X.1.1 X.1.2.1 dX7_here_8 (by decide) ?_
      refine sx_ald X hP h92 (by decide) (1372) (by decide) (by decide) dX7_here_11 ?_
      rw [hlen]
      refine sx_icmp_ge X (by omega) (by omega) (tgt := 46) dX7_here_12 (by decide) (fun c12 => absurd c12 (by omega)) (fun c12 => ?_)
      refine lv_aload_n X.1.1 X.1.2.1 dX7_here_15 rfl (lv_at hl 0 rfl) ?_
      refine sx_get X hP in_X7_here_X7 h91 (by decide) rfl 0 (by decide) lk_X7_here_fieldLink_RX7_7_RaceWatchModel_w_I rfl dX7_here_16 ?_
      refine lv_sipush (v := nI 1373) X.1.1 X.1.2.1 dX7_here_19 (by decide) ?_
      refine lv_aload_n X.1.1 X.1.2.1 dX7_here_22 rfl (lv_at hl 0 rfl) ?_
      refine sx_get X hP in_X7_here_X7 h91 (by decide) rfl 5 (by decide) lk_X7_here_fieldLink_RX7_133_RaceWatchModel_at_I rfl dX7_here_23 ?_
      refine sx_addN X (1373 + q) (by omega) dX7_here_26 ?_
      refine sx_ald X hP h92 (by decide) (1373 + q) (by omega) (by decide) dX7_here_27 ?_
      rw [hAq]
      refine lv_bipush (v := nI 32) X.1.1 X.1.2.1 dX7_here_28 (by decide) ?_
      refine sx_icmp_ne X (by omega) (by decide) (tgt := 46) dX7_here_30 (by decide) (fun c30 => ?_) (fun c30 => ?_)
      · refine lv_aload_n X.1.1 X.1.2.1 dX7_here_46 rfl (lv_at hl 0 rfl) ?_
        refine sx_get X hP in_X7_here_X7 h91 (by decide) rfl 5 (by decide) lk_X7_here_fieldLink_RX7_133_RaceWatchModel_at_I rfl dX7_here_47 ?_
        refine lv_aload_n X.1.1 X.1.2.1 dX7_here_50 rfl (lv_at hl 0 rfl) ?_
        refine sx_get X hP in_X7_here_X7 h91 (by decide) rfl 0 (by decide) lk_X7_here_fieldLink_RX7_7_RaceWatchModel_w_I rfl dX7_here_51 ?_
        refine lv_sipush (v := nI 1372) X.1.1 X.1.2.1 dX7_here_54 (by decide) ?_
        refine sx_ald X hP h92 (by decide) (1372) (by decide) (by decide) dX7_here_57 ?_
        rw [hlen]
        refine sx_icmp_ge X (by omega) (by omega) (tgt := 77) dX7_here_58 (by decide) (fun c58 => absurd c58 (by omega)) (fun c58 => ?_)
        refine lv_aload_n X.1.1 X.1.2.1 dX7_here_61 rfl (lv_at hl 0 rfl) ?_
        refine sx_get X hP in_X7_here_X7 h91 (by decide) rfl 0 (by decide) lk_X7_here_fieldLink_RX7_7_RaceWatchModel_w_I rfl dX7_here_62 ?_
        refine lv_sipush (v := nI 1373) X.1.1 X.1.2.1 dX7_here_65 (by decide) ?_
        refine lv_aload_n X.1.1 X.1.2.1 dX7_here_68 rfl (lv_at hl 0 rfl) ?_
        refine sx_get X hP in_X7_here_X7 h91 (by decide) rfl 5 (by decide) lk_X7_here_fieldLink_RX7_133_RaceWatchModel_at_I rfl dX7_here_69 ?_
        refine sx_addN X (1373 + q) (by omega) dX7_here_72 ?_
        refine sx_ald X hP h92 (by decide) (1373 + q) (by omega) (by decide) dX7_here_73 ?_
        rw [hAq]
        refine lv_goto (tgt := 78) X.1.1 X.1.2.1 dX7_here_74 (by decide) ?_
        rw [hQ]
        exact sx_iret X rfl hs rfl hP dX7_here_78 (⟨q, ⟨hiq, by omega, hbl, fun _ => c30⟩, h91, hO, by rw [if_pos (by omega)]⟩)
      · refine lv_aload_n X.1.1 X.1.2.1 dX7_here_33 rfl (lv_at hl 0 rfl) ?_
        refine lv_dup X.1.1 X.1.2.1 dX7_here_34 rfl ?_
        refine sx_get X hP in_X7_here_X7 h91 (by decide) rfl 5 (by decide) lk_X7_here_fieldLink_RX7_133_RaceWatchModel_at_I rfl dX7_here_35 ?_
        refine lv_iconst (v := nI 1) X.1.1 X.1.2.1 dX7_here_38 (by decide) ?_
        refine sx_addN X (1 + q) (by omega) dX7_here_39 ?_
        refine sx_put X hP in_X7_here_X7 tyX7 tyX7_ok nmX7 h91 (by decide) rfl 5 (by decide) lk_X7_here_fieldLink_RX7_133_RaceWatchModel_at_I rfl rfl rfl (Nat.le_of_ble_eq_true rfl) dX7_here_40 (fun F1 H1 l1 e1 o1 hP => ?_)
        have h91 : F1 (91) = ob 7 ([rf G 92, v1, v2, v3, v4, .int (nI (1 + q)), v6, v7, v8, v9, v10, v11, v12, v13]) := e1
        have h92 := (o1 (92) (by decide)).trans h92
        have hO : ∀ j, j ≠ 91 → F1 j = F j := fun j hj => (o1 j (by omega)).trans (hO j hj)
        refine lv_goto (tgt := 0) X.1.1 X.1.2.1 dX7_here_43 (by decide) ?_
        exact ih_lo (1 + q) _ _ _ _ (by omega) (by omega) (fun j h1 h2 => by rcases Nat.lt_or_ge j q with h | h; exact hbl j h1 h; rw [show j = q by omega]; exact c30) h91 h92 hO hP (lv_sub hl [0] rfl)
  exact lo (len - i) (i) _ _ _ _ (by omega) (by omega) (fun j h1 h2 => absurd h1 (by omega)) h91 h92 hO hP (lv_sub hl [0] rfl)
theorem ys_X7_takesFigure : yX7_takesFigure.cls ≠ "java/lang/invoke/MethodHandle" ∧ yX7_takesFigure.cls ≠ "java/lang/invoke/VarHandle" ∧ (parseMethodDescriptor yX7_takesFigure.desc).map (fun d => d.parameters.length) = some 1 := by decide +kernel
theorem yv_X7_takesFigure : yX7_takesFigure.cls = RX7 ∧ yX7_takesFigure.cls ≠ "java/lang/invoke/MethodHandle" ∧ yX7_takesFigure.cls ≠ "java/lang/invoke/VarHandle" ∧ (parseMethodDescriptor yX7_takesFigure.desc).map (fun d => d.parameters.length) = some 1 := ⟨rfl, ys_X7_takesFigure⟩
theorem lk_X7_takesFigure_constantLong_RX7_146_48 : (.constantLong RX7 146 (48) : Cond) ∈ wsX7_takesFigure := List.mem_cons_of_mem _ (List.mem_append_left _ (List.mem_of_getElem? (i := 0) rfl))
theorem lk_X7_takesFigure_constantLong_RX7_148_57 : (.constantLong RX7 148 (57) : Cond) ∈ wsX7_takesFigure := List.mem_cons_of_mem _ (List.mem_append_left _ (List.mem_of_getElem? (i := 1) rfl))
theorem in_X7_takesFigure_X7 : ∀ w ∈ wsX70, w ∈ wsX7_takesFigure := fun _ h => List.mem_cons_of_mem _ (List.mem_append_right _ (h))
theorem lk_X7_takesFigure_fieldLink_RX7_153_RaceWatchModel_figure_I : (.fieldLink RX7 153 "RaceWatchModel" "figure" "I" : Cond) ∈ wsX7_takesFigure := List.mem_cons_of_mem _ (List.mem_append_left _ (List.mem_of_getElem? (i := 2) rfl))
abbrev rmX7_takesFigure : Room := { frames := 1, cells := 0, slots := 0, locals := 25 }
set_option maxHeartbeats 4000000 in
set_option maxRecDepth 100000 in
theorem mX7_takesFigure {G : sx_G} (l : Launch) {F : Nat → va_E} {v1 v2 v3 v4 v9 v10 v11 v12 v13 : Value} {w : Nat → Int32} {A : Nat → Nat} {i len mo : Nat} {fig fa fat : Int32} (hA : LT A len w) (hi : i ≤ len) (hl240 : len ≤ 240) (hmo : mo < 10) (h91 : F (91) = ob 7 ([rf G 92, v1, v2, v3, v4, .int (nI (i)), .int (fig), .int (fa), .int (fat), v9, v10, v11, v12, v13])) (h92 : F (92) = rI G (4358) (w)) : sx_I G l yX7_takesFigure wsX7_takesFigure rmX7_takesFigure [rf G 91, .int (nI (mo))] (97) F (97) (fun r F1 => ∃ i1, Sk A len i i1 ∧ (∀ j, j ≠ 91 → F1 j = F j) ∧ ((F1 91 = ob 7 ([rf G 92, v1, v2, v3, v4, .int (nI (i1)), .int (fig), .int (nI 1), .int (nI (i1)), v9, v10, v11, v12, v13]) ∧ (i1 = len ∨ ¬ (48 ≤ A i1 ∧ A i1 ≤ 57)) ∧ nI 0 = r) ∨ (F1 91 = ob 7 ([rf G 92, v1, v2, v3, v4, .int (nI (i1)), .int (nI ((A i1 - 48))), .int (nI 2), .int (nI (i1)), v9, v10, v11, v12, v13]) ∧ i1 < len ∧ 48 ≤ A i1 ∧ A i1 ≤ 57 ∧ mo < A i1 - 48 ∧ nI 0 = r) ∨ (F1 91 = ob 7 ([rf G 92, v1, v2, v3, v4, .int (nI (i1)), .int (nI ((A i1 - 48))), .int (fa), .int (fat), v9, v10, v11, v12, v13]) ∧ i1 < len ∧ 48 ≤ A i1 ∧ A i1 ≤ 57 ∧ A i1 - 48 ≤ mo ∧ nI 1 = r))) := by
  refine sx_enter (cc := cX7_takesFigure) (maxL := 3) (ret := some .boolean) (own := RX7) (nm := "takesFigure") (by decide) rfl rfl rfl (Nat.le_of_ble_eq_true rfl) ?_
  intro pp ee ss mm args below meth kc ls Q hQ X hs hP hl
  have hl : lv_has ls 3 [(0, rf G 91), (1, .int (nI (mo)))] := hl
  have hO : ∀ j, j ≠ 91 → F j = F j := fun _ _ => rfl
  refine lv_aload_n X.1.1 X.1.2.1 dX7_takesFigure_0 rfl (lv_at hl 0 rfl) ?_
  refine sx_cvI (As := []) (rest := []) X (mX7_here l (A := A) (len := len) (i := i) hA (by omega) hA.1 hA.2.1 h91 h92) gX7_takesFigure_X7_here rfl yv_X7_here ⟨Nat.le_of_ble_eq_true rfl, Nat.le_of_ble_eq_true rfl⟩ h91 (by decide) rfl rfl hl.1 rfl (Nat.le_of_ble_eq_true rfl) dX7_takesFigure_1 ⟨Nat.le_of_ble_eq_true rfl, Nat.le_of_ble_eq_true rfl⟩ hs rfl hP (fun r1 F1 H1 l1 hp hP => ?_)
  obtain ⟨i1, sk1, e1, o1, hr1⟩ := hp
  have h91 : F1 (91) = ob 7 ([rf G 92, v1, v2, v3, v4, .int (nI (i1)), .int (fig), .int (fa), .int (fat), v9, v10, v11, v12, v13]) := e1
  have h92 := (o1 (92) (by decide)).trans h92
  have hO : ∀ j, j ≠ 91 → F1 j = F j := fun j hj => (o1 j (by omega)).trans (hO j hj)
  have g1a := sk1.1
  have g1b := sk1.2.1
  by_cases hlt1 : i1 < len
  · rw [if_pos hlt1] at hr1
    subst hr1
    have g1c := (hA.2.2 i1 hlt1).1
    have g1d := sk1.2.2.2 hlt1
    refine lv_istore_n (lv' := [(2, .int (nI (A i1))), (0, rf G 91), (1, .int (nI (mo)))]) X.1.1 X.1.2.1 dX7_takesFigure_4 rfl hl (by decide) rfl (fun ls hl => ?_)
    refine lv_iload_n X.1.1 X.1.2.1 dX7_takesFigure_5 rfl (lv_at hl 0 rfl) ?_
    refine lv_i2l (v := (nI (A i1)).toInt64) X.1.1 X.1.2.1 dX7_takesFigure_6 rfl ?_
    refine lv_ldc2 (v := 48) X.1.1 X.1.2.1 X.1.2.2.2.1 (X.1.2.2.2.2 _ lk_X7_takesFigure_constantLong_RX7_146_48) dX7_takesFigure_7 ?_
    refine lv_ldc2 (v := 57) X.1.1 X.1.2.1 X.1.2.2.2.1 (X.1.2.2.2.2 _ lk_X7_takesFigure_constantLong_RX7_148_57) dX7_takesFigure_10 ?_
    refine sx_csI (As := [.long ((nI (A i1)).toInt64), .long (48), .long (57)]) (rest := []) X (mX7_in l) gX7_takesFigure_X7_in rfl ys_X7_in ⟨Nat.le_of_ble_eq_true rfl, Nat.le_of_ble_eq_true rfl⟩ hl.1 rfl (Nat.le_of_ble_eq_true rfl) dX7_takesFigure_13 ⟨Nat.le_of_ble_eq_true rfl, Nat.le_of_ble_eq_true rfl⟩ hs rfl hP (fun r2 F2 H2 l2 hp hP => ?_)
    obtain ⟨rfl, ⟨b3, rfl⟩ | ⟨b3, rfl⟩⟩ := hp
    · have hdg := (sx_dig (a := A i1) (by omega) rfl rfl).mp b3
      refine sx_if_ne X (by decide) (tgt := 25) dX7_takesFigure_16 (by decide) (fun _ => ?_) (fun h => absurd h (by decide))
      refine lv_aload_n X.1.1 X.1.2.1 dX7_takesFigure_25 rfl (lv_at hl 1 rfl) ?_
      refine lv_iload_n X.1.1 X.1.2.1 dX7_takesFigure_26 rfl (lv_at hl 0 rfl) ?_
      refine lv_bipush (v := nI 48) X.1.1 X.1.2.1 dX7_takesFigure_27 (by decide) ?_
      refine sx_subN X ((A i1 - 48)) (by omega) (by omega) dX7_takesFigure_29 ?_
      refine sx_put X hP in_X7_takesFigure_X7 tyX7 tyX7_ok nmX7 h91 (by decide) rfl 6 (by decide) lk_X7_takesFigure_fieldLink_RX7_153_RaceWatchModel_figure_I rfl rfl rfl (Nat.le_of_ble_eq_true rfl) dX7_takesFigure_30 (fun F4 H4 l4 e4 o4 hP => ?_)
      have h91 : F4 (91) = ob 7 ([rf G 92, v1, v2, v3, v4, .int (nI (i1)), .int (nI ((A i1 - 48))), .int (fa), .int (fat), v9, v10, v11, v12, v13]) := e4
      have h92 := (o4 (92) (by decide)).trans h92
      have hO : ∀ j, j ≠ 91 → F4 j = F j := fun j hj => (o4 j (by omega)).trans (hO j hj)
      refine lv_aload_n X.1.1 X.1.2.1 dX7_takesFigure_33 rfl (lv_at hl 1 rfl) ?_
      refine sx_get X hP in_X7_takesFigure_X7 h91 (by decide) rfl 6 (by decide) lk_X7_takesFigure_fieldLink_RX7_153_RaceWatchModel_figure_I rfl dX7_takesFigure_34 ?_
      refine lv_iload_n X.1.1 X.1.2.1 dX7_takesFigure_37 rfl (lv_at hl 2 rfl) ?_
      refine sx_icmp_le X (by omega) (by omega) (tgt := 49) dX7_takesFigure_38 (by decide) (fun c38 => ?_) (fun c38 => ?_)
      · refine lv_iconst (v := nI 1) X.1.1 X.1.2.1 dX7_takesFigure_49 (by decide) ?_
        refine lv_goto (tgt := 54) X.1.1 X.1.2.1 dX7_takesFigure_50 (by decide) ?_
        rw [hQ]
        exact sx_zret X rfl (by decide) hs rfl hP dX7_takesFigure_54 (⟨i1, sk1, hO, Or.inr (Or.inr ⟨h91, by omega, by omega, by omega, by omega, rfl⟩)⟩)
      · refine lv_aload_n X.1.1 X.1.2.1 dX7_takesFigure_41 rfl (lv_at hl 1 rfl) ?_
        refine lv_iconst (v := nI 2) X.1.1 X.1.2.1 dX7_takesFigure_42 (by decide) ?_
        refine sx_cvI (As := [.int (nI 2)]) (rest := []) X (mX7_fails l (i := i1) (f := 2) h91) gX7_takesFigure_X7_fails rfl yv_X7_fails ⟨Nat.le_of_ble_eq_true rfl, Nat.le_of_ble_eq_true rfl⟩ h91 (by decide) rfl rfl hl.1 rfl (Nat.le_of_ble_eq_true rfl) dX7_takesFigure_43 ⟨Nat.le_of_ble_eq_true rfl, Nat.le_of_ble_eq_true rfl⟩ hs rfl hP (fun r5 F5 H5 l5 hp hP => ?_)
        obtain ⟨e5, o5, rfl⟩ := hp
        have h91 : F5 (91) = ob 7 ([rf G 92, v1, v2, v3, v4, .int (nI (i1)), .int (nI ((A i1 - 48))), .int (nI 2), .int (nI (i1)), v9, v10, v11, v12, v13]) := e5
        have h92 := (o5 (92) (by decide)).trans h92
        have hO : ∀ j, j ≠ 91 → F5 j = F j := fun j hj => (o5 j (by omega)).trans (hO j hj)
        refine sx_if_eq X (by decide) (tgt := 53) dX7_takesFigure_46 (by decide) (fun _ => ?_) (fun h => absurd h (by decide))
        refine lv_iconst (v := nI 0) X.1.1 X.1.2.1 dX7_takesFigure_53 (by decide) ?_
        rw [hQ]
        exact sx_zret X rfl (by decide) hs rfl hP dX7_takesFigure_54 (⟨i1, sk1, hO, Or.inr (Or.inl ⟨h91, by omega, by omega, by omega, by omega, rfl⟩)⟩)
    · have hdg : ¬ (48 ≤ A i1 ∧ A i1 ≤ 57) := fun q => b3 ((sx_dig (by omega) rfl rfl).mpr q)
      refine sx_if_ne X (by decide) (tgt := 25) dX7_takesFigure_16 (by decide) (fun h => absurd h (by decide)) (fun _ => ?_)
      refine lv_aload_n X.1.1 X.1.2.1 dX7_takesFigure_19 rfl (lv_at hl 1 rfl) ?_
      refine lv_iconst (v := nI 1) X.1.1 X.1.2.1 dX7_takesFigure_20 (by decide) ?_
      refine sx_cvI (As := [.int (nI 1)]) (rest := []) X (mX7_fails l (i := i1) (f := 1) h91) gX7_takesFigure_X7_fails rfl yv_X7_fails ⟨Nat.le_of_ble_eq_true rfl, Nat.le_of_ble_eq_true rfl⟩ h91 (by decide) rfl rfl hl.1 rfl (Nat.le_of_ble_eq_true rfl) dX7_takesFigure_21 ⟨Nat.le_of_ble_eq_true rfl, Nat.le_of_ble_eq_true rfl⟩ hs rfl hP (fun r6 F6 H6 l6 hp hP => ?_)
      obtain ⟨e6, o6, rfl⟩ := hp
      have h91 : F6 (91) = ob 7 ([rf G 92, v1, v2, v3, v4, .int (nI (i1)), .int (fig), .int (nI 1), .int (nI (i1)), v9, v10, v11, v12, v13]) := e6
      have h92 := (o6 (92) (by decide)).trans h92
      have hO : ∀ j, j ≠ 91 → F6 j = F j := fun j hj => (o6 j (by omega)).trans (hO j hj)
      rw [hQ]
      exact sx_zret X rfl (by decide) hs rfl hP dX7_takesFigure_24 (⟨i1, sk1, hO, Or.inl ⟨h91, by omega, rfl⟩⟩)
  · rw [if_neg hlt1] at hr1
    subst hr1
    have g1e : i1 = len := by omega
    refine lv_istore_n (lv' := [(2, .int (-1)), (0, rf G 91), (1, .int (nI (mo)))]) X.1.1 X.1.2.1 dX7_takesFigure_4 rfl hl (by decide) rfl (fun ls hl => ?_)
    refine lv_iload_n X.1.1 X.1.2.1 dX7_takesFigure_5 rfl (lv_at hl 0 rfl) ?_
    refine lv_i2l (v := (-1).toInt64) X.1.1 X.1.2.1 dX7_takesFigure_6 rfl ?_
    refine lv_ldc2 (v := 48) X.1.1 X.1.2.1 X.1.2.2.2.1 (X.1.2.2.2.2 _ lk_X7_takesFigure_constantLong_RX7_146_48) dX7_takesFigure_7 ?_
    refine lv_ldc2 (v := 57) X.1.1 X.1.2.1 X.1.2.2.2.1 (X.1.2.2.2.2 _ lk_X7_takesFigure_constantLong_RX7_148_57) dX7_takesFigure_10 ?_
    refine sx_csI (As := [.long ((-1).toInt64), .long (48), .long (57)]) (rest := []) X (mX7_in l) gX7_takesFigure_X7_in rfl ys_X7_in ⟨Nat.le_of_ble_eq_true rfl, Nat.le_of_ble_eq_true rfl⟩ hl.1 rfl (Nat.le_of_ble_eq_true rfl) dX7_takesFigure_13 ⟨Nat.le_of_ble_eq_true rfl, Nat.le_of_ble_eq_true rfl⟩ hs rfl hP (fun r7 F7 H7 l7 hp hP => ?_)
    obtain ⟨rfl, ⟨b8, rfl⟩ | ⟨b8, rfl⟩⟩ := hp
    · exact absurd b8.1 (by decide)
    · refine sx_if_ne X (by decide) (tgt := 25) dX7_takesFigure_16 (by decide) (fun h => absurd h (by decide)) (fun _ => ?_)
      refine lv_aload_n X.1.1 X.1.2.1 dX7_takesFigure_19 rfl (lv_at hl 1 rfl) ?_
      refine lv_iconst (v := nI 1) X.1.1 X.1.2.1 dX7_takesFigure_20 (by decide) ?_
      refine sx_cvI (As := [.int (nI 1)]) (rest := []) X (mX7_fails l (i := i1) (f := 1) h91) gX7_takesFigure_X7_fails rfl yv_X7_fails ⟨Nat.le_of_ble_eq_true rfl, Nat.le_of_ble_eq_true rfl⟩ h91 (by decide) rfl rfl hl.1 rfl (Nat.le_of_ble_eq_true rfl) dX7_takesFigure_21 ⟨Nat.le_of_ble_eq_true rfl, Nat.le_of_ble_eq_true rfl⟩ hs rfl hP (fun r9 F9 H9 l9 hp hP => ?_)
      obtain ⟨e9, o9, rfl⟩ := hp
      have h91 : F9 (91) = ob 7 ([rf G 92, v1, v2, v3, v4, .int (nI (i1)), .int (fig), .int (nI 1), .int (nI (i1)), v9, v10, v11, v12, v13]) := e9
      have h92 := (o9 (92) (by decide)).trans h92
      have hO : ∀ j, j ≠ 91 → F9 j = F j := fun j hj => (o9 j (by omega)).trans (hO j hj)
      rw [hQ]
      exact sx_zret X rfl (by decide) hs rfl hP dX7_takesFigure_24 (⟨i1, sk1, hO, Or.inl ⟨h91, by omega, rfl⟩⟩)
theorem ys_X7_takes : yX7_takes.cls ≠ "java/lang/invoke/MethodHandle" ∧ yX7_takes.cls ≠ "java/lang/invoke/VarHandle" ∧ (parseMethodDescriptor yX7_takes.desc).map (fun d => d.parameters.length) = some 1 := by decide +kernel
theorem yv_X7_takes : yX7_takes.cls = RX7 ∧ yX7_takes.cls ≠ "java/lang/invoke/MethodHandle" ∧ yX7_takes.cls ≠ "java/lang/invoke/VarHandle" ∧ (parseMethodDescriptor yX7_takes.desc).map (fun d => d.parameters.length) = some 1 := ⟨rfl, ys_X7_takes⟩
theorem in_X7_takes_X7 : ∀ w ∈ wsX70, w ∈ wsX7_takes := fun _ h => List.mem_cons_of_mem _ (List.mem_append_right _ (h))
theorem lk_X7_takes_fieldLink_RX7_133_RaceWatchModel_at_I : (.fieldLink RX7 133 "RaceWatchModel" "at" "I" : Cond) ∈ wsX7_takes := List.mem_cons_of_mem _ (List.mem_append_left _ (List.mem_of_getElem? (i := 0) rfl))
abbrev rmX7_takes : Room := { frames := 1, cells := 0, slots := 0, locals := 21 }
set_option maxHeartbeats 4000000 in
set_option maxRecDepth 100000 in
theorem mX7_takes {G : sx_G} (l : Launch) {F : Nat → va_E} {v1 v2 v3 v4 v6 v9 v10 v11 v12 v13 : Value} {w : Nat → Int32} {A : Nat → Nat} {i len c : Nat} {fa fat : Int32} (hA : LT A len w) (hi : i ≤ len) (hl240 : len ≤ 240) (hc : c < 256) (h91 : F (91) = ob 7 ([rf G 92, v1, v2, v3, v4, .int (nI (i)), v6, .int (fa), .int (fat), v9, v10, v11, v12, v13])) (h92 : F (92) = rI G (4358) (w)) : sx_I G l yX7_takes wsX7_takes rmX7_takes [rf G 91, .int (nI (c))] (97) F (97) (fun r F1 => ∃ i1, Sk A len i i1 ∧ (∀ j, j ≠ 91 → F1 j = F j) ∧ ((F1 91 = ob 7 ([rf G 92, v1, v2, v3, v4, .int (nI (i1)), v6, .int (nI 1), .int (nI (i1)), v9, v10, v11, v12, v13]) ∧ (i1 = len ∨ ¬ A i1 = c) ∧ nI 0 = r) ∨ (F1 91 = ob 7 ([rf G 92, v1, v2, v3, v4, .int (nI (1 + i1)), v6, .int (fa), .int (fat), v9, v10, v11, v12, v13]) ∧ i1 < len ∧ A i1 = c ∧ nI 1 = r))) := by
  refine sx_enter (cc := cX7_takes) (maxL := 2) (ret := some .boolean) (own := RX7) (nm := "takes") (by decide) rfl rfl rfl (Nat.le_of_ble_eq_true rfl) ?_
  intro pp ee ss mm args below meth kc ls Q hQ X hs hP hl
  have hl : lv_has ls 2 [(0, rf G 91), (1, .int (nI (c)))] := hl
  have hO : ∀ j, j ≠ 91 → F j = F j := fun _ _ => rfl
  refine lv_aload_n X.1.1 X.1.2.1 dX7_takes_0 rfl (lv_at hl 0 rfl) ?_
  refine sx_cvI (As := []) (rest := []) X (mX7_here l (A := A) (len := len) (i := i) hA (by omega) hA.1 hA.2.1 h91 h92) gX7_takes_X7_here rfl yv_X7_here ⟨Nat.le_of_ble_eq_true rfl, Nat.le_of_ble_eq_true rfl⟩ h91 (by decide) rfl rfl hl.1 rfl (Nat.le_of_ble_eq_true rfl) dX7_takes_1 ⟨Nat.le_of_ble_eq_true rfl, Nat.le_of_ble_eq_true rfl⟩ hs rfl hP (fun r1 F1 H1 l1 hp hP => ?_)
  obtain ⟨i1, sk1, e1, o1, hr1⟩ := hp
  have h91 : F1 (91) = ob 7 ([rf G 92, v1, v2, v3, v4, .int (nI (i1)), v6, .int (fa), .int (fat), v9, v10, v11, v12, v13]) := e1
  have h92 := (o1 (92) (by decide)).trans h92
  have hO : ∀ j, j ≠ 91 → F1 j = F j := fun j hj => (o1 j (by omega)).trans (hO j hj)
  have g1a := sk1.1
  have g1b := sk1.2.1
  by_cases hlt1 : i1 < len
  · rw [if_pos hlt1] at hr1
    subst hr1
    have g1c := (hA.2.2 i1 hlt1).1
    have g1d := sk1.2.2.2 hlt1
    refine lv_iload_n X.1.1 X.1.2.1 dX7_takes_4 rfl (lv_at hl 1 rfl) ?_
    refine sx_icmp_eq X (by omega) (by omega) (tgt := 14) dX7_takes_5 (by decide) (fun c5 => ?_) (fun c5 => ?_)
    · refine lv_aload_n X.1.1 X.1.2.1 dX7_takes_14 rfl (lv_at hl 0 rfl) ?_
      refine lv_dup X.1.1 X.1.2.1 dX7_takes_15 rfl ?_
      refine sx_get X hP in_X7_takes_X7 h91 (by decide) rfl 5 (by decide) lk_X7_takes_fieldLink_RX7_133_RaceWatchModel_at_I rfl dX7_takes_16 ?_
      refine lv_iconst (v := nI 1) X.1.1 X.1.2.1 dX7_takes_19 (by decide) ?_
      refine sx_addN X (1 + i1) (by omega) dX7_takes_20 ?_
      refine sx_put X hP in_X7_takes_X7 tyX7 tyX7_ok nmX7 h91 (by decide) rfl 5 (by decide) lk_X7_takes_fieldLink_RX7_133_RaceWatchModel_at_I rfl rfl rfl (Nat.le_of_ble_eq_true rfl) dX7_takes_21 (fun F2 H2 l2 e2 o2 hP => ?_)
      have h91 : F2 (91) = ob 7 ([rf G 92, v1, v2, v3, v4, .int (nI (1 + i1)), v6, .int (fa), .int (fat), v9, v10, v11, v12, v13]) := e2
      have h92 := (o2 (92) (by decide)).trans h92
      have hO : ∀ j, j ≠ 91 → F2 j = F j := fun j hj => (o2 j (by omega)).trans (hO j hj)
      refine lv_iconst (v := nI 1) X.1.1 X.1.2.1 dX7_takes_24 (by decide) ?_
      rw [hQ]
      exact sx_zret X rfl (by decide) hs rfl hP dX7_takes_25 (⟨i1, sk1, hO, Or.inr ⟨h91, by omega, by omega, rfl⟩⟩)
    · refine lv_aload_n X.1.1 X.1.2.1 dX7_takes_8 rfl (lv_at hl 0 rfl) ?_
      refine lv_iconst (v := nI 1) X.1.1 X.1.2.1 dX7_takes_9 (by decide) ?_
      refine sx_cvI (As := [.int (nI 1)]) (rest := []) X (mX7_fails l (i := i1) (f := 1) h91) gX7_takes_X7_fails rfl yv_X7_fails ⟨Nat.le_of_ble_eq_true rfl, Nat.le_of_ble_eq_true rfl⟩ h91 (by decide) rfl rfl hl.1 rfl (Nat.le_of_ble_eq_true rfl) dX7_takes_10 ⟨Nat.le_of_ble_eq_true rfl, Nat.le_of_ble_eq_true rfl⟩ hs rfl hP (fun r3 F3 H3 l3 hp hP => ?_)
      obtain ⟨e3, o3, rfl⟩ := hp
      have h91 : F3 (91) = ob 7 ([rf G 92, v1, v2, v3, v4, .int (nI (i1)), v6, .int (nI 1), .int (nI (i1)), v9, v10, v11, v12, v13]) := e3
      have h92 := (o3 (92) (by decide)).trans h92
      have hO : ∀ j, j ≠ 91 → F3 j = F j := fun j hj => (o3 j (by omega)).trans (hO j hj)
      rw [hQ]
      exact sx_zret X rfl (by decide) hs rfl hP dX7_takes_13 (⟨i1, sk1, hO, Or.inl ⟨h91, by omega, rfl⟩⟩)
  · rw [if_neg hlt1] at hr1
    subst hr1
    have g1e : i1 = len := by omega
    refine lv_iload_n X.1.1 X.1.2.1 dX7_takes_4 rfl (lv_at hl 1 rfl) ?_
    refine lv_icmp_eq X.1.1 X.1.2.1 (tgt := 14) dX7_takes_5 (by decide) (fun h => absurd h (fun q => sx_m1 (by omega) q.symm)) (fun _ => ?_)
    refine lv_aload_n X.1.1 X.1.2.1 dX7_takes_8 rfl (lv_at hl 0 rfl) ?_
    refine lv_iconst (v := nI 1) X.1.1 X.1.2.1 dX7_takes_9 (by decide) ?_
    refine sx_cvI (As := [.int (nI 1)]) (rest := []) X (mX7_fails l (i := i1) (f := 1) h91) gX7_takes_X7_fails rfl yv_X7_fails ⟨Nat.le_of_ble_eq_true rfl, Nat.le_of_ble_eq_true rfl⟩ h91 (by decide) rfl rfl hl.1 rfl (Nat.le_of_ble_eq_true rfl) dX7_takes_10 ⟨Nat.le_of_ble_eq_true rfl, Nat.le_of_ble_eq_true rfl⟩ hs rfl hP (fun r4 F4 H4 l4 hp hP => ?_)
    obtain ⟨e4, o4, rfl⟩ := hp
    have h91 : F4 (91) = ob 7 ([rf G 92, v1, v2, v3, v4, .int (nI (i1)), v6, .int (nI 1), .int (nI (i1)), v9, v10, v11, v12, v13]) := e4
    have h92 := (o4 (92) (by decide)).trans h92
    have hO : ∀ j, j ≠ 91 → F4 j = F j := fun j hj => (o4 j (by omega)).trans (hO j hj)
    rw [hQ]
    exact sx_zret X rfl (by decide) hs rfl hP dX7_takes_13 (⟨i1, sk1, hO, Or.inl ⟨h91, by omega, rfl⟩⟩)
theorem ys_X7_did : yX7_did.cls ≠ "java/lang/invoke/MethodHandle" ∧ yX7_did.cls ≠ "java/lang/invoke/VarHandle" ∧ (parseMethodDescriptor yX7_did.desc).map (fun d => d.parameters.length) = some 1 := by decide +kernel
theorem yv_X7_did : yX7_did.cls = RX7 ∧ yX7_did.cls ≠ "java/lang/invoke/MethodHandle" ∧ yX7_did.cls ≠ "java/lang/invoke/VarHandle" ∧ (parseMethodDescriptor yX7_did.desc).map (fun d => d.parameters.length) = some 1 := ⟨rfl, ys_X7_did⟩
theorem in_X7_did_X7 : ∀ w ∈ wsX70, w ∈ wsX7_did := fun _ h => List.mem_cons_of_mem _ (List.mem_append_right _ (h))
theorem lk_X7_did_fieldLink_RX7_7_RaceWatchModel_w_I : (.fieldLink RX7 7 "RaceWatchModel" "w" "[I" : Cond) ∈ wsX7_did := List.mem_cons_of_mem _ (List.mem_append_left _ (List.mem_append_left _ (List.mem_of_getElem? (i := 0) rfl)))
theorem lk_X7_did_fieldLink_RX7_156_RaceWatchModel_regions_I : (.fieldLink RX7 156 "RaceWatchModel" "regions" "I" : Cond) ∈ wsX7_did := List.mem_cons_of_mem _ (List.mem_append_left _ (List.mem_append_left _ (List.mem_of_getElem? (i := 1) rfl)))
theorem lk_X7_did_fieldLink_RX7_159_RaceWatchModel_who_I : (.fieldLink RX7 159 "RaceWatchModel" "who" "I" : Cond) ∈ wsX7_did := List.mem_cons_of_mem _ (List.mem_append_left _ (List.mem_append_left _ (List.mem_of_getElem? (i := 2) rfl)))
theorem lk_X7_did_fieldLink_RX7_153_RaceWatchModel_figure_I : (.fieldLink RX7 153 "RaceWatchModel" "figure" "I" : Cond) ∈ wsX7_did := List.mem_cons_of_mem _ (List.mem_append_left _ (List.mem_append_left _ (List.mem_of_getElem? (i := 3) rfl)))
theorem lk_X7_did_fieldLink_RX7_133_RaceWatchModel_at_I : (.fieldLink RX7 133 "RaceWatchModel" "at" "I" : Cond) ∈ wsX7_did := List.mem_cons_of_mem _ (List.mem_append_left _ (List.mem_append_left _ (List.mem_of_getElem? (i := 4) rfl)))
abbrev rmX7_did : Room := { frames := 4, cells := 0, slots := 0, locals := 101 }
set_option maxHeartbeats 4000000 in
set_option maxRecDepth 100000 in
theorem mX7_did {G : sx_G} (l : Launch) {F : Nat → va_E} {v1 v2 v3 v4 v10 v12 v13 : Value} {w : Nat → Int32} {i n t s x g : Nat} {fa fat : Int32} (hWF : WFw w n) (ht : t < 4) (hs8 : s < 8) (hx : x < boundF s) (hg : g ≤ 240) (hi240 : i ≤ 240) (hx4 : x < 4) (hn : n ≤ 160) (h91n : w 91 = nI n) (h91 : F (91) = ob 7 ([rf G 92, v1, v2, v3, v4, .int (nI (i)), .int (nI (x)), .int (fa), .int (fat), .int (nI (t)), v10, .int (nI (g)), v12, v13])) (h92 : F (92) = rI G (4358) (w)) : sx_I G l yX7_did wsX7_did rmX7_did [rf G 91, .int (nI (s))] (97) F (97) (fun r F1 => (∀ j, j ≠ 91 ∧ j ≠ 92 → F1 j = F j) ∧ ((F1 91 = ob 7 ([rf G 92, v1, v2, v3, v4, .int (nI (i)), .int (nI (x)), .int (nI 3), .int (nI (i)), .int (nI (t)), v10, .int (nI (g)), v12, v13]) ∧ F1 92 = rI G 4358 w ∧ 160 < n + moreF s + g ∧ nI 0 = r) ∨ (F1 91 = ob 7 ([rf G 92, v1, v2, v3, v4, .int (nI (i)), .int (nI (x)), .int (nI 4), .int (nI (i)), .int (nI (t)), v10, .int (nI (g)), v12, v13]) ∧ F1 92 = rI G 4358 w ∧ n + moreF s + g ≤ 160 ∧ ¬ okT w t s x ∧ nI 0 = r) ∨ (F1 91 = ob 7 ([rf G 92, v1, v2, v3, v4, .int (nI (1 + i)), .int (nI (x)), .int (fa), .int (fat), .int (nI (t)), v10, .int (nI (g)), v12, v13]) ∧ F1 92 = rI G 4358 (comeF w n t s x) ∧ n + moreF s + g ≤ 160 ∧ okT w t s x ∧ nI 1 = r))) := by
  refine sx_enter (cc := cX7_did) (maxL := 3) (ret := some .boolean) (own := RX7) (nm := "did") (by decide) rfl rfl rfl (Nat.le_of_ble_eq_true rfl) ?_
  intro pp ee ss mm args below meth kc ls Q hQ X hs hP hl
  have hl : lv_has ls 3 [(0, rf G 91), (1, .int (nI (s)))] := hl
  have hO : ∀ j, j ≠ 91 ∧ j ≠ 92 → F j = F j := fun _ _ => rfl
  refine lv_iload_n X.1.1 X.1.2.1 dX7_did_0 rfl (lv_at hl 1 rfl) ?_
  refine lv_iconst (v := nI 2) X.1.1 X.1.2.1 dX7_did_1 (by decide) ?_
  refine sx_icmp_ne X (by omega) (by decide) (tgt := 9) dX7_did_2 (by decide) (fun c2 => ?_) (fun c2 => ?_)
  · refine lv_iconst (v := nI 1) X.1.1 X.1.2.1 dX7_did_9 (by decide) ?_
    refine lv_istore_n (lv' := [(2, .int (nI 1)), (0, rf G 91), (1, .int (nI (s)))]) X.1.1 X.1.2.1 dX7_did_10 rfl hl (by decide) rfl (fun ls hl => ?_)
    refine lv_aload_n X.1.1 X.1.2.1 dX7_did_11 rfl (lv_at hl 1 rfl) ?_
    refine sx_get X hP in_X7_did_X7 h91 (by decide) rfl 0 (by decide) lk_X7_did_fieldLink_RX7_7_RaceWatchModel_w_I rfl dX7_did_12 ?_
    refine lv_bipush (v := nI 91) X.1.1 X.1.2.1 dX7_did_15 (by decide) ?_
    refine sx_ald X hP h92 (by decide) (91) (by decide) (by decide) dX7_did_17 ?_
    rw [h91n]
    refine lv_iload_n X.1.1 X.1.2.1 dX7_did_18 rfl (lv_at hl 0 rfl) ?_
    refine sx_addN X (1 + n) (by omega) dX7_did_19 ?_
    refine lv_aload_n X.1.1 X.1.2.1 dX7_did_20 rfl (lv_at hl 1 rfl) ?_
    refine sx_get X hP in_X7_did_X7 h91 (by decide) rfl 11 (by decide) lk_X7_did_fieldLink_RX7_156_RaceWatchModel_regions_I rfl dX7_did_21 ?_
    refine sx_addN X (1 + n + g) (by omega) dX7_did_24 ?_
    refine lv_sipush (v := nI 160) X.1.1 X.1.2.1 dX7_did_25 (by decide) ?_
    refine sx_icmp_le X (by omega) (by decide) (tgt := 37) dX7_did_28 (by decide) (fun c28 => ?_) (fun c28 => ?_)
    · refine lv_aload_n X.1.1 X.1.2.1 dX7_did_37 rfl (lv_at hl 1 rfl) ?_
      refine sx_get X hP in_X7_did_X7 h91 (by decide) rfl 9 (by decide) lk_X7_did_fieldLink_RX7_159_RaceWatchModel_who_I rfl dX7_did_38 ?_
      refine lv_iload_n X.1.1 X.1.2.1 dX7_did_41 rfl (lv_at hl 2 rfl) ?_
      refine lv_aload_n X.1.1 X.1.2.1 dX7_did_42 rfl (lv_at hl 1 rfl) ?_
      refine sx_get X hP in_X7_did_X7 h91 (by decide) rfl 6 (by decide) lk_X7_did_fieldLink_RX7_153_RaceWatchModel_figure_I rfl dX7_did_43 ?_
      refine sx_csI (As := [.int (nI (t)), .int (nI (s)), .int (nI (x))]) (rest := []) X (mX7_isWith l (t := t) (s := s) (x := (nI (x))) (by omega) (by omega)) gX7_did_X7_isWith rfl ys_X7_isWith ⟨Nat.le_of_ble_eq_true rfl, Nat.le_of_ble_eq_true rfl⟩ hl.1 rfl (Nat.le_of_ble_eq_true rfl) dX7_did_46 ⟨Nat.le_of_ble_eq_true rfl, Nat.le_of_ble_eq_true rfl⟩ hs rfl hP (fun r1 F1 H1 l1 hp hP => ?_)
      obtain ⟨rfl, ⟨b2, rfl⟩ | ⟨b2, rfl⟩⟩ := hp
      · have hxt : 6 ≤ s → x ≠ t := by obtain ⟨q, _, e, h⟩ := b2; rw [(nI_eq (by omega) (by have := boundF_le s; omega)).mp e]; exact h
        refine sx_if_eq X (by decide) (tgt := 86) dX7_did_49 (by decide) (fun h => absurd h (by decide)) (fun _ => ?_)
        refine lv_aload_n X.1.1 X.1.2.1 dX7_did_52 rfl (lv_at hl 1 rfl) ?_
        refine lv_aload_n X.1.1 X.1.2.1 dX7_did_53 rfl (lv_at hl 1 rfl) ?_
        refine sx_get X hP in_X7_did_X7 h91 (by decide) rfl 9 (by decide) lk_X7_did_fieldLink_RX7_159_RaceWatchModel_who_I rfl dX7_did_54 ?_
        refine lv_iload_n X.1.1 X.1.2.1 dX7_did_57 rfl (lv_at hl 2 rfl) ?_
        refine lv_aload_n X.1.1 X.1.2.1 dX7_did_58 rfl (lv_at hl 1 rfl) ?_
        refine sx_get X hP in_X7_did_X7 h91 (by decide) rfl 6 (by decide) lk_X7_did_fieldLink_RX7_153_RaceWatchModel_figure_I rfl dX7_did_59 ?_
        refine sx_cvI (As := [.int (nI (t)), .int (nI (s)), .int (nI (x))]) (rest := []) X (mX7_can l (t := t) (s := s) (x := x) (by omega) (by omega) (by omega) h91 h92) gX7_did_X7_can rfl yv_X7_can ⟨Nat.le_of_ble_eq_true rfl, Nat.le_of_ble_eq_true rfl⟩ h91 (by decide) rfl rfl hl.1 rfl (Nat.le_of_ble_eq_true rfl) dX7_did_62 ⟨Nat.le_of_ble_eq_true rfl, Nat.le_of_ble_eq_true rfl⟩ hs rfl hP (fun r3 F3 H3 l3 hp hP => ?_)
        obtain ⟨rfl, ⟨b4, rfl⟩ | ⟨b4, rfl⟩⟩ := hp
        · refine sx_if_eq X (by decide) (tgt := 86) dX7_did_65 (by decide) (fun h => absurd h (by decide)) (fun _ => ?_)
          refine lv_iload_n X.1.1 X.1.2.1 dX7_did_68 rfl (lv_at hl 2 rfl) ?_
          refine sx_csI (As := [.int (nI (s))]) (rest := []) X (mX7_hasStep l (s := s) (by omega)) gX7_did_X7_hasStep rfl ys_X7_hasStep ⟨Nat.le_of_ble_eq_true rfl, Nat.le_of_ble_eq_true rfl⟩ hl.1 rfl (Nat.le_of_ble_eq_true rfl) dX7_did_69 ⟨Nat.le_of_ble_eq_true rfl, Nat.le_of_ble_eq_true rfl⟩ hs rfl hP (fun r5 F5 H5 l5 hp hP => ?_)
          obtain ⟨rfl, ⟨b6, rfl⟩ | ⟨b6, rfl⟩⟩ := hp
          · refine sx_if_eq X (by decide) (tgt := 92) dX7_did_72 (by decide) (fun h => absurd h (by decide)) (fun _ => ?_)
            refine lv_aload_n X.1.1 X.1.2.1 dX7_did_75 rfl (lv_at hl 1 rfl) ?_
            refine lv_aload_n X.1.1 X.1.2.1 dX7_did_76 rfl (lv_at hl 1 rfl) ?_
            refine sx_get X hP in_X7_did_X7 h91 (by decide) rfl 9 (by decide) lk_X7_did_fieldLink_RX7_159_RaceWatchModel_who_I rfl dX7_did_77 ?_
            refine sx_cvI (As := [.int (nI (t))]) (rest := []) X (mX7_isMuch l (t := t) (by omega) h91 h92) gX7_did_X7_isMuch rfl yv_X7_isMuch ⟨Nat.le_of_ble_eq_true rfl, Nat.le_of_ble_eq_true rfl⟩ h91 (by decide) rfl rfl hl.1 rfl (Nat.le_of_ble_eq_true rfl) dX7_did_80 ⟨Nat.le_of_ble_eq_true rfl, Nat.le_of_ble_eq_true rfl⟩ hs rfl hP (fun r7 F7 H7 l7 hp hP => ?_)
            obtain ⟨rfl, ⟨b8, rfl⟩ | ⟨b8, rfl⟩⟩ := hp
            · refine sx_if_eq X (by decide) (tgt := 92) dX7_did_83 (by decide) (fun h => absurd h (by decide)) (fun _ => ?_)
              refine lv_aload_n X.1.1 X.1.2.1 dX7_did_86 rfl (lv_at hl 1 rfl) ?_
              refine lv_iconst (v := nI 4) X.1.1 X.1.2.1 dX7_did_87 (by decide) ?_
              refine sx_cvI (As := [.int (nI 4)]) (rest := []) X (mX7_fails l (i := i) (f := 4) h91) gX7_did_X7_fails rfl yv_X7_fails ⟨Nat.le_of_ble_eq_true rfl, Nat.le_of_ble_eq_true rfl⟩ h91 (by decide) rfl rfl hl.1 rfl (Nat.le_of_ble_eq_true rfl) dX7_did_88 ⟨Nat.le_of_ble_eq_true rfl, Nat.le_of_ble_eq_true rfl⟩ hs rfl hP (fun r9 F9 H9 l9 hp hP => ?_)
              obtain ⟨e9, o9, rfl⟩ := hp
              have h91 : F9 (91) = ob 7 ([rf G 92, v1, v2, v3, v4, .int (nI (i)), .int (nI (x)), .int (nI 4), .int (nI (i)), .int (nI (t)), v10, .int (nI (g)), v12, v13]) := e9
              have h92 := (o9 (92) (by decide)).trans h92
              have hO : ∀ j, j ≠ 91 ∧ j ≠ 92 → F9 j = F j := fun j hj => (o9 j (by omega)).trans (hO j hj)
              rw [hQ]
              exact sx_zret X rfl (by decide) hs rfl hP dX7_did_91 (⟨hO, Or.inr (Or.inl ⟨h91, h92, by unfold moreF; (first | rw [if_pos c2] | rw [if_neg c2]); omega, fun q => q.2.2 ⟨b6, b8⟩, rfl⟩)⟩)
            · refine sx_if_eq X (by decide) (tgt := 92) dX7_did_83 (by decide) (fun _ => ?_) (fun h => absurd h (by decide))
              refine lv_aload_n X.1.1 X.1.2.1 dX7_did_92 rfl (lv_at hl 1 rfl) ?_
              refine lv_aload_n X.1.1 X.1.2.1 dX7_did_93 rfl (lv_at hl 1 rfl) ?_
              refine sx_get X hP in_X7_did_X7 h91 (by decide) rfl 9 (by decide) lk_X7_did_fieldLink_RX7_159_RaceWatchModel_who_I rfl dX7_did_94 ?_
              refine lv_iload_n X.1.1 X.1.2.1 dX7_did_97 rfl (lv_at hl 2 rfl) ?_
              refine lv_aload_n X.1.1 X.1.2.1 dX7_did_98 rfl (lv_at hl 1 rfl) ?_
              refine sx_get X hP in_X7_did_X7 h91 (by decide) rfl 6 (by decide) lk_X7_did_fieldLink_RX7_153_RaceWatchModel_figure_I rfl dX7_did_99 ?_
              refine sx_cvV (As := [.int (nI (t)), .int (nI (s)), .int (nI (x))]) (rest := []) X (mX7_comes l (n := n) (t := t) (s := s) (x := x) (by omega) (by omega) (by omega) (by omega) h91n (fun h => hWF.2.2.2.1 _ (by omega)) h91 h92) gX7_did_X7_comes rfl yv_X7_comes ⟨Nat.le_of_ble_eq_true rfl, Nat.le_of_ble_eq_true rfl⟩ h91 (by decide) rfl rfl hl.1 rfl (Nat.le_of_ble_eq_true rfl) dX7_did_102 ⟨Nat.le_of_ble_eq_true rfl, Nat.le_of_ble_eq_true rfl⟩ hs rfl hP (fun F10 H10 l10 hp hP => ?_)
              obtain ⟨e10, o10⟩ := hp
              obtain ⟨w10, hw10⟩ : ∃ z, z = comeF w (n) (t) (s) (x) := ⟨_, rfl⟩
              rw [← hw10] at e10
              have h92 : F10 (92) = rI G (4358) (w10) := e10
              have h91 := (o10 (91) (by decide)).trans h91
              have hO : ∀ j, j ≠ 91 ∧ j ≠ 92 → F10 j = F j := fun j hj => (o10 j (by omega)).trans (hO j hj)
              have h91n_10 : w10 91 = nI (1 + n) := by rw [hw10]; exact (comeF_91 (by omega)).trans (congrArg nI (by omega))
              refine lv_aload_n X.1.1 X.1.2.1 dX7_did_105 rfl (lv_at hl 1 rfl) ?_
              refine lv_dup X.1.1 X.1.2.1 dX7_did_106 rfl ?_
              refine sx_get X hP in_X7_did_X7 h91 (by decide) rfl 5 (by decide) lk_X7_did_fieldLink_RX7_133_RaceWatchModel_at_I rfl dX7_did_107 ?_
              refine lv_iconst (v := nI 1) X.1.1 X.1.2.1 dX7_did_110 (by decide) ?_
              refine sx_addN X (1 + i) (by omega) dX7_did_111 ?_
              refine sx_put X hP in_X7_did_X7 tyX7 tyX7_ok nmX7 h91 (by decide) rfl 5 (by decide) lk_X7_did_fieldLink_RX7_133_RaceWatchModel_at_I rfl rfl rfl (Nat.le_of_ble_eq_true rfl) dX7_did_112 (fun F11 H11 l11 e11 o11 hP => ?_)
              have h91 : F11 (91) = ob 7 ([rf G 92, v1, v2, v3, v4, .int (nI (1 + i)), .int (nI (x)), .int (fa), .int (fat), .int (nI (t)), v10, .int (nI (g)), v12, v13]) := e11
              have h92 := (o11 (92) (by decide)).trans h92
              have hO : ∀ j, j ≠ 91 ∧ j ≠ 92 → F11 j = F j := fun j hj => (o11 j (by omega)).trans (hO j hj)
              refine lv_iconst (v := nI 1) X.1.1 X.1.2.1 dX7_did_115 (by decide) ?_
              rw [hQ]
              exact sx_zret X rfl (by decide) hs rfl hP dX7_did_116 (⟨hO, Or.inr (Or.inr ⟨h91, h92.trans (by rw [hw10]), by unfold moreF; (first | rw [if_pos c2] | rw [if_neg c2]); omega, ⟨hxt, b4, fun q => b8 q.2⟩, rfl⟩)⟩)
          · refine sx_if_eq X (by decide) (tgt := 92) dX7_did_72 (by decide) (fun _ => ?_) (fun h => absurd h (by decide))
            refine lv_aload_n X.1.1 X.1.2.1 dX7_did_92 rfl (lv_at hl 1 rfl) ?_
            refine lv_aload_n X.1.1 X.1.2.1 dX7_did_93 rfl (lv_at hl 1 rfl) ?_
            refine sx_get X hP in_X7_did_X7 h91 (by decide) rfl 9 (by decide) lk_X7_did_fieldLink_RX7_159_RaceWatchModel_who_I rfl dX7_did_94 ?_
            refine lv_iload_n X.1.1 X.1.2.1 dX7_did_97 rfl (lv_at hl 2 rfl) ?_
            refine lv_aload_n X.1.1 X.1.2.1 dX7_did_98 rfl (lv_at hl 1 rfl) ?_
            refine sx_get X hP in_X7_did_X7 h91 (by decide) rfl 6 (by decide) lk_X7_did_fieldLink_RX7_153_RaceWatchModel_figure_I rfl dX7_did_99 ?_
            refine sx_cvV (As := [.int (nI (t)), .int (nI (s)), .int (nI (x))]) (rest := []) X (mX7_comes l (n := n) (t := t) (s := s) (x := x) (by omega) (by omega) (by omega) (by omega) h91n (fun h => hWF.2.2.2.1 _ (by omega)) h91 h92) gX7_did_X7_comes rfl yv_X7_comes ⟨Nat.le_of_ble_eq_true rfl, Nat.le_of_ble_eq_true rfl⟩ h91 (by decide) rfl rfl hl.1 rfl (Nat.le_of_ble_eq_true rfl) dX7_did_102 ⟨Nat.le_of_ble_eq_true rfl, Nat.le_of_ble_eq_true rfl⟩ hs rfl hP (fun F12 H12 l12 hp hP => ?_)
            obtain ⟨e12, o12⟩ := hp
            obtain ⟨w12, hw12⟩ : ∃ z, z = comeF w (n) (t) (s) (x) := ⟨_, rfl⟩
            rw [← hw12] at e12
            have h92 : F12 (92) = rI G (4358) (w12) := e12
            have h91 := (o12 (91) (by decide)).trans h91
            have hO : ∀ j, j ≠ 91 ∧ j ≠ 92 → F12 j = F j := fun j hj => (o12 j (by omega)).trans (hO j hj)
            have h91n_12 : w12 91 = nI (1 + n) := by rw [hw12]; exact (comeF_91 (by omega)).trans (congrArg nI (by omega))
            refine lv_aload_n X.1.1 X.1.2.1 dX7_did_105 rfl (lv_at hl 1 rfl) ?_
            refine lv_dup X.1.1 X.1.2.1 dX7_did_106 rfl ?_
            refine sx_get X hP in_X7_did_X7 h91 (by decide) rfl 5 (by decide) lk_X7_did_fieldLink_RX7_133_RaceWatchModel_at_I rfl dX7_did_107 ?_
            refine lv_iconst (v := nI 1) X.1.1 X.1.2.1 dX7_did_110 (by decide) ?_
            refine sx_addN X (1 + i) (by omega) dX7_did_111 ?_
            refine sx_put X hP in_X7_did_X7 tyX7 tyX7_ok nmX7 h91 (by decide) rfl 5 (by decide) lk_X7_did_fieldLink_RX7_133_RaceWatchModel_at_I rfl rfl rfl (Nat.le_of_ble_eq_true rfl) dX7_did_112 (fun F13 H13 l13 e13 o13 hP => ?_)
            have h91 : F13 (91) = ob 7 ([rf G 92, v1, v2, v3, v4, .int (nI (1 + i)), .int (nI (x)), .int (fa), .int (fat), .int (nI (t)), v10, .int (nI (g)), v12, v13]) := e13
            have h92 := (o13 (92) (by decide)).trans h92
            have hO : ∀ j, j ≠ 91 ∧ j ≠ 92 → F13 j = F j := fun j hj => (o13 j (by omega)).trans (hO j hj)
            refine lv_iconst (v := nI 1) X.1.1 X.1.2.1 dX7_did_115 (by decide) ?_
            rw [hQ]
            exact sx_zret X rfl (by decide) hs rfl hP dX7_did_116 (⟨hO, Or.inr (Or.inr ⟨h91, h92.trans (by rw [hw12]), by unfold moreF; (first | rw [if_pos c2] | rw [if_neg c2]); omega, ⟨hxt, b4, fun q => b6 q.1⟩, rfl⟩)⟩)
        · refine sx_if_eq X (by decide) (tgt := 86) dX7_did_65 (by decide) (fun _ => ?_) (fun h => absurd h (by decide))
          refine lv_aload_n X.1.1 X.1.2.1 dX7_did_86 rfl (lv_at hl 1 rfl) ?_
          refine lv_iconst (v := nI 4) X.1.1 X.1.2.1 dX7_did_87 (by decide) ?_
          refine sx_cvI (As := [.int (nI 4)]) (rest := []) X (mX7_fails l (i := i) (f := 4) h91) gX7_did_X7_fails rfl yv_X7_fails ⟨Nat.le_of_ble_eq_true rfl, Nat.le_of_ble_eq_true rfl⟩ h91 (by decide) rfl rfl hl.1 rfl (Nat.le_of_ble_eq_true rfl) dX7_did_88 ⟨Nat.le_of_ble_eq_true rfl, Nat.le_of_ble_eq_true rfl⟩ hs rfl hP (fun r14 F14 H14 l14 hp hP => ?_)
          obtain ⟨e14, o14, rfl⟩ := hp
          have h91 : F14 (91) = ob 7 ([rf G 92, v1, v2, v3, v4, .int (nI (i)), .int (nI (x)), .int (nI 4), .int (nI (i)), .int (nI (t)), v10, .int (nI (g)), v12, v13]) := e14
          have h92 := (o14 (92) (by decide)).trans h92
          have hO : ∀ j, j ≠ 91 ∧ j ≠ 92 → F14 j = F j := fun j hj => (o14 j (by omega)).trans (hO j hj)
          rw [hQ]
          exact sx_zret X rfl (by decide) hs rfl hP dX7_did_91 (⟨hO, Or.inr (Or.inl ⟨h91, h92, by unfold moreF; (first | rw [if_pos c2] | rw [if_neg c2]); omega, fun q => b4 q.2.1, rfl⟩)⟩)
      · refine sx_if_eq X (by decide) (tgt := 86) dX7_did_49 (by decide) (fun _ => ?_) (fun h => absurd h (by decide))
        refine lv_aload_n X.1.1 X.1.2.1 dX7_did_86 rfl (lv_at hl 1 rfl) ?_
        refine lv_iconst (v := nI 4) X.1.1 X.1.2.1 dX7_did_87 (by decide) ?_
        refine sx_cvI (As := [.int (nI 4)]) (rest := []) X (mX7_fails l (i := i) (f := 4) h91) gX7_did_X7_fails rfl yv_X7_fails ⟨Nat.le_of_ble_eq_true rfl, Nat.le_of_ble_eq_true rfl⟩ h91 (by decide) rfl rfl hl.1 rfl (Nat.le_of_ble_eq_true rfl) dX7_did_88 ⟨Nat.le_of_ble_eq_true rfl, Nat.le_of_ble_eq_true rfl⟩ hs rfl hP (fun r15 F15 H15 l15 hp hP => ?_)
        obtain ⟨e15, o15, rfl⟩ := hp
        have h91 : F15 (91) = ob 7 ([rf G 92, v1, v2, v3, v4, .int (nI (i)), .int (nI (x)), .int (nI 4), .int (nI (i)), .int (nI (t)), v10, .int (nI (g)), v12, v13]) := e15
        have h92 := (o15 (92) (by decide)).trans h92
        have hO : ∀ j, j ≠ 91 ∧ j ≠ 92 → F15 j = F j := fun j hj => (o15 j (by omega)).trans (hO j hj)
        rw [hQ]
        exact sx_zret X rfl (by decide) hs rfl hP dX7_did_91 (⟨hO, Or.inr (Or.inl ⟨h91, h92, by unfold moreF; (first | rw [if_pos c2] | rw [if_neg c2]); omega, fun q => b2 ⟨x, hx, rfl, q.1⟩, rfl⟩)⟩)
    · refine lv_aload_n X.1.1 X.1.2.1 dX7_did_31 rfl (lv_at hl 1 rfl) ?_
      refine lv_iconst (v := nI 3) X.1.1 X.1.2.1 dX7_did_32 (by decide) ?_
      refine sx_cvI (As := [.int (nI 3)]) (rest := []) X (mX7_fails l (i := i) (f := 3) h91) gX7_did_X7_fails rfl yv_X7_fails ⟨Nat.le_of_ble_eq_true rfl, Nat.le_of_ble_eq_true rfl⟩ h91 (by decide) rfl rfl hl.1 rfl (Nat.le_of_ble_eq_true rfl) dX7_did_33 ⟨Nat.le_of_ble_eq_true rfl, Nat.le_of_ble_eq_true rfl⟩ hs rfl hP (fun r16 F16 H16 l16 hp hP => ?_)
      obtain ⟨e16, o16, rfl⟩ := hp
      have h91 : F16 (91) = ob 7 ([rf G 92, v1, v2, v3, v4, .int (nI (i)), .int (nI (x)), .int (nI 3), .int (nI (i)), .int (nI (t)), v10, .int (nI (g)), v12, v13]) := e16
      have h92 := (o16 (92) (by decide)).trans h92
      have hO : ∀ j, j ≠ 91 ∧ j ≠ 92 → F16 j = F j := fun j hj => (o16 j (by omega)).trans (hO j hj)
      rw [hQ]
      exact sx_zret X rfl (by decide) hs rfl hP dX7_did_36 (⟨hO, Or.inl ⟨h91, h92, by unfold moreF; (first | rw [if_pos c2] | rw [if_neg c2]); omega, rfl⟩⟩)
  · refine lv_iconst (v := nI 2) X.1.1 X.1.2.1 dX7_did_5 (by decide) ?_
    refine lv_goto (tgt := 10) X.1.1 X.1.2.1 dX7_did_6 (by decide) ?_
    refine lv_istore_n (lv' := [(2, .int (nI 2)), (0, rf G 91), (1, .int (nI (s)))]) X.1.1 X.1.2.1 dX7_did_10 rfl hl (by decide) rfl (fun ls hl => ?_)
    refine lv_aload_n X.1.1 X.1.2.1 dX7_did_11 rfl (lv_at hl 1 rfl) ?_
    refine sx_get X hP in_X7_did_X7 h91 (by decide) rfl 0 (by decide) lk_X7_did_fieldLink_RX7_7_RaceWatchModel_w_I rfl dX7_did_12 ?_
    refine lv_bipush (v := nI 91) X.1.1 X.1.2.1 dX7_did_15 (by decide) ?_
    refine sx_ald X hP h92 (by decide) (91) (by decide) (by decide) dX7_did_17 ?_
    rw [h91n]
    refine lv_iload_n X.1.1 X.1.2.1 dX7_did_18 rfl (lv_at hl 0 rfl) ?_
    refine sx_addN X (2 + n) (by omega) dX7_did_19 ?_
    refine lv_aload_n X.1.1 X.1.2.1 dX7_did_20 rfl (lv_at hl 1 rfl) ?_
    refine sx_get X hP in_X7_did_X7 h91 (by decide) rfl 11 (by decide) lk_X7_did_fieldLink_RX7_156_RaceWatchModel_regions_I rfl dX7_did_21 ?_
    refine sx_addN X (2 + n + g) (by omega) dX7_did_24 ?_
    refine lv_sipush (v := nI 160) X.1.1 X.1.2.1 dX7_did_25 (by decide) ?_
    refine sx_icmp_le X (by omega) (by decide) (tgt := 37) dX7_did_28 (by decide) (fun c28 => ?_) (fun c28 => ?_)
    · refine lv_aload_n X.1.1 X.1.2.1 dX7_did_37 rfl (lv_at hl 1 rfl) ?_
      refine sx_get X hP in_X7_did_X7 h91 (by decide) rfl 9 (by decide) lk_X7_did_fieldLink_RX7_159_RaceWatchModel_who_I rfl dX7_did_38 ?_
      refine lv_iload_n X.1.1 X.1.2.1 dX7_did_41 rfl (lv_at hl 2 rfl) ?_
      refine lv_aload_n X.1.1 X.1.2.1 dX7_did_42 rfl (lv_at hl 1 rfl) ?_
      refine sx_get X hP in_X7_did_X7 h91 (by decide) rfl 6 (by decide) lk_X7_did_fieldLink_RX7_153_RaceWatchModel_figure_I rfl dX7_did_43 ?_
      refine sx_csI (As := [.int (nI (t)), .int (nI (s)), .int (nI (x))]) (rest := []) X (mX7_isWith l (t := t) (s := s) (x := (nI (x))) (by omega) (by omega)) gX7_did_X7_isWith rfl ys_X7_isWith ⟨Nat.le_of_ble_eq_true rfl, Nat.le_of_ble_eq_true rfl⟩ hl.1 rfl (Nat.le_of_ble_eq_true rfl) dX7_did_46 ⟨Nat.le_of_ble_eq_true rfl, Nat.le_of_ble_eq_true rfl⟩ hs rfl hP (fun r17 F17 H17 l17 hp hP => ?_)
      obtain ⟨rfl, ⟨b18, rfl⟩ | ⟨b18, rfl⟩⟩ := hp
      · have hxt : 6 ≤ s → x ≠ t := by obtain ⟨q, _, e, h⟩ := b18; rw [(nI_eq (by omega) (by have := boundF_le s; omega)).mp e]; exact h
        refine sx_if_eq X (by decide) (tgt := 86) dX7_did_49 (by decide) (fun h => absurd h (by decide)) (fun _ => ?_)
        refine lv_aload_n X.1.1 X.1.2.1 dX7_did_52 rfl (lv_at hl 1 rfl) ?_
        refine lv_aload_n X.1.1 X.1.2.1 dX7_did_53 rfl (lv_at hl 1 rfl) ?_
        refine sx_get X hP in_X7_did_X7 h91 (by decide) rfl 9 (by decide) lk_X7_did_fieldLink_RX7_159_RaceWatchModel_who_I rfl dX7_did_54 ?_
        refine lv_iload_n X.1.1 X.1.2.1 dX7_did_57 rfl (lv_at hl 2 rfl) ?_
        refine lv_aload_n X.1.1 X.1.2.1 dX7_did_58 rfl (lv_at hl 1 rfl) ?_
        refine sx_get X hP in_X7_did_X7 h91 (by decide) rfl 6 (by decide) lk_X7_did_fieldLink_RX7_153_RaceWatchModel_figure_I rfl dX7_did_59 ?_
        refine sx_cvI (As := [.int (nI (t)), .int (nI (s)), .int (nI (x))]) (rest := []) X (mX7_can l (t := t) (s := s) (x := x) (by omega) (by omega) (by omega) h91 h92) gX7_did_X7_can rfl yv_X7_can ⟨Nat.le_of_ble_eq_true rfl, Nat.le_of_ble_eq_true rfl⟩ h91 (by decide) rfl rfl hl.1 rfl (Nat.le_of_ble_eq_true rfl) dX7_did_62 ⟨Nat.le_of_ble_eq_true rfl, Nat.le_of_ble_eq_true rfl⟩ hs rfl hP (fun r19 F19 H19 l19 hp hP => ?_)
        obtain ⟨rfl, ⟨b20, rfl⟩ | ⟨b20, rfl⟩⟩ := hp
        · refine sx_if_eq X (by decide) (tgt := 86) dX7_did_65 (by decide) (fun h => absurd h (by decide)) (fun _ => ?_)
          refine lv_iload_n X.1.1 X.1.2.1 dX7_did_68 rfl (lv_at hl 2 rfl) ?_
          refine sx_csI (As := [.int (nI (s))]) (rest := []) X (mX7_hasStep l (s := s) (by omega)) gX7_did_X7_hasStep rfl ys_X7_hasStep ⟨Nat.le_of_ble_eq_true rfl, Nat.le_of_ble_eq_true rfl⟩ hl.1 rfl (Nat.le_of_ble_eq_true rfl) dX7_did_69 ⟨Nat.le_of_ble_eq_true rfl, Nat.le_of_ble_eq_true rfl⟩ hs rfl hP (fun r21 F21 H21 l21 hp hP => ?_)
          obtain ⟨rfl, ⟨b22, rfl⟩ | ⟨b22, rfl⟩⟩ := hp
          · refine sx_if_eq X (by decide) (tgt := 92) dX7_did_72 (by decide) (fun h => absurd h (by decide)) (fun _ => ?_)
            refine lv_aload_n X.1.1 X.1.2.1 dX7_did_75 rfl (lv_at hl 1 rfl) ?_
            refine lv_aload_n X.1.1 X.1.2.1 dX7_did_76 rfl (lv_at hl 1 rfl) ?_
            refine sx_get X hP in_X7_did_X7 h91 (by decide) rfl 9 (by decide) lk_X7_did_fieldLink_RX7_159_RaceWatchModel_who_I rfl dX7_did_77 ?_
            refine sx_cvI (As := [.int (nI (t))]) (rest := []) X (mX7_isMuch l (t := t) (by omega) h91 h92) gX7_did_X7_isMuch rfl yv_X7_isMuch ⟨Nat.le_of_ble_eq_true rfl, Nat.le_of_ble_eq_true rfl⟩ h91 (by decide) rfl rfl hl.1 rfl (Nat.le_of_ble_eq_true rfl) dX7_did_80 ⟨Nat.le_of_ble_eq_true rfl, Nat.le_of_ble_eq_true rfl⟩ hs rfl hP (fun r23 F23 H23 l23 hp hP => ?_)
            obtain ⟨rfl, ⟨b24, rfl⟩ | ⟨b24, rfl⟩⟩ := hp
            · refine sx_if_eq X (by decide) (tgt := 92) dX7_did_83 (by decide) (fun h => absurd h (by decide)) (fun _ => ?_)
              refine lv_aload_n X.1.1 X.1.2.1 dX7_did_86 rfl (lv_at hl 1 rfl) ?_
              refine lv_iconst (v := nI 4) X.1.1 X.1.2.1 dX7_did_87 (by decide) ?_
              refine sx_cvI (As := [.int (nI 4)]) (rest := []) X (mX7_fails l (i := i) (f := 4) h91) gX7_did_X7_fails rfl yv_X7_fails ⟨Nat.le_of_ble_eq_true rfl, Nat.le_of_ble_eq_true rfl⟩ h91 (by decide) rfl rfl hl.1 rfl (Nat.le_of_ble_eq_true rfl) dX7_did_88 ⟨Nat.le_of_ble_eq_true rfl, Nat.le_of_ble_eq_true rfl⟩ hs rfl hP (fun r25 F25 H25 l25 hp hP => ?_)
              obtain ⟨e25, o25, rfl⟩ := hp
              have h91 : F25 (91) = ob 7 ([rf G 92, v1, v2, v3, v4, .int (nI (i)), .int (nI (x)), .int (nI 4), .int (nI (i)), .int (nI (t)), v10, .int (nI (g)), v12, v13]) := e25
              have h92 := (o25 (92) (by decide)).trans h92
              have hO : ∀ j, j ≠ 91 ∧ j ≠ 92 → F25 j = F j := fun j hj => (o25 j (by omega)).trans (hO j hj)
              rw [hQ]
              exact sx_zret X rfl (by decide) hs rfl hP dX7_did_91 (⟨hO, Or.inr (Or.inl ⟨h91, h92, by unfold moreF; (first | rw [if_pos c2] | rw [if_neg c2]); omega, fun q => q.2.2 ⟨b22, b24⟩, rfl⟩)⟩)
            · refine sx_if_eq X (by decide) (tgt := 92) dX7_did_83 (by decide) (fun _ => ?_) (fun h => absurd h (by decide))
              refine lv_aload_n X.1.1 X.1.2.1 dX7_did_92 rfl (lv_at hl 1 rfl) ?_
              refine lv_aload_n X.1.1 X.1.2.1 dX7_did_93 rfl (lv_at hl 1 rfl) ?_
              refine sx_get X hP in_X7_did_X7 h91 (by decide) rfl 9 (by decide) lk_X7_did_fieldLink_RX7_159_RaceWatchModel_who_I rfl dX7_did_94 ?_
              refine lv_iload_n X.1.1 X.1.2.1 dX7_did_97 rfl (lv_at hl 2 rfl) ?_
              refine lv_aload_n X.1.1 X.1.2.1 dX7_did_98 rfl (lv_at hl 1 rfl) ?_
              refine sx_get X hP in_X7_did_X7 h91 (by decide) rfl 6 (by decide) lk_X7_did_fieldLink_RX7_153_RaceWatchModel_figure_I rfl dX7_did_99 ?_
              refine sx_cvV (As := [.int (nI (t)), .int (nI (s)), .int (nI (x))]) (rest := []) X (mX7_comes l (n := n) (t := t) (s := s) (x := x) (by omega) (by omega) (by omega) (by omega) h91n (fun h => hWF.2.2.2.1 _ (by omega)) h91 h92) gX7_did_X7_comes rfl yv_X7_comes ⟨Nat.le_of_ble_eq_true rfl, Nat.le_of_ble_eq_true rfl⟩ h91 (by decide) rfl rfl hl.1 rfl (Nat.le_of_ble_eq_true rfl) dX7_did_102 ⟨Nat.le_of_ble_eq_true rfl, Nat.le_of_ble_eq_true rfl⟩ hs rfl hP (fun F26 H26 l26 hp hP => ?_)
              obtain ⟨e26, o26⟩ := hp
              obtain ⟨w26, hw26⟩ : ∃ z, z = comeF w (n) (t) (s) (x) := ⟨_, rfl⟩
              rw [← hw26] at e26
              have h92 : F26 (92) = rI G (4358) (w26) := e26
              have h91 := (o26 (91) (by decide)).trans h91
              have hO : ∀ j, j ≠ 91 ∧ j ≠ 92 → F26 j = F j := fun j hj => (o26 j (by omega)).trans (hO j hj)
              have h91n_26 : w26 91 = nI (1 + n) := by rw [hw26]; exact (comeF_91 (by omega)).trans (congrArg nI (by omega))
              refine lv_aload_n X.1.1 X.1.2.1 dX7_did_105 rfl (lv_at hl 1 rfl) ?_
              refine lv_dup X.1.1 X.1.2.1 dX7_did_106 rfl ?_
              refine sx_get X hP in_X7_did_X7 h91 (by decide) rfl 5 (by decide) lk_X7_did_fieldLink_RX7_133_RaceWatchModel_at_I rfl dX7_did_107 ?_
              refine lv_iconst (v := nI 1) X.1.1 X.1.2.1 dX7_did_110 (by decide) ?_
              refine sx_addN X (1 + i) (by omega) dX7_did_111 ?_
              refine sx_put X hP in_X7_did_X7 tyX7 tyX7_ok nmX7 h91 (by decide) rfl 5 (by decide) lk_X7_did_fieldLink_RX7_133_RaceWatchModel_at_I rfl rfl rfl (Nat.le_of_ble_eq_true rfl) dX7_did_112 (fun F27 H27 l27 e27 o27 hP => ?_)
              have h91 : F27 (91) = ob 7 ([rf G 92, v1, v2, v3, v4, .int (nI (1 + i)), .int (nI (x)), .int (fa), .int (fat), .int (nI (t)), v10, .int (nI (g)), v12, v13]) := e27
              have h92 := (o27 (92) (by decide)).trans h92
              have hO : ∀ j, j ≠ 91 ∧ j ≠ 92 → F27 j = F j := fun j hj => (o27 j (by omega)).trans (hO j hj)
              refine lv_iconst (v := nI 1) X.1.1 X.1.2.1 dX7_did_115 (by decide) ?_
              rw [hQ]
              exact sx_zret X rfl (by decide) hs rfl hP dX7_did_116 (⟨hO, Or.inr (Or.inr ⟨h91, h92.trans (by rw [hw26]), by unfold moreF; (first | rw [if_pos c2] | rw [if_neg c2]); omega, ⟨hxt, b20, fun q => b24 q.2⟩, rfl⟩)⟩)
          · refine sx_if_eq X (by decide) (tgt := 92) dX7_did_72 (by decide) (fun _ => ?_) (fun h => absurd h (by decide))
            refine lv_aload_n X.1.1 X.1.2.1 dX7_did_92 rfl (lv_at hl 1 rfl) ?_
            refine lv_aload_n X.1.1 X.1.2.1 dX7_did_93 rfl (lv_at hl 1 rfl) ?_
            refine sx_get X hP in_X7_did_X7 h91 (by decide) rfl 9 (by decide) lk_X7_did_fieldLink_RX7_159_RaceWatchModel_who_I rfl dX7_did_94 ?_
            refine lv_iload_n X.1.1 X.1.2.1 dX7_did_97 rfl (lv_at hl 2 rfl) ?_
            refine lv_aload_n X.1.1 X.1.2.1 dX7_did_98 rfl (lv_at hl 1 rfl) ?_
            refine sx_get X hP in_X7_did_X7 h91 (by decide) rfl 6 (by decide) lk_X7_did_fieldLink_RX7_153_RaceWatchModel_figure_I rfl dX7_did_99 ?_
            refine sx_cvV (As := [.int (nI (t)), .int (nI (s)), .int (nI (x))]) (rest := []) X (mX7_comes l (n := n) (t := t) (s := s) (x := x) (by omega) (by omega) (by omega) (by omega) h91n (fun h => hWF.2.2.2.1 _ (by omega)) h91 h92) gX7_did_X7_comes rfl yv_X7_comes ⟨Nat.le_of_ble_eq_true rfl, Nat.le_of_ble_eq_true rfl⟩ h91 (by decide) rfl rfl hl.1 rfl (Nat.le_of_ble_eq_true rfl) dX7_did_102 ⟨Nat.le_of_ble_eq_true rfl, Nat.le_of_ble_eq_true rfl⟩ hs rfl hP (fun F28 H28 l28 hp hP => ?_)
            obtain ⟨e28, o28⟩ := hp
            obtain ⟨w28, hw28⟩ : ∃ z, z = comeF w (n) (t) (s) (x) := ⟨_, rfl⟩
            rw [← hw28] at e28
            have h92 : F28 (92) = rI G (4358) (w28) := e28
            have h91 := (o28 (91) (by decide)).trans h91
            have hO : ∀ j, j ≠ 91 ∧ j ≠ 92 → F28 j = F j := fun j hj => (o28 j (by omega)).trans (hO j hj)
            have h91n_28 : w28 91 = nI (1 + n) := by rw [hw28]; exact (comeF_91 (by omega)).trans (congrArg nI (by omega))
            refine lv_aload_n X.1.1 X.1.2.1 dX7_did_105 rfl (lv_at hl 1 rfl) ?_
            refine lv_dup X.1.1 X.1.2.1 dX7_did_106 rfl ?_
            refine sx_get X hP in_X7_did_X7 h91 (by decide) rfl 5 (by decide) lk_X7_did_fieldLink_RX7_133_RaceWatchModel_at_I rfl dX7_did_107 ?_
            refine lv_iconst (v := nI 1) X.1.1 X.1.2.1 dX7_did_110 (by decide) ?_
            refine sx_addN X (1 + i) (by omega) dX7_did_111 ?_
            refine sx_put X hP in_X7_did_X7 tyX7 tyX7_ok nmX7 h91 (by decide) rfl 5 (by decide) lk_X7_did_fieldLink_RX7_133_RaceWatchModel_at_I rfl rfl rfl (Nat.le_of_ble_eq_true rfl) dX7_did_112 (fun F29 H29 l29 e29 o29 hP => ?_)
            have h91 : F29 (91) = ob 7 ([rf G 92, v1, v2, v3, v4, .int (nI (1 + i)), .int (nI (x)), .int (fa), .int (fat), .int (nI (t)), v10, .int (nI (g)), v12, v13]) := e29
            have h92 := (o29 (92) (by decide)).trans h92
            have hO : ∀ j, j ≠ 91 ∧ j ≠ 92 → F29 j = F j := fun j hj => (o29 j (by omega)).trans (hO j hj)
            refine lv_iconst (v := nI 1) X.1.1 X.1.2.1 dX7_did_115 (by decide) ?_
            rw [hQ]
            exact sx_zret X rfl (by decide) hs rfl hP dX7_did_116 (⟨hO, Or.inr (Or.inr ⟨h91, h92.trans (by rw [hw28]), by unfold moreF; (first | rw [if_pos c2] | rw [if_neg c2]); omega, ⟨hxt, b20, fun q => b22 q.1⟩, rfl⟩)⟩)
        · refine sx_if_eq X (by decide) (tgt := 86) dX7_did_65 (by decide) (fun _ => ?_) (fun h => absurd h (by decide))
          refine lv_aload_n X.1.1 X.1.2.1 dX7_did_86 rfl (lv_at hl 1 rfl) ?_
          refine lv_iconst (v := nI 4) X.1.1 X.1.2.1 dX7_did_87 (by decide) ?_
          refine sx_cvI (As := [.int (nI 4)]) (rest := []) X (mX7_fails l (i := i) (f := 4) h91) gX7_did_X7_fails rfl yv_X7_fails ⟨Nat.le_of_ble_eq_true rfl, Nat.le_of_ble_eq_true rfl⟩ h91 (by decide) rfl rfl hl.1 rfl (Nat.le_of_ble_eq_true rfl) dX7_did_88 ⟨Nat.le_of_ble_eq_true rfl, Nat.le_of_ble_eq_true rfl⟩ hs rfl hP (fun r30 F30 H30 l30 hp hP => ?_)
          obtain ⟨e30, o30, rfl⟩ := hp
          have h91 : F30 (91) = ob 7 ([rf G 92, v1, v2, v3, v4, .int (nI (i)), .int (nI (x)), .int (nI 4), .int (nI (i)), .int (nI (t)), v10, .int (nI (g)), v12, v13]) := e30
          have h92 := (o30 (92) (by decide)).trans h92
          have hO : ∀ j, j ≠ 91 ∧ j ≠ 92 → F30 j = F j := fun j hj => (o30 j (by omega)).trans (hO j hj)
          rw [hQ]
          exact sx_zret X rfl (by decide) hs rfl hP dX7_did_91 (⟨hO, Or.inr (Or.inl ⟨h91, h92, by unfold moreF; (first | rw [if_pos c2] | rw [if_neg c2]); omega, fun q => b20 q.2.1, rfl⟩)⟩)
      · refine sx_if_eq X (by decide) (tgt := 86) dX7_did_49 (by decide) (fun _ => ?_) (fun h => absurd h (by decide))
        refine lv_aload_n X.1.1 X.1.2.1 dX7_did_86 rfl (lv_at hl 1 rfl) ?_
        refine lv_iconst (v := nI 4) X.1.1 X.1.2.1 dX7_did_87 (by decide) ?_
        refine sx_cvI (As := [.int (nI 4)]) (rest := []) X (mX7_fails l (i := i) (f := 4) h91) gX7_did_X7_fails rfl yv_X7_fails ⟨Nat.le_of_ble_eq_true rfl, Nat.le_of_ble_eq_true rfl⟩ h91 (by decide) rfl rfl hl.1 rfl (Nat.le_of_ble_eq_true rfl) dX7_did_88 ⟨Nat.le_of_ble_eq_true rfl, Nat.le_of_ble_eq_true rfl⟩ hs rfl hP (fun r31 F31 H31 l31 hp hP => ?_)
        obtain ⟨e31, o31, rfl⟩ := hp
        have h91 : F31 (91) = ob 7 ([rf G 92, v1, v2, v3, v4, .int (nI (i)), .int (nI (x)), .int (nI 4), .int (nI (i)), .int (nI (t)), v10, .int (nI (g)), v12, v13]) := e31
        have h92 := (o31 (92) (by decide)).trans h92
        have hO : ∀ j, j ≠ 91 ∧ j ≠ 92 → F31 j = F j := fun j hj => (o31 j (by omega)).trans (hO j hj)
        rw [hQ]
        exact sx_zret X rfl (by decide) hs rfl hP dX7_did_91 (⟨hO, Or.inr (Or.inl ⟨h91, h92, by unfold moreF; (first | rw [if_pos c2] | rw [if_neg c2]); omega, fun q => b18 ⟨x, hx, rfl, q.1⟩, rfl⟩)⟩)
    · refine lv_aload_n X.1.1 X.1.2.1 dX7_did_31 rfl (lv_at hl 1 rfl) ?_
      refine lv_iconst (v := nI 3) X.1.1 X.1.2.1 dX7_did_32 (by decide) ?_
      refine sx_cvI (As := [.int (nI 3)]) (rest := []) X (mX7_fails l (i := i) (f := 3) h91) gX7_did_X7_fails rfl yv_X7_fails ⟨Nat.le_of_ble_eq_true rfl, Nat.le_of_ble_eq_true rfl⟩ h91 (by decide) rfl rfl hl.1 rfl (Nat.le_of_ble_eq_true rfl) dX7_did_33 ⟨Nat.le_of_ble_eq_true rfl, Nat.le_of_ble_eq_true rfl⟩ hs rfl hP (fun r32 F32 H32 l32 hp hP => ?_)
      obtain ⟨e32, o32, rfl⟩ := hp
      have h91 : F32 (91) = ob 7 ([rf G 92, v1, v2, v3, v4, .int (nI (i)), .int (nI (x)), .int (nI 3), .int (nI (i)), .int (nI (t)), v10, .int (nI (g)), v12, v13]) := e32
      have h92 := (o32 (92) (by decide)).trans h92
      have hO : ∀ j, j ≠ 91 ∧ j ≠ 92 → F32 j = F j := fun j hj => (o32 j (by omega)).trans (hO j hj)
      rw [hQ]
      exact sx_zret X rfl (by decide) hs rfl hP dX7_did_36 (⟨hO, Or.inl ⟨h91, h92, by unfold moreF; (first | rw [if_pos c2] | rw [if_neg c2]); omega, rfl⟩⟩)
theorem ys_X7_opens : yX7_opens.cls ≠ "java/lang/invoke/MethodHandle" ∧ yX7_opens.cls ≠ "java/lang/invoke/VarHandle" ∧ (parseMethodDescriptor yX7_opens.desc).map (fun d => d.parameters.length) = some 2 := by decide +kernel
theorem yv_X7_opens : yX7_opens.cls = RX7 ∧ yX7_opens.cls ≠ "java/lang/invoke/MethodHandle" ∧ yX7_opens.cls ≠ "java/lang/invoke/VarHandle" ∧ (parseMethodDescriptor yX7_opens.desc).map (fun d => d.parameters.length) = some 2 := ⟨rfl, ys_X7_opens⟩
theorem in_X7_opens_X7 : ∀ w ∈ wsX70, w ∈ wsX7_opens := fun _ h => List.mem_cons_of_mem _ (List.mem_append_right _ (h))
theorem lk_X7_opens_fieldLink_RX7_20_RaceWatchModel_openLock_I : (.fieldLink RX7 20 "RaceWatchModel" "openLock" "[I" : Cond) ∈ wsX7_opens := List.mem_cons_of_mem _ (List.mem_append_left _ (List.mem_of_getElem? (i := 0) rfl))
theorem lk_X7_opens_fieldLink_RX7_162_RaceWatchModel_open_I : (.fieldLink RX7 162 "RaceWatchModel" "open" "I" : Cond) ∈ wsX7_opens := List.mem_cons_of_mem _ (List.mem_append_left _ (List.mem_of_getElem? (i := 1) rfl))
theorem lk_X7_opens_fieldLink_RX7_23_RaceWatchModel_openThread_I : (.fieldLink RX7 23 "RaceWatchModel" "openThread" "[I" : Cond) ∈ wsX7_opens := List.mem_cons_of_mem _ (List.mem_append_left _ (List.mem_of_getElem? (i := 2) rfl))
abbrev rmX7_opens : Room := { frames := 0, cells := 0, slots := 0, locals := 0 }
set_option maxHeartbeats 4000000 in
set_option maxRecDepth 100000 in
theorem mX7_opens {G : sx_G} (l : Launch) {F : Nat → va_E} {v0 v1 v2 v3 v4 v5 v6 v7 v8 v9 v11 : Value} {ol ot : Nat → Int32} {d t : Nat} {lk : Int32} (hd : d < 240) (h91 : F (91) = ob 7 ([v0, v1, v2, v3, v4, v5, v6, v7, v8, v9, .int (nI (d)), v11, rf G 95, rf G 96])) (h95 : F (95) = rI G (240) (ol)) (h96 : F (96) = rI G (240) (ot)) : sx_V G l yX7_opens wsX7_opens rmX7_opens [rf G 91, .int (lk), .int (nI (t))] (97) F (97) (fun F1 => F1 91 = ob 7 ([v0, v1, v2, v3, v4, v5, v6, v7, v8, v9, .int (nI (1 + d)), v11, rf G 95, rf G 96]) ∧ F1 95 = rI G 240 (upd ol d lk) ∧ F1 96 = rI G 240 (upd ot d (nI t)) ∧ ∀ j, j ≠ 91 ∧ j ≠ 95 ∧ j ≠ 96 → F1 j = F j) := by
  refine sx_enter (cc := cX7_opens) (maxL := 3) (ret := none) (own := RX7) (nm := "opens") (by decide) rfl rfl rfl (Nat.le_of_ble_eq_true rfl) ?_
  intro pp ee ss mm args below meth kc ls Q hQ X hs hP hl
  have hl : lv_has ls 3 [(0, rf G 91), (1, .int (lk)), (2, .int (nI (t)))] := hl
  have hO : ∀ j, j ≠ 91 ∧ j ≠ 95 ∧ j ≠ 96 → F j = F j := fun _ _ => rfl
  refine lv_aload_n X.1.1 X.1.2.1 dX7_opens_0 rfl (lv_at hl 0 rfl) ?_
  refine sx_get X hP in_X7_opens_X7 h91 (by decide) rfl 12 (by decide) lk_X7_opens_fieldLink_RX7_20_RaceWatchModel_openLock_I rfl dX7_opens_1 ?_
  refine lv_aload_n X.1.1 X.1.2.1 dX7_opens_4 rfl (lv_at hl 0 rfl) ?_
  refine sx_get X hP in_X7_opens_X7 h91 (by decide) rfl 10 (by decide) lk_X7_opens_fieldLink_RX7_162_RaceWatchModel_open_I rfl dX7_opens_5 ?_
  refine lv_iload_n X.1.1 X.1.2.1 dX7_opens_8 rfl (lv_at hl 1 rfl) ?_
  refine sx_ast X hP h95 (by decide) (d) (by omega) (by decide) dX7_opens_9 (fun F1 H1 l1 e1 o1 hP => ?_)
  obtain ⟨w1, hw1⟩ : ∃ z, z = upd ol (d) (lk) := ⟨_, rfl⟩
  rw [← hw1] at e1
  have h95 : F1 (95) = rI G (240) (w1) := e1
  have h91 := (o1 (91) (by decide)).trans h91
  have h96 := (o1 (96) (by decide)).trans h96
  have hO : ∀ j, j ≠ 91 ∧ j ≠ 95 ∧ j ≠ 96 → F1 j = F j := fun j hj => (o1 j (by omega)).trans (hO j hj)
  refine lv_aload_n X.1.1 X.1.2.1 dX7_opens_10 rfl (lv_at hl 0 rfl) ?_
  refine sx_get X hP in_X7_opens_X7 h91 (by decide) rfl 13 (by decide) lk_X7_opens_fieldLink_RX7_23_RaceWatchModel_openThread_I rfl dX7_opens_11 ?_
  refine lv_aload_n X.1.1 X.1.2.1 dX7_opens_14 rfl (lv_at hl 0 rfl) ?_
  refine sx_get X hP in_X7_opens_X7 h91 (by decide) rfl 10 (by decide) lk_X7_opens_fieldLink_RX7_162_RaceWatchModel_open_I rfl dX7_opens_15 ?_
  refine lv_iload_n X.1.1 X.1.2.1 dX7_opens_18 rfl (lv_at hl 2 rfl) ?_
  refine sx_ast X hP h96 (by decide) (d) (by omega) (by decide) dX7_opens_19 (fun F2 H2 l2 e2 o2 hP => ?_)
  obtain ⟨w2, hw2⟩ : ∃ z, z = upd ot (d) (nI (t)) := ⟨_, rfl⟩
  rw [← hw2] at e2
  have h96 : F2 (96) = rI G (240) (w2) := e2
  have h91 := (o2 (91) (by decide)).trans h91
  have h95 := (o2 (95) (by decide)).trans h95
  have hO : ∀ j, j ≠ 91 ∧ j ≠ 95 ∧ j ≠ 96 → F2 j = F j := fun j hj => (o2 j (by omega)).trans (hO j hj)
  refine lv_aload_n X.1.1 X.1.2.1 dX7_opens_20 rfl (lv_at hl 0 rfl) ?_
  refine lv_dup X.1.1 X.1.2.1 dX7_opens_21 rfl ?_
  refine sx_get X hP in_X7_opens_X7 h91 (by decide) rfl 10 (by decide) lk_X7_opens_fieldLink_RX7_162_RaceWatchModel_open_I rfl dX7_opens_22 ?_
  refine lv_iconst (v := nI 1) X.1.1 X.1.2.1 dX7_opens_25 (by decide) ?_
  refine sx_addN X (1 + d) (by omega) dX7_opens_26 ?_
  refine sx_put X hP in_X7_opens_X7 tyX7 tyX7_ok nmX7 h91 (by decide) rfl 10 (by decide) lk_X7_opens_fieldLink_RX7_162_RaceWatchModel_open_I rfl rfl rfl (Nat.le_of_ble_eq_true rfl) dX7_opens_27 (fun F3 H3 l3 e3 o3 hP => ?_)
  have h91 : F3 (91) = ob 7 ([v0, v1, v2, v3, v4, v5, v6, v7, v8, v9, .int (nI (1 + d)), v11, rf G 95, rf G 96]) := e3
  have h95 := (o3 (95) (by decide)).trans h95
  have h96 := (o3 (96) (by decide)).trans h96
  have hO : ∀ j, j ≠ 91 ∧ j ≠ 95 ∧ j ≠ 96 → F3 j = F j := fun j hj => (o3 j (by omega)).trans (hO j hj)
  rw [hQ]
  exact sx_vret X rfl hs rfl hP dX7_opens_30 (⟨h91, h95.trans (by rw [hw1]), h96.trans (by rw [hw2]), hO⟩)
theorem ys_X7_notes : yX7_notes.cls ≠ "java/lang/invoke/MethodHandle" ∧ yX7_notes.cls ≠ "java/lang/invoke/VarHandle" ∧ (parseMethodDescriptor yX7_notes.desc).map (fun d => d.parameters.length) = some 2 := by decide +kernel
theorem yv_X7_notes : yX7_notes.cls = RX7 ∧ yX7_notes.cls ≠ "java/lang/invoke/MethodHandle" ∧ yX7_notes.cls ≠ "java/lang/invoke/VarHandle" ∧ (parseMethodDescriptor yX7_notes.desc).map (fun d => d.parameters.length) = some 2 := ⟨rfl, ys_X7_notes⟩
theorem in_X7_notes_X7 : ∀ w ∈ wsX70, w ∈ wsX7_notes := fun _ h => List.mem_cons_of_mem _ (List.mem_append_right _ (h))
theorem lk_X7_notes_fieldLink_RX7_129_RaceWatchModel_entries_I : (.fieldLink RX7 129 "RaceWatchModel" "entries" "I" : Cond) ∈ wsX7_notes := List.mem_cons_of_mem _ (List.mem_append_left _ (List.mem_of_getElem? (i := 0) rfl))
theorem lk_X7_notes_fieldLink_RX7_17_RaceWatchModel_journals_I : (.fieldLink RX7 17 "RaceWatchModel" "journals" "[I" : Cond) ∈ wsX7_notes := List.mem_cons_of_mem _ (List.mem_append_left _ (List.mem_of_getElem? (i := 1) rfl))
abbrev rmX7_notes : Room := { frames := 0, cells := 0, slots := 0, locals := 0 }
set_option maxHeartbeats 4000000 in
set_option maxRecDepth 100000 in
theorem mX7_notes {G : sx_G} (l : Launch) {F : Nat → va_E} {v0 v1 v4 v5 v6 v7 v8 v9 v10 v11 v12 v13 : Value} {jo : Nat → Int32} {en x h : Nat} (hen : en ≤ 24) (hx : x < 3) (hh : h < 2) (h91 : F (91) = ob 7 ([v0, v1, .int (nI (en)), rf G 94, v4, v5, v6, v7, v8, v9, v10, v11, v12, v13])) (h94 : F (94) = rI G (24) (jo)) : sx_V G l yX7_notes wsX7_notes rmX7_notes [rf G 91, .int (nI (x)), .int (nI (h))] (97) F (97) (fun F1 => F1 91 = ob 7 ([v0, v1, .int (nI (jnE en)), rf G 94, v4, v5, v6, v7, v8, v9, v10, v11, v12, v13]) ∧ F1 94 = rI G 24 (jnR en jo (nI (2 * x + h))) ∧ ∀ j, j ≠ 91 ∧ j ≠ 94 → F1 j = F j) := by
  refine sx_enter (cc := cX7_notes) (maxL := 4) (ret := none) (own := RX7) (nm := "notes") (by decide) rfl rfl rfl (Nat.le_of_ble_eq_true rfl) ?_
  intro pp ee ss mm args below meth kc ls Q hQ X hs hP hl
  have hl : lv_has ls 4 [(0, rf G 91), (1, .int (nI (x))), (2, .int (nI (h)))] := hl
  have hO : ∀ j, j ≠ 91 ∧ j ≠ 94 → F j = F j := fun _ _ => rfl
  refine lv_aload_n X.1.1 X.1.2.1 dX7_notes_0 rfl (lv_at hl 0 rfl) ?_
  refine sx_get X hP in_X7_notes_X7 h91 (by decide) rfl 2 (by decide) lk_X7_notes_fieldLink_RX7_129_RaceWatchModel_entries_I rfl dX7_notes_1 ?_
  refine lv_bipush (v := nI 24) X.1.1 X.1.2.1 dX7_notes_4 (by decide) ?_
  refine sx_icmp_ne X (by omega) (by decide) (tgt := 47) dX7_notes_6 (by decide) (fun c6 => ?_) (fun c6 => ?_)
  · refine lv_aload_n X.1.1 X.1.2.1 dX7_notes_47 rfl (lv_at hl 0 rfl) ?_
    refine sx_get X hP in_X7_notes_X7 h91 (by decide) rfl 3 (by decide) lk_X7_notes_fieldLink_RX7_17_RaceWatchModel_journals_I rfl dX7_notes_48 ?_
    refine lv_aload_n X.1.1 X.1.2.1 dX7_notes_51 rfl (lv_at hl 0 rfl) ?_
    refine sx_get X hP in_X7_notes_X7 h91 (by decide) rfl 2 (by decide) lk_X7_notes_fieldLink_RX7_129_RaceWatchModel_entries_I rfl dX7_notes_52 ?_
    refine lv_iconst (v := nI 2) X.1.1 X.1.2.1 dX7_notes_55 (by decide) ?_
    refine lv_iload_n X.1.1 X.1.2.1 dX7_notes_56 rfl (lv_at hl 1 rfl) ?_
    refine sx_mulN X (2 * x) (by omega) dX7_notes_57 ?_
    refine lv_iload_n X.1.1 X.1.2.1 dX7_notes_58 rfl (lv_at hl 2 rfl) ?_
    refine sx_addN X (2 * x + h) (by omega) dX7_notes_59 ?_
    refine sx_ast X hP h94 (by decide) (en) (by omega) (by decide) dX7_notes_60 (fun F1 H1 l1 e1 o1 hP => ?_)
    obtain ⟨w1, hw1⟩ : ∃ z, z = upd jo (en) (nI (2 * x + h)) := ⟨_, rfl⟩
    rw [← hw1] at e1
    have h94 : F1 (94) = rI G (24) (w1) := e1
    have h91 := (o1 (91) (by decide)).trans h91
    have hO : ∀ j, j ≠ 91 ∧ j ≠ 94 → F1 j = F j := fun j hj => (o1 j (by omega)).trans (hO j hj)
    refine lv_aload_n X.1.1 X.1.2.1 dX7_notes_61 rfl (lv_at hl 0 rfl) ?_
    refine lv_dup X.1.1 X.1.2.1 dX7_notes_62 rfl ?_
    refine sx_get X hP in_X7_notes_X7 h91 (by decide) rfl 2 (by decide) lk_X7_notes_fieldLink_RX7_129_RaceWatchModel_entries_I rfl dX7_notes_63 ?_
    refine lv_iconst (v := nI 1) X.1.1 X.1.2.1 dX7_notes_66 (by decide) ?_
    refine sx_addN X (1 + en) (by omega) dX7_notes_67 ?_
    refine sx_put X hP in_X7_notes_X7 tyX7 tyX7_ok nmX7 h91 (by decide) rfl 2 (by decide) lk_X7_notes_fieldLink_RX7_129_RaceWatchModel_entries_I rfl rfl rfl (Nat.le_of_ble_eq_true rfl) dX7_notes_68 (fun F2 H2 l2 e2 o2 hP => ?_)
    have h91 : F2 (91) = ob 7 ([v0, v1, .int (nI (1 + en)), rf G 94, v4, v5, v6, v7, v8, v9, v10, v11, v12, v13]) := e2
    have h94 := (o2 (94) (by decide)).trans h94
    have hO : ∀ j, j ≠ 91 ∧ j ≠ 94 → F2 j = F j := fun j hj => (o2 j (by omega)).trans (hO j hj)
    rw [hQ]
    exact sx_vret X rfl hs rfl hP dX7_notes_71 (⟨h91.trans (by unfold jnE; rw [if_neg c6]), h94.trans (by rw [hw1]; unfold jnR; rw [if_neg c6]), hO⟩)
  · subst c6
    refine lv_iconst (v := nI 1) X.1.1 X.1.2.1 dX7_notes_9 (by decide) ?_
    refine lv_istore_n (lv' := [(3, .int (nI 1)), (0, rf G 91), (1, .int (nI (x))), (2, .int (nI (h)))]) X.1.1 X.1.2.1 dX7_notes_10 rfl hl (by decide) rfl (fun ls hl => ?_)
    have lo : ∀ (k_lo : Nat) (r : Nat → Int32) (q : Nat) (p : Nat) (Fv : Nat → va_E) (Hv : Heap) (lv : List Loc) (ls : Array Slot), (q + k_lo = 23) → (∀ j, r j = if j < q then jo (1 + j) else jo j) → (p = 1 + q) → (Fv (91) = ob 7 ([v0, v1, .int (nI 24), rf G 94, v4, v5, v6, v7, v8, v9, v10, v11, v12, v13])) → (Fv (94) = rI G (24) (r)) → (∀ j, j ≠ 91 ∧ j ≠ 94 → Fv j = F j) → sx_H G (97) Fv ss.heap Hv lv → lv_has ls 4 [(0, rf G 91), (1, .int (nI (x))), (2, .int (nI (h))), (3, .int (nI (p)))] → W pp l ee rmX7_notes ss mm args below meth kc Hv lv 0 0 Q (F0 mm 11 ls []) := by
      intro k_lo
      induction k_lo with
      | zero =>
        intro r q p Fv Hv lv ls hk hr hp1 h91 h94 hO hP hl
        have hz : r = shF jo := funext fun j => by rw [hr j, show q = 23 by omega]; rfl
        refine lv_iload_n X.1.1 X.1.2.1 dX7_notes_11 rfl (lv_at hl 3 rfl) ?_
        refine lv_bipush (v := nI 24) X.1.1 X.1.2.1 dX7_notes_12 (by decide) ?_
        refine sx_icmp_ge X (by omega) (by decide) (tgt := 37) dX7_notes_14 (by decide) (fun c14 => ?_) (fun c14 => absurd c14 (by omega))
        refine lv_aload_n X.1.1 X.1.2.1 dX7_notes_37 rfl (lv_at hl 0 rfl) ?_
        refine lv_dup X.1.1 X.1.2.1 dX7_notes_38 rfl ?_
        refine sx_get X hP in_X7_notes_X7 h91 (by decide) rfl 2 (by decide) lk_X7_notes_fieldLink_RX7_129_RaceWatchModel_entries_I rfl dX7_notes_39 ?_
        refine lv_iconst (v := nI 1) X.1.1 X.1.2.1 dX7_notes_42 (by decide) ?_
        refine sx_subN X (23) (by decide) rfl dX7_notes_43 ?_
        refine sx_put X hP in_X7_notes_X7 tyX7 tyX7_ok nmX7 h91 (by decide) rfl 2 (by decide) lk_X7_notes_fieldLink_RX7_129_RaceWatchModel_entries_I rfl rfl rfl (Nat.le_of_ble_eq_true rfl) dX7_notes_44 (fun F3 H3 l3 e3 o3 hP => ?_)
        have h91 : F3 (91) = ob 7 ([v0, v1, .int (nI 23), rf G 94, v4, v5, v6, v7, v8, v9, v10, v11, v12, v13]) := e3
        have h94 := (o3 (94) (by decide)).trans h94
        have hO : ∀ j, j ≠ 91 ∧ j ≠ 94 → F3 j = F j := fun j hj => (o3 j (by omega)).trans (hO j hj)
        refine lv_aload_n X.1.1 X.1.2.1 dX7_notes_47 rfl (lv_at hl 0 rfl) ?_
        refine sx_get X hP in_X7_notes_X7 h91 (by decide) rfl 3 (by decide) lk_X7_notes_fieldLink_RX7_17_RaceWatchModel_journals_I rfl dX7_notes_48 ?_
        refine lv_aload_n X.1.1 X.1.2.1 dX7_notes_51 rfl (lv_at hl 0 rfl) ?_
        refine sx_get X hP in_X7_notes_X7 h91 (by decide) rfl 2 (by decide) lk_X7_notes_fieldLink_RX7_129_RaceWatchModel_entries_I rfl dX7_notes_52 ?_
        refine lv_iconst (v := nI 2) X.1.1 X.1.2.1 dX7_notes_55 (by decide) ?_
        refine lv_iload_n X.1.1 X.1.2.1 dX7_notes_56 rfl (lv_at hl 1 rfl) ?_
        refine sx_mulN X (2 * x) (by omega) dX7_notes_57 ?_
        refine lv_iload_n X.1.1 X.1.2.1 dX7_notes_58 rfl (lv_at hl 2 rfl) ?_
        refine sx_addN X (2 * x + h) (by omega) dX7_notes_59 ?_
        refine sx_ast X hP h94 (by decide) (23) (by decide) (by decide) dX7_notes_60 (fun F4 H4 l4 e4 o4 hP => ?_)
        obtain ⟨w4, hw4⟩ : ∃ z, z = upd r (23) (nI (2 * x + h)) := ⟨_, rfl⟩
        rw [← hw4] at e4
        have h94 : F4 (94) = rI G (24) (w4) := e4
        have h91 := (o4 (91) (by decide)).trans h91
        have hO : ∀ j, j ≠ 91 ∧ j ≠ 94 → F4 j = F j := fun j hj => (o4 j (by omega)).trans (hO j hj)
        refine lv_aload_n X.1.1 X.1.2.1 dX7_notes_61 rfl (lv_at hl 0 rfl) ?_
        refine lv_dup X.1.1 X.1.2.1 dX7_notes_62 rfl ?_
        refine sx_get X hP in_X7_notes_X7 h91 (by decide) rfl 2 (by decide) lk_X7_notes_fieldLink_RX7_129_RaceWatchModel_entries_I rfl dX7_notes_63 ?_
        refine lv_iconst (v := nI 1) X.1.1 X.1.2.1 dX7_notes_66 (by decide) ?_
        refine sx_addN X (24) rfl dX7_notes_67 ?_
        refine sx_put X hP in_X7_notes_X7 tyX7 tyX7_ok nmX7 h91 (by decide) rfl 2 (by decide) lk_X7_notes_fieldLink_RX7_129_RaceWatchModel_entries_I rfl rfl rfl (Nat.le_of_ble_eq_true rfl) dX7_notes_68 (fun F5 H5 l5 e5 o5 hP => ?_)
        have h91 : F5 (91) = ob 7 ([v0, v1, .int (nI 24), rf G 94, v4, v5, v6, v7, v8, v9, v10, v11, v12, v13]) := e5
        have h94 := (o5 (94) (by decide)).trans h94
        have hO : ∀ j, j ≠ 91 ∧ j ≠ 94 → F5 j = F j := fun j hj => (o5 j (by omega)).trans (hO j hj)
        rw [hQ]
        exact sx_vret X rfl hs rfl hP dX7_notes_71 (⟨h91, h94.trans (by rw [hw4, hz]; rfl), hO⟩)
      | succ k_lo ih_lo =>
        intro r q p Fv Hv lv ls hk hr hp1 h91 h94 hO hP hl
        refine lv_iload_n X.1.1 X.1.2.1 dX7_notes_11 rfl (lv_at hl 3 rfl) ?_
        refine lv_bipush (v := nI 24) X.1.1 X.1.2.1 dX7_notes_12 (by decide) ?_
        refine sx_icmp_ge X (by omega) (by decide) (tgt := 37) dX7_notes_14 (by decide) (fun c14 => absurd c14 (by omega)) (fun c14 => ?_)
        refine lv_aload_n X.1.1 X.1.2.1 dX7_notes_17 rfl (lv_at hl 0 rfl) ?_
        refine sx_get X hP in_X7_notes_X7 h91 (by decide) rfl 3 (by decide) lk_X7_notes_fieldLink_RX7_17_RaceWatchModel_journals_I rfl dX7_notes_18 ?_
        refine lv_iload_n X.1.1 X.1.2.1 dX7_notes_21 rfl (lv_at hl 3 rfl) ?_
        refine lv_iconst (v := nI 1) X.1.1 X.1.2.1 dX7_notes_22 (by decide) ?_
        refine sx_subN X ((p - 1)) (by omega) (by omega) dX7_notes_23 ?_
        refine lv_aload_n X.1.1 X.1.2.1 dX7_notes_24 rfl (lv_at hl 0 rfl) ?_
        refine sx_get X hP in_X7_notes_X7 h91 (by decide) rfl 3 (by decide) lk_X7_notes_fieldLink_RX7_17_RaceWatchModel_journals_I rfl dX7_notes_25 ?_
        refine lv_iload_n X.1.1 X.1.2.1 dX7_notes_28 rfl (lv_at hl 3 rfl) ?_
        refine sx_ald X hP h94 (by decide) (p) (by omega) (by decide) dX7_notes_29 ?_
        refine sx_ast X hP h94 (by decide) ((p - 1)) (by omega) (by decide) dX7_notes_30 (fun F6 H6 l6 e6 o6 hP => ?_)
        obtain ⟨w6, hw6⟩ : ∃ z, z = upd r ((p - 1)) (r (p)) := ⟨_, rfl⟩
        rw [← hw6] at e6
        have h94 : F6 (94) = rI G (24) (w6) := e6
        have h91 := (o6 (91) (by decide)).trans h91
        have hO : ∀ j, j ≠ 91 ∧ j ≠ 94 → F6 j = F j := fun j hj => (o6 j (by omega)).trans (hO j hj)
        refine lv_iinc (v := (nI (1 + p))) (lv' := [(3, .int (nI (1 + p))), (0, rf G 91), (1, .int (nI (x))), (2, .int (nI (h)))]) X.1.1 X.1.2.1 dX7_notes_31 hl (k := 3) rfl (sx_inc1 (by omega)) (by decide) rfl (fun ls hl => ?_)
        refine lv_goto (tgt := 11) X.1.1 X.1.2.1 dX7_notes_34 (by decide) ?_
        exact ih_lo (w6) (1 + q) (1 + p) _ _ _ _ (by omega) (by rw [hw6, show p - 1 = q by omega, hp1]; exact shF_step hr) (by omega) h91 h94 hO hP (lv_sub hl [1, 2, 3, 0] rfl)
    exact lo (23) (jo) (0) (1) _ _ _ _ (rfl) (fun j => by rw [if_neg (by omega)]) (rfl) h91 h94 hO hP (lv_sub hl [1, 2, 3, 0] rfl)
