theorem ys_X7_accesses : yX7_accesses.cls ≠ "java/lang/invoke/MethodHandle" ∧ yX7_accesses.cls ≠ "java/lang/invoke/VarHandle" ∧ (parseMethodDescriptor yX7_accesses.desc).map (fun d => d.parameters.length) = some 3 := by decide +kernel
theorem yv_X7_accesses : yX7_accesses.cls = RX7 ∧ yX7_accesses.cls ≠ "java/lang/invoke/MethodHandle" ∧ yX7_accesses.cls ≠ "java/lang/invoke/VarHandle" ∧ (parseMethodDescriptor yX7_accesses.desc).map (fun d => d.parameters.length) = some 3 := ⟨rfl, ys_X7_accesses⟩
theorem in_X7_accesses_X7 : ∀ w ∈ wsX70, w ∈ wsX7_accesses := fun _ h => List.mem_cons_of_mem _ (List.mem_append_right _ (h))
theorem lk_X7_accesses_fieldLink_RX7_7_RaceWatchModel_w_I : (.fieldLink RX7 7 "RaceWatchModel" "w" "[I" : Cond) ∈ wsX7_accesses := List.mem_cons_of_mem _ (List.mem_append_left _ (List.mem_of_getElem? (i := 0) rfl))
abbrev rmX7_accesses : Room := { frames := 2, cells := 0, slots := 0, locals := 50 }
set_option maxHeartbeats 4000000 in
set_option maxRecDepth 100000 in
theorem mX7_accesses {G : sx_G} (l : Launch) {F : Nat → va_E} {w : Nat → Int32} {of : List Value} {t c wr : Nat} (ht : t < 4) (hc : c < 4) (hwr : wr < 2) (hok : okC w c) (h91 : F (91) = ob 7 (rf G 92 :: of)) (h92 : F (92) = rI G (4358) (w)) : sx_V G l yX7_accesses wsX7_accesses rmX7_accesses [rf G 91, .int (nI (t)), .int (nI (c)), .int (nI (wr))] (97) F (97) (fun F1 => F1 92 = rI G 4358 (accF w t c wr) ∧ ∀ j, j ≠ 92 → F1 j = F j) := by
  refine sx_enter (cc := cX7_accesses) (maxL := 7) (ret := none) (own := RX7) (nm := "accesses") (by decide) rfl rfl rfl (Nat.le_of_ble_eq_true rfl) ?_
  intro pp ee ss mm args below meth kc ls Q hQ X hs hP hl
  have hl : lv_has ls 7 [(0, rf G 91), (1, .int (nI (t))), (2, .int (nI (c))), (3, .int (nI (wr)))] := hl
  have hO : ∀ j, j ≠ 92 → F j = F j := fun _ _ => rfl
  rcases (show wr = 0 ∨ wr = 1 by omega) with rfl | rfl
  · refine lv_iload_n X.1.1 X.1.2.1 dX7_accesses_0 rfl (lv_at hl 2 rfl) ?_
    refine sx_csI (As := [.int (nI (c))]) (rest := []) X (mX7_of l (c := c)) gX7_accesses_X7_of rfl ys_X7_of ⟨Nat.le_of_ble_eq_true rfl, Nat.le_of_ble_eq_true rfl⟩ hl.1 rfl (Nat.le_of_ble_eq_true rfl) dX7_accesses_1 ⟨Nat.le_of_ble_eq_true rfl, Nat.le_of_ble_eq_true rfl⟩ hs rfl hP (fun r1 F1 H1 l1 hp hP => ?_)
    obtain ⟨rfl, rfl⟩ := hp
    refine lv_istore (lv' := [(4, .int (nI (43 + 12 * c))), (0, rf G 91), (1, .int (nI (t))), (2, .int (nI (c))), (3, .int (nI 0))]) X.1.1 X.1.2.1 dX7_accesses_4 hl (by decide) rfl (fun ls hl => ?_)
    refine lv_aload_n X.1.1 X.1.2.1 dX7_accesses_6 rfl (lv_at hl 1 rfl) ?_
    refine lv_iload_n X.1.1 X.1.2.1 dX7_accesses_7 rfl (lv_at hl 2 rfl) ?_
    refine lv_iload_n X.1.1 X.1.2.1 dX7_accesses_8 rfl (lv_at hl 3 rfl) ?_
    refine lv_iload_n X.1.1 X.1.2.1 dX7_accesses_9 rfl (lv_at hl 4 rfl) ?_
    refine sx_cvI (As := [.int (nI (t)), .int (nI (c)), .int (nI 0)]) (rest := []) X (mX7_kindOf l (t := t) (c := c) (wr := 0) (by omega) (by omega) (by omega) hok h91 h92) gX7_accesses_X7_kindOf rfl yv_X7_kindOf ⟨Nat.le_of_ble_eq_true rfl, Nat.le_of_ble_eq_true rfl⟩ h91 (by decide) rfl rfl hl.1 rfl (Nat.le_of_ble_eq_true rfl) dX7_accesses_10 ⟨Nat.le_of_ble_eq_true rfl, Nat.le_of_ble_eq_true rfl⟩ hs rfl hP (fun r2 F2 H2 l2 hp hP => ?_)
    obtain ⟨rfl, rfl⟩ := hp
    refine lv_istore (lv' := [(5, .int (kindF w (t) (c) (0))), (4, .int (nI (43 + 12 * c))), (0, rf G 91), (1, .int (nI (t))), (2, .int (nI (c))), (3, .int (nI 0))]) X.1.1 X.1.2.1 dX7_accesses_13 hl (by decide) rfl (fun ls hl => ?_)
    refine lv_iload X.1.1 X.1.2.1 dX7_accesses_15 (lv_at hl 0 rfl) ?_
    refine lv_iconst (v := (-1)) X.1.1 X.1.2.1 dX7_accesses_17 (by decide) ?_
    refine lv_icmp_eq X.1.1 X.1.2.1 (tgt := 64) dX7_accesses_18 (by decide) (fun c18 => ?_) (fun c18 => ?_)
    · refine lv_iload_n X.1.1 X.1.2.1 dX7_accesses_64 rfl (lv_at hl 5 rfl) ?_
      refine sx_if_eq X (by decide) (tgt := 154) dX7_accesses_65 (by decide) (fun _ => ?_) (fun h => absurd h (by decide))
      refine lv_aload_n X.1.1 X.1.2.1 dX7_accesses_154 rfl (lv_at hl 2 rfl) ?_
      refine lv_iload_n X.1.1 X.1.2.1 dX7_accesses_155 rfl (lv_at hl 3 rfl) ?_
      refine lv_iload X.1.1 X.1.2.1 dX7_accesses_156 (lv_at hl 1 rfl) ?_
      refine sx_cvV (As := [.int (nI (t)), .int (nI (43 + 12 * c))]) (rest := []) X (mX7_reads l (t := t) (c := c) (by omega) (by omega) hok h91 h92) gX7_accesses_X7_reads rfl yv_X7_reads ⟨Nat.le_of_ble_eq_true rfl, Nat.le_of_ble_eq_true rfl⟩ h91 (by decide) rfl rfl hl.1 rfl (Nat.le_of_ble_eq_true rfl) dX7_accesses_158 ⟨Nat.le_of_ble_eq_true rfl, Nat.le_of_ble_eq_true rfl⟩ hs rfl hP (fun F3 H3 l3 hp hP => ?_)
      obtain ⟨e3, o3⟩ := hp
      obtain ⟨w3, hw3⟩ : ∃ z, z = readF w (t) c := ⟨_, rfl⟩
      rw [← hw3] at e3
      have h92 : F3 (92) = rI G (4358) (w3) := e3
      have h91 := (o3 (91) (by decide)).trans h91
      have hO : ∀ j, j ≠ 92 → F3 j = F j := fun j hj => (o3 j (by omega)).trans (hO j hj)
      rw [hQ]
      exact sx_vret X rfl hs rfl hP dX7_accesses_161 (⟨h92.trans (by rw [hw3]; unfold accF firstF; rw [cif_t (show (0 : Nat) = 0 from rfl), cif_f (fun q => q.1 c18)]), hO⟩)
    · refine lv_aload_n X.1.1 X.1.2.1 dX7_accesses_21 rfl (lv_at hl 2 rfl) ?_
      refine sx_get X hP in_X7_accesses_X7 h91 (by decide) rfl 0 (by decide) lk_X7_accesses_fieldLink_RX7_7_RaceWatchModel_w_I rfl dX7_accesses_22 ?_
      refine lv_iload X.1.1 X.1.2.1 dX7_accesses_25 (lv_at hl 1 rfl) ?_
      refine lv_bipush (v := nI 10) X.1.1 X.1.2.1 dX7_accesses_27 (by decide) ?_
      refine sx_addN X (53 + 12 * c) (by omega) dX7_accesses_29 ?_
      refine sx_ald X hP h92 (by decide) (53 + 12 * c) (by omega) (by decide) dX7_accesses_30 ?_
      refine lv_iconst (v := (-1)) X.1.1 X.1.2.1 dX7_accesses_31 (by decide) ?_
      refine lv_icmp_ne X.1.1 X.1.2.1 (tgt := 64) dX7_accesses_32 (by decide) (fun c32 => ?_) (fun c32 => ?_)
      · refine lv_iload_n X.1.1 X.1.2.1 dX7_accesses_64 rfl (lv_at hl 5 rfl) ?_
        refine sx_if_eq X (by decide) (tgt := 154) dX7_accesses_65 (by decide) (fun _ => ?_) (fun h => absurd h (by decide))
        refine lv_aload_n X.1.1 X.1.2.1 dX7_accesses_154 rfl (lv_at hl 2 rfl) ?_
        refine lv_iload_n X.1.1 X.1.2.1 dX7_accesses_155 rfl (lv_at hl 3 rfl) ?_
        refine lv_iload X.1.1 X.1.2.1 dX7_accesses_156 (lv_at hl 1 rfl) ?_
        refine sx_cvV (As := [.int (nI (t)), .int (nI (43 + 12 * c))]) (rest := []) X (mX7_reads l (t := t) (c := c) (by omega) (by omega) hok h91 h92) gX7_accesses_X7_reads rfl yv_X7_reads ⟨Nat.le_of_ble_eq_true rfl, Nat.le_of_ble_eq_true rfl⟩ h91 (by decide) rfl rfl hl.1 rfl (Nat.le_of_ble_eq_true rfl) dX7_accesses_158 ⟨Nat.le_of_ble_eq_true rfl, Nat.le_of_ble_eq_true rfl⟩ hs rfl hP (fun F4 H4 l4 hp hP => ?_)
        obtain ⟨e4, o4⟩ := hp
        obtain ⟨w4, hw4⟩ : ∃ z, z = readF w (t) c := ⟨_, rfl⟩
        rw [← hw4] at e4
        have h92 : F4 (92) = rI G (4358) (w4) := e4
        have h91 := (o4 (91) (by decide)).trans h91
        have hO : ∀ j, j ≠ 92 → F4 j = F j := fun j hj => (o4 j (by omega)).trans (hO j hj)
        rw [hQ]
        exact sx_vret X rfl hs rfl hP dX7_accesses_161 (⟨h92.trans (by rw [hw4]; unfold accF firstF; rw [cif_t (show (0 : Nat) = 0 from rfl), cif_f (fun q => c32 q.2)]), hO⟩)
      · refine lv_aload_n X.1.1 X.1.2.1 dX7_accesses_35 rfl (lv_at hl 2 rfl) ?_
        refine sx_get X hP in_X7_accesses_X7 h91 (by decide) rfl 0 (by decide) lk_X7_accesses_fieldLink_RX7_7_RaceWatchModel_w_I rfl dX7_accesses_36 ?_
        refine lv_iload X.1.1 X.1.2.1 dX7_accesses_39 (lv_at hl 1 rfl) ?_
        refine lv_bipush (v := nI 10) X.1.1 X.1.2.1 dX7_accesses_41 (by decide) ?_
        refine sx_addN X (53 + 12 * c) (by omega) dX7_accesses_43 ?_
        refine lv_aload_n X.1.1 X.1.2.1 dX7_accesses_44 rfl (lv_at hl 2 rfl) ?_
        refine sx_get X hP in_X7_accesses_X7 h91 (by decide) rfl 0 (by decide) lk_X7_accesses_fieldLink_RX7_7_RaceWatchModel_w_I rfl dX7_accesses_45 ?_
        refine lv_bipush (v := nI 91) X.1.1 X.1.2.1 dX7_accesses_48 (by decide) ?_
        refine sx_ald X hP h92 (by decide) (91) (by decide) (by decide) dX7_accesses_50 ?_
        refine sx_ast X hP h92 (by decide) (53 + 12 * c) (by omega) (by decide) dX7_accesses_51 (fun F5 H5 l5 e5 o5 hP => ?_)
        obtain ⟨w5, hw5⟩ : ∃ z, z = upd w (53 + 12 * c) (w 91) := ⟨_, rfl⟩
        rw [← hw5] at e5
        have h92 : F5 (92) = rI G (4358) (w5) := e5
        have h91 := (o5 (91) (by decide)).trans h91
        have hO : ∀ j, j ≠ 92 → F5 j = F j := fun j hj => (o5 j (by omega)).trans (hO j hj)
        refine lv_aload_n X.1.1 X.1.2.1 dX7_accesses_52 rfl (lv_at hl 2 rfl) ?_
        refine sx_get X hP in_X7_accesses_X7 h91 (by decide) rfl 0 (by decide) lk_X7_accesses_fieldLink_RX7_7_RaceWatchModel_w_I rfl dX7_accesses_53 ?_
        refine lv_iload X.1.1 X.1.2.1 dX7_accesses_56 (lv_at hl 1 rfl) ?_
        refine lv_bipush (v := nI 11) X.1.1 X.1.2.1 dX7_accesses_58 (by decide) ?_
        refine sx_addN X (54 + 12 * c) (by omega) dX7_accesses_60 ?_
        refine lv_iload X.1.1 X.1.2.1 dX7_accesses_61 (lv_at hl 0 rfl) ?_
        refine sx_ast X hP h92 (by decide) (54 + 12 * c) (by omega) (by decide) dX7_accesses_63 (fun F6 H6 l6 e6 o6 hP => ?_)
        obtain ⟨w6, hw6⟩ : ∃ z, z = upd w5 (54 + 12 * c) (kindF w (t) (c) (0)) := ⟨_, rfl⟩
        rw [← hw6] at e6
        have h92 : F6 (92) = rI G (4358) (w6) := e6
        have h91 := (o6 (91) (by decide)).trans h91
        have hO : ∀ j, j ≠ 92 → F6 j = F j := fun j hj => (o6 j (by omega)).trans (hO j hj)
        refine lv_iload_n X.1.1 X.1.2.1 dX7_accesses_64 rfl (lv_at hl 5 rfl) ?_
        refine sx_if_eq X (by decide) (tgt := 154) dX7_accesses_65 (by decide) (fun _ => ?_) (fun h => absurd h (by decide))
        refine lv_aload_n X.1.1 X.1.2.1 dX7_accesses_154 rfl (lv_at hl 2 rfl) ?_
        refine lv_iload_n X.1.1 X.1.2.1 dX7_accesses_155 rfl (lv_at hl 3 rfl) ?_
        refine lv_iload X.1.1 X.1.2.1 dX7_accesses_156 (lv_at hl 1 rfl) ?_
        refine sx_cvV (As := [.int (nI (t)), .int (nI (43 + 12 * c))]) (rest := []) X (mX7_reads l (t := t) (c := c) (by omega) (by omega) (by rw [hw6, hw5]; exact okC_upd (okC_upd (hok) (by omega) (by omega) (by omega)) (by omega) (by omega) (by omega)) h91 h92) gX7_accesses_X7_reads rfl yv_X7_reads ⟨Nat.le_of_ble_eq_true rfl, Nat.le_of_ble_eq_true rfl⟩ h91 (by decide) rfl rfl hl.1 rfl (Nat.le_of_ble_eq_true rfl) dX7_accesses_158 ⟨Nat.le_of_ble_eq_true rfl, Nat.le_of_ble_eq_true rfl⟩ hs rfl hP (fun F7 H7 l7 hp hP => ?_)
        obtain ⟨e7, o7⟩ := hp
        obtain ⟨w7, hw7⟩ : ∃ z, z = readF w6 (t) c := ⟨_, rfl⟩
        rw [← hw7] at e7
        have h92 : F7 (92) = rI G (4358) (w7) := e7
        have h91 := (o7 (91) (by decide)).trans h91
        have hO : ∀ j, j ≠ 92 → F7 j = F j := fun j hj => (o7 j (by omega)).trans (hO j hj)
        rw [hQ]
        exact sx_vret X rfl hs rfl hP dX7_accesses_161 (⟨h92.trans (by rw [hw7, hw6, hw5]; unfold accF firstF; rw [cif_t (show (0 : Nat) = 0 from rfl), cif_t ⟨c18, c32⟩]), hO⟩)
  · refine lv_iload_n X.1.1 X.1.2.1 dX7_accesses_0 rfl (lv_at hl 2 rfl) ?_
    refine sx_csI (As := [.int (nI (c))]) (rest := []) X (mX7_of l (c := c)) gX7_accesses_X7_of rfl ys_X7_of ⟨Nat.le_of_ble_eq_true rfl, Nat.le_of_ble_eq_true rfl⟩ hl.1 rfl (Nat.le_of_ble_eq_true rfl) dX7_accesses_1 ⟨Nat.le_of_ble_eq_true rfl, Nat.le_of_ble_eq_true rfl⟩ hs rfl hP (fun r8 F8 H8 l8 hp hP => ?_)
    obtain ⟨rfl, rfl⟩ := hp
    refine lv_istore (lv' := [(4, .int (nI (43 + 12 * c))), (0, rf G 91), (1, .int (nI (t))), (2, .int (nI (c))), (3, .int (nI 1))]) X.1.1 X.1.2.1 dX7_accesses_4 hl (by decide) rfl (fun ls hl => ?_)
    refine lv_aload_n X.1.1 X.1.2.1 dX7_accesses_6 rfl (lv_at hl 1 rfl) ?_
    refine lv_iload_n X.1.1 X.1.2.1 dX7_accesses_7 rfl (lv_at hl 2 rfl) ?_
    refine lv_iload_n X.1.1 X.1.2.1 dX7_accesses_8 rfl (lv_at hl 3 rfl) ?_
    refine lv_iload_n X.1.1 X.1.2.1 dX7_accesses_9 rfl (lv_at hl 4 rfl) ?_
    refine sx_cvI (As := [.int (nI (t)), .int (nI (c)), .int (nI 1)]) (rest := []) X (mX7_kindOf l (t := t) (c := c) (wr := 1) (by omega) (by omega) (by omega) hok h91 h92) gX7_accesses_X7_kindOf rfl yv_X7_kindOf ⟨Nat.le_of_ble_eq_true rfl, Nat.le_of_ble_eq_true rfl⟩ h91 (by decide) rfl rfl hl.1 rfl (Nat.le_of_ble_eq_true rfl) dX7_accesses_10 ⟨Nat.le_of_ble_eq_true rfl, Nat.le_of_ble_eq_true rfl⟩ hs rfl hP (fun r9 F9 H9 l9 hp hP => ?_)
    obtain ⟨rfl, rfl⟩ := hp
    refine lv_istore (lv' := [(5, .int (kindF w (t) (c) (1))), (4, .int (nI (43 + 12 * c))), (0, rf G 91), (1, .int (nI (t))), (2, .int (nI (c))), (3, .int (nI 1))]) X.1.1 X.1.2.1 dX7_accesses_13 hl (by decide) rfl (fun ls hl => ?_)
    refine lv_iload X.1.1 X.1.2.1 dX7_accesses_15 (lv_at hl 0 rfl) ?_
    refine lv_iconst (v := (-1)) X.1.1 X.1.2.1 dX7_accesses_17 (by decide) ?_
    refine lv_icmp_eq X.1.1 X.1.2.1 (tgt := 64) dX7_accesses_18 (by decide) (fun c18 => ?_) (fun c18 => ?_)
    · refine lv_iload_n X.1.1 X.1.2.1 dX7_accesses_64 rfl (lv_at hl 5 rfl) ?_
      refine sx_if_eq X (by decide) (tgt := 154) dX7_accesses_65 (by decide) (fun h => absurd h (by decide)) (fun _ => ?_)
      refine lv_aload_n X.1.1 X.1.2.1 dX7_accesses_68 rfl (lv_at hl 2 rfl) ?_
      refine sx_get X hP in_X7_accesses_X7 h91 (by decide) rfl 0 (by decide) lk_X7_accesses_fieldLink_RX7_7_RaceWatchModel_w_I rfl dX7_accesses_69 ?_
      refine lv_iload X.1.1 X.1.2.1 dX7_accesses_72 (lv_at hl 1 rfl) ?_
      refine lv_iconst (v := nI 0) X.1.1 X.1.2.1 dX7_accesses_74 (by decide) ?_
      refine sx_addN X (43 + 12 * c) (by omega) dX7_accesses_75 ?_
      refine lv_iload_n X.1.1 X.1.2.1 dX7_accesses_76 rfl (lv_at hl 3 rfl) ?_
      refine sx_ast X hP h92 (by decide) (43 + 12 * c) (by omega) (by decide) dX7_accesses_77 (fun F10 H10 l10 e10 o10 hP => ?_)
      obtain ⟨w10, hw10⟩ : ∃ z, z = upd w (43 + 12 * c) (nI (t)) := ⟨_, rfl⟩
      rw [← hw10] at e10
      have h92 : F10 (92) = rI G (4358) (w10) := e10
      have h91 := (o10 (91) (by decide)).trans h91
      have hO : ∀ j, j ≠ 92 → F10 j = F j := fun j hj => (o10 j (by omega)).trans (hO j hj)
      refine lv_aload_n X.1.1 X.1.2.1 dX7_accesses_78 rfl (lv_at hl 2 rfl) ?_
      refine sx_get X hP in_X7_accesses_X7 h91 (by decide) rfl 0 (by decide) lk_X7_accesses_fieldLink_RX7_7_RaceWatchModel_w_I rfl dX7_accesses_79 ?_
      refine lv_iload X.1.1 X.1.2.1 dX7_accesses_82 (lv_at hl 1 rfl) ?_
      refine lv_iconst (v := nI 1) X.1.1 X.1.2.1 dX7_accesses_84 (by decide) ?_
      refine sx_addN X (44 + 12 * c) (by omega) dX7_accesses_85 ?_
      refine lv_aload_n X.1.1 X.1.2.1 dX7_accesses_86 rfl (lv_at hl 2 rfl) ?_
      refine lv_iload_n X.1.1 X.1.2.1 dX7_accesses_87 rfl (lv_at hl 3 rfl) ?_
      refine lv_iload_n X.1.1 X.1.2.1 dX7_accesses_88 rfl (lv_at hl 3 rfl) ?_
      refine sx_cvI (As := [.int (nI (t)), .int (nI (t))]) (rest := .int (nI (44 + 12 * c)) :: rf G 92 :: []) X (mX7_number l (t := t) (u := t) (by omega) (by omega) h91 h92) gX7_accesses_X7_number rfl yv_X7_number ⟨Nat.le_of_ble_eq_true rfl, Nat.le_of_ble_eq_true rfl⟩ h91 (by decide) rfl rfl hl.1 rfl (Nat.le_of_ble_eq_true rfl) dX7_accesses_89 ⟨Nat.le_of_ble_eq_true rfl, Nat.le_of_ble_eq_true rfl⟩ hs rfl hP (fun r11 F11 H11 l11 hp hP => ?_)
      obtain ⟨rfl, rfl⟩ := hp
      rw [show w10 (4 + 4 * t + t) = w10 (4 + 5 * t) from congrArg _ (by omega)]
      refine sx_ast X hP h92 (by decide) (44 + 12 * c) (by omega) (by decide) dX7_accesses_92 (fun F12 H12 l12 e12 o12 hP => ?_)
      obtain ⟨w12, hw12⟩ : ∃ z, z = upd w10 (44 + 12 * c) (w10 (4 + 5 * t)) := ⟨_, rfl⟩
      rw [← hw12] at e12
      have h92 : F12 (92) = rI G (4358) (w12) := e12
      have h91 := (o12 (91) (by decide)).trans h91
      have hO : ∀ j, j ≠ 92 → F12 j = F j := fun j hj => (o12 j (by omega)).trans (hO j hj)
      refine lv_aload_n X.1.1 X.1.2.1 dX7_accesses_93 rfl (lv_at hl 2 rfl) ?_
      refine sx_get X hP in_X7_accesses_X7 h91 (by decide) rfl 0 (by decide) lk_X7_accesses_fieldLink_RX7_7_RaceWatchModel_w_I rfl dX7_accesses_94 ?_
      refine lv_iload X.1.1 X.1.2.1 dX7_accesses_97 (lv_at hl 1 rfl) ?_
      refine lv_iconst (v := nI 2) X.1.1 X.1.2.1 dX7_accesses_99 (by decide) ?_
      refine sx_addN X (45 + 12 * c) (by omega) dX7_accesses_100 ?_
      refine lv_iconst (v := (-1)) X.1.1 X.1.2.1 dX7_accesses_101 (by decide) ?_
      refine sx_ast X hP h92 (by decide) (45 + 12 * c) (by omega) (by decide) dX7_accesses_102 (fun F13 H13 l13 e13 o13 hP => ?_)
      obtain ⟨w13, hw13⟩ : ∃ z, z = upd w12 (45 + 12 * c) (-1) := ⟨_, rfl⟩
      rw [← hw13] at e13
      have h92 : F13 (92) = rI G (4358) (w13) := e13
      have h91 := (o13 (91) (by decide)).trans h91
      have hO : ∀ j, j ≠ 92 → F13 j = F j := fun j hj => (o13 j (by omega)).trans (hO j hj)
      refine lv_aload_n X.1.1 X.1.2.1 dX7_accesses_103 rfl (lv_at hl 2 rfl) ?_
      refine sx_get X hP in_X7_accesses_X7 h91 (by decide) rfl 0 (by decide) lk_X7_accesses_fieldLink_RX7_7_RaceWatchModel_w_I rfl dX7_accesses_104 ?_
      refine lv_iload X.1.1 X.1.2.1 dX7_accesses_107 (lv_at hl 1 rfl) ?_
      refine lv_iconst (v := nI 3) X.1.1 X.1.2.1 dX7_accesses_109 (by decide) ?_
      refine sx_addN X (46 + 12 * c) (by omega) dX7_accesses_110 ?_
      refine lv_iconst (v := nI 0) X.1.1 X.1.2.1 dX7_accesses_111 (by decide) ?_
      refine sx_ast X hP h92 (by decide) (46 + 12 * c) (by omega) (by decide) dX7_accesses_112 (fun F14 H14 l14 e14 o14 hP => ?_)
      obtain ⟨w14, hw14⟩ : ∃ z, z = upd w13 (46 + 12 * c) (nI (0)) := ⟨_, rfl⟩
      rw [← hw14] at e14
      have h92 : F14 (92) = rI G (4358) (w14) := e14
      have h91 := (o14 (91) (by decide)).trans h91
      have hO : ∀ j, j ≠ 92 → F14 j = F j := fun j hj => (o14 j (by omega)).trans (hO j hj)
      refine lv_aload_n X.1.1 X.1.2.1 dX7_accesses_113 rfl (lv_at hl 2 rfl) ?_
      refine sx_get X hP in_X7_accesses_X7 h91 (by decide) rfl 0 (by decide) lk_X7_accesses_fieldLink_RX7_7_RaceWatchModel_w_I rfl dX7_accesses_114 ?_
      refine lv_iload X.1.1 X.1.2.1 dX7_accesses_117 (lv_at hl 1 rfl) ?_
      refine lv_iconst (v := nI 4) X.1.1 X.1.2.1 dX7_accesses_119 (by decide) ?_
      refine sx_addN X (47 + 12 * c) (by omega) dX7_accesses_120 ?_
      refine lv_iconst (v := nI 0) X.1.1 X.1.2.1 dX7_accesses_121 (by decide) ?_
      refine sx_ast X hP h92 (by decide) (47 + 12 * c) (by omega) (by decide) dX7_accesses_122 (fun F15 H15 l15 e15 o15 hP => ?_)
      obtain ⟨w15, hw15⟩ : ∃ z, z = upd w14 (47 + 12 * c) (nI (0)) := ⟨_, rfl⟩
      rw [← hw15] at e15
      have h92 : F15 (92) = rI G (4358) (w15) := e15
      have h91 := (o15 (91) (by decide)).trans h91
      have hO : ∀ j, j ≠ 92 → F15 j = F j := fun j hj => (o15 j (by omega)).trans (hO j hj)
      refine lv_iconst (v := nI 0) X.1.1 X.1.2.1 dX7_accesses_123 (by decide) ?_
      refine lv_istore (lv' := [(6, .int (nI 0)), (5, .int (kindF w (t) (c) (1))), (4, .int (nI (43 + 12 * c))), (0, rf G 91), (1, .int (nI (t))), (2, .int (nI (c))), (3, .int (nI 1))]) X.1.1 X.1.2.1 dX7_accesses_124 hl (by decide) rfl (fun ls hl => ?_)
      refine lv_iload X.1.1 X.1.2.1 dX7_accesses_126 (lv_at hl 0 rfl) ?_
      refine lv_iconst (v := nI 4) X.1.1 X.1.2.1 dX7_accesses_128 (by decide) ?_
      refine sx_icmp_ge X (by decide) (by decide) (tgt := 151) dX7_accesses_129 (by decide) (fun h => absurd h (by decide)) (fun _ => ?_)
      refine lv_aload_n X.1.1 X.1.2.1 dX7_accesses_132 rfl (lv_at hl 3 rfl) ?_
      refine sx_get X hP in_X7_accesses_X7 h91 (by decide) rfl 0 (by decide) lk_X7_accesses_fieldLink_RX7_7_RaceWatchModel_w_I rfl dX7_accesses_133 ?_
      refine lv_iload X.1.1 X.1.2.1 dX7_accesses_136 (lv_at hl 2 rfl) ?_
      refine lv_iconst (v := nI 5) X.1.1 X.1.2.1 dX7_accesses_138 (by decide) ?_
      refine sx_addN X (48 + 12 * c) (by omega) dX7_accesses_139 ?_
      refine lv_iload X.1.1 X.1.2.1 dX7_accesses_140 (lv_at hl 0 rfl) ?_
      refine sx_addN X (48 + 12 * c) (by omega) dX7_accesses_142 ?_
      refine lv_iconst (v := nI 0) X.1.1 X.1.2.1 dX7_accesses_143 (by decide) ?_
      refine sx_ast X hP h92 (by decide) (48 + 12 * c) (by omega) (by decide) dX7_accesses_144 (fun F16 H16 l16 e16 o16 hP => ?_)
      obtain ⟨w16, hw16⟩ : ∃ z, z = upd w15 (48 + 12 * c) (nI (0)) := ⟨_, rfl⟩
      rw [← hw16] at e16
      have h92 : F16 (92) = rI G (4358) (w16) := e16
      have h91 := (o16 (91) (by decide)).trans h91
      have hO : ∀ j, j ≠ 92 → F16 j = F j := fun j hj => (o16 j (by omega)).trans (hO j hj)
      refine lv_iinc (v := (nI (1))) (lv' := [(6, .int (nI 1)), (5, .int (kindF w (t) (c) (1))), (4, .int (nI (43 + 12 * c))), (0, rf G 91), (1, .int (nI (t))), (2, .int (nI (c))), (3, .int (nI 1))]) X.1.1 X.1.2.1 dX7_accesses_145 hl (k := 0) rfl (by decide) (by decide) rfl (fun ls hl => ?_)
      refine lv_goto (tgt := 126) X.1.1 X.1.2.1 dX7_accesses_148 (by decide) ?_
      refine lv_iload X.1.1 X.1.2.1 dX7_accesses_126 (lv_at hl 0 rfl) ?_
      refine lv_iconst (v := nI 4) X.1.1 X.1.2.1 dX7_accesses_128 (by decide) ?_
      refine sx_icmp_ge X (by decide) (by decide) (tgt := 151) dX7_accesses_129 (by decide) (fun h => absurd h (by decide)) (fun _ => ?_)
      refine lv_aload_n X.1.1 X.1.2.1 dX7_accesses_132 rfl (lv_at hl 3 rfl) ?_
      refine sx_get X hP in_X7_accesses_X7 h91 (by decide) rfl 0 (by decide) lk_X7_accesses_fieldLink_RX7_7_RaceWatchModel_w_I rfl dX7_accesses_133 ?_
      refine lv_iload X.1.1 X.1.2.1 dX7_accesses_136 (lv_at hl 2 rfl) ?_
      refine lv_iconst (v := nI 5) X.1.1 X.1.2.1 dX7_accesses_138 (by decide) ?_
      refine sx_addN X (48 + 12 * c) (by omega) dX7_accesses_139 ?_
      refine lv_iload X.1.1 X.1.2.1 dX7_accesses_140 (lv_at hl 0 rfl) ?_
      refine sx_addN X (49 + 12 * c) (by omega) dX7_accesses_142 ?_
      refine lv_iconst (v := nI 0) X.1.1 X.1.2.1 dX7_accesses_143 (by decide) ?_
      refine sx_ast X hP h92 (by decide) (49 + 12 * c) (by omega) (by decide) dX7_accesses_144 (fun F17 H17 l17 e17 o17 hP => ?_)
      obtain ⟨w17, hw17⟩ : ∃ z, z = upd w16 (49 + 12 * c) (nI (0)) := ⟨_, rfl⟩
      rw [← hw17] at e17
      have h92 : F17 (92) = rI G (4358) (w17) := e17
      have h91 := (o17 (91) (by decide)).trans h91
      have hO : ∀ j, j ≠ 92 → F17 j = F j := fun j hj => (o17 j (by omega)).trans (hO j hj)
      refine lv_iinc (v := (nI (2))) (lv' := [(6, .int (nI 2)), (5, .int (kindF w (t) (c) (1))), (4, .int (nI (43 + 12 * c))), (0, rf G 91), (1, .int (nI (t))), (2, .int (nI (c))), (3, .int (nI 1))]) X.1.1 X.1.2.1 dX7_accesses_145 hl (k := 0) rfl (by decide) (by decide) rfl (fun ls hl => ?_)
      refine lv_goto (tgt := 126) X.1.1 X.1.2.1 dX7_accesses_148 (by decide) ?_
      refine lv_iload X.1.1 X.1.2.1 dX7_accesses_126 (lv_at hl 0 rfl) ?_
      refine lv_iconst (v := nI 4) X.1.1 X.1.2.1 dX7_accesses_128 (by decide) ?_
      refine sx_icmp_ge X (by decide) (by decide) (tgt := 151) dX7_accesses_129 (by decide) (fun h => absurd h (by decide)) (fun _ => ?_)
      refine lv_aload_n X.1.1 X.1.2.1 dX7_accesses_132 rfl (lv_at hl 3 rfl) ?_
      refine sx_get X hP in_X7_accesses_X7 h91 (by decide) rfl 0 (by decide) lk_X7_accesses_fieldLink_RX7_7_RaceWatchModel_w_I rfl dX7_accesses_133 ?_
      refine lv_iload X.1.1 X.1.2.1 dX7_accesses_136 (lv_at hl 2 rfl) ?_
      refine lv_iconst (v := nI 5) X.1.1 X.1.2.1 dX7_accesses_138 (by decide) ?_
      refine sx_addN X (48 + 12 * c) (by omega) dX7_accesses_139 ?_
      refine lv_iload X.1.1 X.1.2.1 dX7_accesses_140 (lv_at hl 0 rfl) ?_
      refine sx_addN X (50 + 12 * c) (by omega) dX7_accesses_142 ?_
      refine lv_iconst (v := nI 0) X.1.1 X.1.2.1 dX7_accesses_143 (by decide) ?_
      refine sx_ast X hP h92 (by decide) (50 + 12 * c) (by omega) (by decide) dX7_accesses_144 (fun F18 H18 l18 e18 o18 hP => ?_)
      obtain ⟨w18, hw18⟩ : ∃ z, z = upd w17 (50 + 12 * c) (nI (0)) := ⟨_, rfl⟩
      rw [← hw18] at e18
      have h92 : F18 (92) = rI G (4358) (w18) := e18
      have h91 := (o18 (91) (by decide)).trans h91
      have hO : ∀ j, j ≠ 92 → F18 j = F j := fun j hj => (o18 j (by omega)).trans (hO j hj)
      refine lv_iinc (v := (nI (3))) (lv' := [(6, .int (nI 3)), (5, .int (kindF w (t) (c) (1))), (4, .int (nI (43 + 12 * c))), (0, rf G 91), (1, .int (nI (t))), (2, .int (nI (c))), (3, .int (nI 1))]) X.1.1 X.1.2.1 dX7_accesses_145 hl (k := 0) rfl (by decide) (by decide) rfl (fun ls hl => ?_)
      refine lv_goto (tgt := 126) X.1.1 X.1.2.1 dX7_accesses_148 (by decide) ?_
      refine lv_iload X.1.1 X.1.2.1 dX7_accesses_126 (lv_at hl 0 rfl) ?_
      refine lv_iconst (v := nI 4) X.1.1 X.1.2.1 dX7_accesses_128 (by decide) ?_
      refine sx_icmp_ge X (by decide) (by decide) (tgt := 151) dX7_accesses_129 (by decide) (fun h => absurd h (by decide)) (fun _ => ?_)
      refine lv_aload_n X.1.1 X.1.2.1 dX7_accesses_132 rfl (lv_at hl 3 rfl) ?_
      refine sx_get X hP in_X7_accesses_X7 h91 (by decide) rfl 0 (by decide) lk_X7_accesses_fieldLink_RX7_7_RaceWatchModel_w_I rfl dX7_accesses_133 ?_
      refine lv_iload X.1.1 X.1.2.1 dX7_accesses_136 (lv_at hl 2 rfl) ?_
      refine lv_iconst (v := nI 5) X.1.1 X.1.2.1 dX7_accesses_138 (by decide) ?_
      refine sx_addN X (48 + 12 * c) (by omega) dX7_accesses_139 ?_
      refine lv_iload X.1.1 X.1.2.1 dX7_accesses_140 (lv_at hl 0 rfl) ?_
      refine sx_addN X (51 + 12 * c) (by omega) dX7_accesses_142 ?_
      refine lv_iconst (v := nI 0) X.1.1 X.1.2.1 dX7_accesses_143 (by decide) ?_
      refine sx_ast X hP h92 (by decide) (51 + 12 * c) (by omega) (by decide) dX7_accesses_144 (fun F19 H19 l19 e19 o19 hP => ?_)
      obtain ⟨w19, hw19⟩ : ∃ z, z = upd w18 (51 + 12 * c) (nI (0)) := ⟨_, rfl⟩
      rw [← hw19] at e19
      have h92 : F19 (92) = rI G (4358) (w19) := e19
      have h91 := (o19 (91) (by decide)).trans h91
      have hO : ∀ j, j ≠ 92 → F19 j = F j := fun j hj => (o19 j (by omega)).trans (hO j hj)
      refine lv_iinc (v := (nI (4))) (lv' := [(6, .int (nI 4)), (5, .int (kindF w (t) (c) (1))), (4, .int (nI (43 + 12 * c))), (0, rf G 91), (1, .int (nI (t))), (2, .int (nI (c))), (3, .int (nI 1))]) X.1.1 X.1.2.1 dX7_accesses_145 hl (k := 0) rfl (by decide) (by decide) rfl (fun ls hl => ?_)
      refine lv_goto (tgt := 126) X.1.1 X.1.2.1 dX7_accesses_148 (by decide) ?_
      refine lv_iload X.1.1 X.1.2.1 dX7_accesses_126 (lv_at hl 0 rfl) ?_
      refine lv_iconst (v := nI 4) X.1.1 X.1.2.1 dX7_accesses_128 (by decide) ?_
      refine sx_icmp_ge X (by decide) (by decide) (tgt := 151) dX7_accesses_129 (by decide) (fun _ => ?_) (fun h => absurd h (by decide))
      refine lv_goto (tgt := 161) X.1.1 X.1.2.1 dX7_accesses_151 (by decide) ?_
      rw [hQ]
      exact sx_vret X rfl hs rfl hP dX7_accesses_161 (⟨h92.trans (by rw [hw19, hw18, hw17, hw16, hw15, hw14, hw13, hw12, hw10]; unfold accF firstF; rw [cif_f (show ¬ (1 : Nat) = 0 by decide), cif_f (fun q => q.1 c18)]; rfl), hO⟩)
    · refine lv_aload_n X.1.1 X.1.2.1 dX7_accesses_21 rfl (lv_at hl 2 rfl) ?_
      refine sx_get X hP in_X7_accesses_X7 h91 (by decide) rfl 0 (by decide) lk_X7_accesses_fieldLink_RX7_7_RaceWatchModel_w_I rfl dX7_accesses_22 ?_
      refine lv_iload X.1.1 X.1.2.1 dX7_accesses_25 (lv_at hl 1 rfl) ?_
      refine lv_bipush (v := nI 10) X.1.1 X.1.2.1 dX7_accesses_27 (by decide) ?_
      refine sx_addN X (53 + 12 * c) (by omega) dX7_accesses_29 ?_
      refine sx_ald X hP h92 (by decide) (53 + 12 * c) (by omega) (by decide) dX7_accesses_30 ?_
      refine lv_iconst (v := (-1)) X.1.1 X.1.2.1 dX7_accesses_31 (by decide) ?_
      refine lv_icmp_ne X.1.1 X.1.2.1 (tgt := 64) dX7_accesses_32 (by decide) (fun c32 => ?_) (fun c32 => ?_)
      · refine lv_iload_n X.1.1 X.1.2.1 dX7_accesses_64 rfl (lv_at hl 5 rfl) ?_
        refine sx_if_eq X (by decide) (tgt := 154) dX7_accesses_65 (by decide) (fun h => absurd h (by decide)) (fun _ => ?_)
        refine lv_aload_n X.1.1 X.1.2.1 dX7_accesses_68 rfl (lv_at hl 2 rfl) ?_
        refine sx_get X hP in_X7_accesses_X7 h91 (by decide) rfl 0 (by decide) lk_X7_accesses_fieldLink_RX7_7_RaceWatchModel_w_I rfl dX7_accesses_69 ?_
        refine lv_iload X.1.1 X.1.2.1 dX7_accesses_72 (lv_at hl 1 rfl) ?_
        refine lv_iconst (v := nI 0) X.1.1 X.1.2.1 dX7_accesses_74 (by decide) ?_
        refine sx_addN X (43 + 12 * c) (by omega) dX7_accesses_75 ?_
        refine lv_iload_n X.1.1 X.1.2.1 dX7_accesses_76 rfl (lv_at hl 3 rfl) ?_
        refine sx_ast X hP h92 (by decide) (43 + 12 * c) (by omega) (by decide) dX7_accesses_77 (fun F20 H20 l20 e20 o20 hP => ?_)
        obtain ⟨w20, hw20⟩ : ∃ z, z = upd w (43 + 12 * c) (nI (t)) := ⟨_, rfl⟩
        rw [← hw20] at e20
        have h92 : F20 (92) = rI G (4358) (w20) := e20
        have h91 := (o20 (91) (by decide)).trans h91
        have hO : ∀ j, j ≠ 92 → F20 j = F j := fun j hj => (o20 j (by omega)).trans (hO j hj)
        refine lv_aload_n X.1.1 X.1.2.1 dX7_accesses_78 rfl (lv_at hl 2 rfl) ?_
        refine sx_get X hP in_X7_accesses_X7 h91 (by decide) rfl 0 (by decide) lk_X7_accesses_fieldLink_RX7_7_RaceWatchModel_w_I rfl dX7_accesses_79 ?_
        refine lv_iload X.1.1 X.1.2.1 dX7_accesses_82 (lv_at hl 1 rfl) ?_
        refine lv_iconst (v := nI 1) X.1.1 X.1.2.1 dX7_accesses_84 (by decide) ?_
        refine sx_addN X (44 + 12 * c) (by omega) dX7_accesses_85 ?_
        refine lv_aload_n X.1.1 X.1.2.1 dX7_accesses_86 rfl (lv_at hl 2 rfl) ?_
        refine lv_iload_n X.1.1 X.1.2.1 dX7_accesses_87 rfl (lv_at hl 3 rfl) ?_
        refine lv_iload_n X.1.1 X.1.2.1 dX7_accesses_88 rfl (lv_at hl 3 rfl) ?_
        refine sx_cvI (As := [.int (nI (t)), .int (nI (t))]) (rest := .int (nI (44 + 12 * c)) :: rf G 92 :: []) X (mX7_number l (t := t) (u := t) (by omega) (by omega) h91 h92) gX7_accesses_X7_number rfl yv_X7_number ⟨Nat.le_of_ble_eq_true rfl, Nat.le_of_ble_eq_true rfl⟩ h91 (by decide) rfl rfl hl.1 rfl (Nat.le_of_ble_eq_true rfl) dX7_accesses_89 ⟨Nat.le_of_ble_eq_true rfl, Nat.le_of_ble_eq_true rfl⟩ hs rfl hP (fun r21 F21 H21 l21 hp hP => ?_)
        obtain ⟨rfl, rfl⟩ := hp
        rw [show w20 (4 + 4 * t + t) = w20 (4 + 5 * t) from congrArg _ (by omega)]
        refine sx_ast X hP h92 (by decide) (44 + 12 * c) (by omega) (by decide) dX7_accesses_92 (fun F22 H22 l22 e22 o22 hP => ?_)
        obtain ⟨w22, hw22⟩ : ∃ z, z = upd w20 (44 + 12 * c) (w20 (4 + 5 * t)) := ⟨_, rfl⟩
        rw [← hw22] at e22
        have h92 : F22 (92) = rI G (4358) (w22) := e22
        have h91 := (o22 (91) (by decide)).trans h91
        have hO : ∀ j, j ≠ 92 → F22 j = F j := fun j hj => (o22 j (by omega)).trans (hO j hj)
        refine lv_aload_n X.1.1 X.1.2.1 dX7_accesses_93 rfl (lv_at hl 2 rfl) ?_
        refine sx_get X hP in_X7_accesses_X7 h91 (by decide) rfl 0 (by decide) lk_X7_accesses_fieldLink_RX7_7_RaceWatchModel_w_I rfl dX7_accesses_94 ?_
        refine lv_iload X.1.1 X.1.2.1 dX7_accesses_97 (lv_at hl 1 rfl) ?_
        refine lv_iconst (v := nI 2) X.1.1 X.1.2.1 dX7_accesses_99 (by decide) ?_
        refine sx_addN X (45 + 12 * c) (by omega) dX7_accesses_100 ?_
        refine lv_iconst (v := (-1)) X.1.1 X.1.2.1 dX7_accesses_101 (by decide) ?_
        refine sx_ast X hP h92 (by decide) (45 + 12 * c) (by omega) (by decide) dX7_accesses_102 (fun F23 H23 l23 e23 o23 hP => ?_)
        obtain ⟨w23, hw23⟩ : ∃ z, z = upd w22 (45 + 12 * c) (-1) := ⟨_, rfl⟩
        rw [← hw23] at e23
        have h92 : F23 (92) = rI G (4358) (w23) := e23
        have h91 := (o23 (91) (by decide)).trans h91
        have hO : ∀ j, j ≠ 92 → F23 j = F j := fun j hj => (o23 j (by omega)).trans (hO j hj)
        refine lv_aload_n X.1.1 X.1.2.1 dX7_accesses_103 rfl (lv_at hl 2 rfl) ?_
        refine sx_get X hP in_X7_accesses_X7 h91 (by decide) rfl 0 (by decide) lk_X7_accesses_fieldLink_RX7_7_RaceWatchModel_w_I rfl dX7_accesses_104 ?_
        refine lv_iload X.1.1 X.1.2.1 dX7_accesses_107 (lv_at hl 1 rfl) ?_
        refine lv_iconst (v := nI 3) X.1.1 X.1.2.1 dX7_accesses_109 (by decide) ?_
        refine sx_addN X (46 + 12 * c) (by omega) dX7_accesses_110 ?_
        refine lv_iconst (v := nI 0) X.1.1 X.1.2.1 dX7_accesses_111 (by decide) ?_
        refine sx_ast X hP h92 (by decide) (46 + 12 * c) (by omega) (by decide) dX7_accesses_112 (fun F24 H24 l24 e24 o24 hP => ?_)
        obtain ⟨w24, hw24⟩ : ∃ z, z = upd w23 (46 + 12 * c) (nI (0)) := ⟨_, rfl⟩
        rw [← hw24] at e24
        have h92 : F24 (92) = rI G (4358) (w24) := e24
        have h91 := (o24 (91) (by decide)).trans h91
        have hO : ∀ j, j ≠ 92 → F24 j = F j := fun j hj => (o24 j (by omega)).trans (hO j hj)
        refine lv_aload_n X.1.1 X.1.2.1 dX7_accesses_113 rfl (lv_at hl 2 rfl) ?_
        refine sx_get X hP in_X7_accesses_X7 h91 (by decide) rfl 0 (by decide) lk_X7_accesses_fieldLink_RX7_7_RaceWatchModel_w_I rfl dX7_accesses_114 ?_
        refine lv_iload X.1.1 X.1.2.1 dX7_accesses_117 (lv_at hl 1 rfl) ?_
        refine lv_iconst (v := nI 4) X.1.1 X.1.2.1 dX7_accesses_119 (by decide) ?_
        refine sx_addN X (47 + 12 * c) (by omega) dX7_accesses_120 ?_
        refine lv_iconst (v := nI 0) X.1.1 X.1.2.1 dX7_accesses_121 (by decide) ?_
        refine sx_ast X hP h92 (by decide) (47 + 12 * c) (by omega) (by decide) dX7_accesses_122 (fun F25 H25 l25 e25 o25 hP => ?_)
        obtain ⟨w25, hw25⟩ : ∃ z, z = upd w24 (47 + 12 * c) (nI (0)) := ⟨_, rfl⟩
        rw [← hw25] at e25
        have h92 : F25 (92) = rI G (4358) (w25) := e25
        have h91 := (o25 (91) (by decide)).trans h91
        have hO : ∀ j, j ≠ 92 → F25 j = F j := fun j hj => (o25 j (by omega)).trans (hO j hj)
        refine lv_iconst (v := nI 0) X.1.1 X.1.2.1 dX7_accesses_123 (by decide) ?_
        refine lv_istore (lv' := [(6, .int (nI 0)), (5, .int (kindF w (t) (c) (1))), (4, .int (nI (43 + 12 * c))), (0, rf G 91), (1, .int (nI (t))), (2, .int (nI (c))), (3, .int (nI 1))]) X.1.1 X.1.2.1 dX7_accesses_124 hl (by decide) rfl (fun ls hl => ?_)
        refine lv_iload X.1.1 X.1.2.1 dX7_accesses_126 (lv_at hl 0 rfl) ?_
        refine lv_iconst (v := nI 4) X.1.1 X.1.2.1 dX7_accesses_128 (by decide) ?_
        refine sx_icmp_ge X (by decide) (by decide) (tgt := 151) dX7_accesses_129 (by decide) (fun h => absurd h (by decide)) (fun _ => ?_)
        refine lv_aload_n X.1.1 X.1.2.1 dX7_accesses_132 rfl (lv_at hl 3 rfl) ?_
        refine sx_get X hP in_X7_accesses_X7 h91 (by decide) rfl 0 (by decide) lk_X7_accesses_fieldLink_RX7_7_RaceWatchModel_w_I rfl dX7_accesses_133 ?_
        refine lv_iload X.1.1 X.1.2.1 dX7_accesses_136 (lv_at hl 2 rfl) ?_
        refine lv_iconst (v := nI 5) X.1.1 X.1.2.1 dX7_accesses_138 (by decide) ?_
        refine sx_addN X (48 + 12 * c) (by omega) dX7_accesses_139 ?_
        refine lv_iload X.1.1 X.1.2.1 dX7_accesses_140 (lv_at hl 0 rfl) ?_
        refine sx_addN X (48 + 12 * c) (by omega) dX7_accesses_142 ?_
        refine lv_iconst (v := nI 0) X.1.1 X.1.2.1 dX7_accesses_143 (by decide) ?_
        refine sx_ast X hP h92 (by decide) (48 + 12 * c) (by omega) (by decide) dX7_accesses_144 (fun F26 H26 l26 e26 o26 hP => ?_)
        obtain ⟨w26, hw26⟩ : ∃ z, z = upd w25 (48 + 12 * c) (nI (0)) := ⟨_, rfl⟩
        rw [← hw26] at e26
        have h92 : F26 (92) = rI G (4358) (w26) := e26
        have h91 := (o26 (91) (by decide)).trans h91
        have hO : ∀ j, j ≠ 92 → F26 j = F j := fun j hj => (o26 j (by omega)).trans (hO j hj)
        refine lv_iinc (v := (nI (1))) (lv' := [(6, .int (nI 1)), (5, .int (kindF w (t) (c) (1))), (4, .int (nI (43 + 12 * c))), (0, rf G 91), (1, .int (nI (t))), (2, .int (nI (c))), (3, .int (nI 1))]) X.1.1 X.1.2.1 dX7_accesses_145 hl (k := 0) rfl (by decide) (by decide) rfl (fun ls hl => ?_)
        refine lv_goto (tgt := 126) X.1.1 X.1.2.1 dX7_accesses_148 (by decide) ?_
        refine lv_iload X.1.1 X.1.2.1 dX7_accesses_126 (lv_at hl 0 rfl) ?_
        refine lv_iconst (v := nI 4) X.1.1 X.1.2.1 dX7_accesses_128 (by decide) ?_
        refine sx_icmp_ge X (by decide) (by decide) (tgt := 151) dX7_accesses_129 (by decide) (fun h => absurd h (by decide)) (fun _ => ?_)
        refine lv_aload_n X.1.1 X.1.2.1 dX7_accesses_132 rfl (lv_at hl 3 rfl) ?_
        refine sx_get X hP in_X7_accesses_X7 h91 (by decide) rfl 0 (by decide) lk_X7_accesses_fieldLink_RX7_7_RaceWatchModel_w_I rfl dX7_accesses_133 ?_
        refine lv_iload X.1.1 X.1.2.1 dX7_accesses_136 (lv_at hl 2 rfl) ?_
        refine lv_iconst (v := nI 5) X.1.1 X.1.2.1 dX7_accesses_138 (by decide) ?_
        refine sx_addN X (48 + 12 * c) (by omega) dX7_accesses_139 ?_
        refine lv_iload X.1.1 X.1.2.1 dX7_accesses_140 (lv_at hl 0 rfl) ?_
        refine sx_addN X (49 + 12 * c) (by omega) dX7_accesses_142 ?_
        refine lv_iconst (v := nI 0) X.1.1 X.1.2.1 dX7_accesses_143 (by decide) ?_
        refine sx_ast X hP h92 (by decide) (49 + 12 * c) (by omega) (by decide) dX7_accesses_144 (fun F27 H27 l27 e27 o27 hP => ?_)
        obtain ⟨w27, hw27⟩ : ∃ z, z = upd w26 (49 + 12 * c) (nI (0)) := ⟨_, rfl⟩
        rw [← hw27] at e27
        have h92 : F27 (92) = rI G (4358) (w27) := e27
        have h91 := (o27 (91) (by decide)).trans h91
        have hO : ∀ j, j ≠ 92 → F27 j = F j := fun j hj => (o27 j (by omega)).trans (hO j hj)
        refine lv_iinc (v := (nI (2))) (lv' := [(6, .int (nI 2)), (5, .int (kindF w (t) (c) (1))), (4, .int (nI (43 + 12 * c))), (0, rf G 91), (1, .int (nI (t))), (2, .int (nI (c))), (3, .int (nI 1))]) X.1.1 X.1.2.1 dX7_accesses_145 hl (k := 0) rfl (by decide) (by decide) rfl (fun ls hl => ?_)
        refine lv_goto (tgt := 126) X.1.1 X.1.2.1 dX7_accesses_148 (by decide) ?_
        refine lv_iload X.1.1 X.1.2.1 dX7_accesses_126 (lv_at hl 0 rfl) ?_
        refine lv_iconst (v := nI 4) X.1.1 X.1.2.1 dX7_accesses_128 (by decide) ?_
        refine sx_icmp_ge X (by decide) (by decide) (tgt := 151) dX7_accesses_129 (by decide) (fun h => absurd h (by decide)) (fun _ => ?_)
        refine lv_aload_n X.1.1 X.1.2.1 dX7_accesses_132 rfl (lv_at hl 3 rfl) ?_
        refine sx_get X hP in_X7_accesses_X7 h91 (by decide) rfl 0 (by decide) lk_X7_accesses_fieldLink_RX7_7_RaceWatchModel_w_I rfl dX7_accesses_133 ?_
        refine lv_iload X.1.1 X.1.2.1 dX7_accesses_136 (lv_at hl 2 rfl) ?_
        refine lv_iconst (v := nI 5) X.1.1 X.1.2.1 dX7_accesses_138 (by decide) ?_
        refine sx_addN X (48 + 12 * c) (by omega) dX7_accesses_139 ?_
        refine lv_iload X.1.1 X.1.2.1 dX7_accesses_140 (lv_at hl 0 rfl) ?_
        refine sx_addN X (50 + 12 * c) (by omega) dX7_accesses_142 ?_
        refine lv_iconst (v := nI 0) X.1.1 X.1.2.1 dX7_accesses_143 (by decide) ?_
        refine sx_ast X hP h92 (by decide) (50 + 12 * c) (by omega) (by decide) dX7_accesses_144 (fun F28 H28 l28 e28 o28 hP => ?_)
        obtain ⟨w28, hw28⟩ : ∃ z, z = upd w27 (50 + 12 * c) (nI (0)) := ⟨_, rfl⟩
        rw [← hw28] at e28
        have h92 : F28 (92) = rI G (4358) (w28) := e28
        have h91 := (o28 (91) (by decide)).trans h91
        have hO : ∀ j, j ≠ 92 → F28 j = F j := fun j hj => (o28 j (by omega)).trans (hO j hj)
        refine lv_iinc (v := (nI (3))) (lv' := [(6, .int (nI 3)), (5, .int (kindF w (t) (c) (1))), (4, .int (nI (43 + 12 * c))), (0, rf G 91), (1, .int (nI (t))), (2, .int (nI (c))), (3, .int (nI 1))]) X.1.1 X.1.2.1 dX7_accesses_145 hl (k := 0) rfl (by decide) (by decide) rfl (fun ls hl => ?_)
        refine lv_goto (tgt := 126) X.1.1 X.1.2.1 dX7_accesses_148 (by decide) ?_
        refine lv_iload X.1.1 X.1.2.1 dX7_accesses_126 (lv_at hl 0 rfl) ?_
        refine lv_iconst (v := nI 4) X.1.1 X.1.2.1 dX7_accesses_128 (by decide) ?_
        refine sx_icmp_ge X (by decide) (by decide) (tgt := 151) dX7_accesses_129 (by decide) (fun h => absurd h (by decide)) (fun _ => ?_)
        refine lv_aload_n X.1.1 X.1.2.1 dX7_accesses_132 rfl (lv_at hl 3 rfl) ?_
        refine sx_get X hP in_X7_accesses_X7 h91 (by decide) rfl 0 (by decide) lk_X7_accesses_fieldLink_RX7_7_RaceWatchModel_w_I rfl dX7_accesses_133 ?_
        refine lv_iload X.1.1 X.1.2.1 dX7_accesses_136 (lv_at hl 2 rfl) ?_
        refine lv_iconst (v := nI 5) X.1.1 X.1.2.1 dX7_accesses_138 (by decide) ?_
        refine sx_addN X (48 + 12 * c) (by omega) dX7_accesses_139 ?_
        refine lv_iload X.1.1 X.1.2.1 dX7_accesses_140 (lv_at hl 0 rfl) ?_
        refine sx_addN X (51 + 12 * c) (by omega) dX7_accesses_142 ?_
        refine lv_iconst (v := nI 0) X.1.1 X.1.2.1 dX7_accesses_143 (by decide) ?_
        refine sx_ast X hP h92 (by decide) (51 + 12 * c) (by omega) (by decide) dX7_accesses_144 (fun F29 H29 l29 e29 o29 hP => ?_)
        obtain ⟨w29, hw29⟩ : ∃ z, z = upd w28 (51 + 12 * c) (nI (0)) := ⟨_, rfl⟩
        rw [← hw29] at e29
        have h92 : F29 (92) = rI G (4358) (w29) := e29
        have h91 := (o29 (91) (by decide)).trans h91
        have hO : ∀ j, j ≠ 92 → F29 j = F j := fun j hj => (o29 j (by omega)).trans (hO j hj)
        refine lv_iinc (v := (nI (4))) (lv' := [(6, .int (nI 4)), (5, .int (kindF w (t) (c) (1))), (4, .int (nI (43 + 12 * c))), (0, rf G 91), (1, .int (nI (t))), (2, .int (nI (c))), (3, .int (nI 1))]) X.1.1 X.1.2.1 dX7_accesses_145 hl (k := 0) rfl (by decide) (by decide) rfl (fun ls hl => ?_)
        refine lv_goto (tgt := 126) X.1.1 X.1.2.1 dX7_accesses_148 (by decide) ?_
        refine lv_iload X.1.1 X.1.2.1 dX7_accesses_126 (lv_at hl 0 rfl) ?_
        refine lv_iconst (v := nI 4) X.1.1 X.1.2.1 dX7_accesses_128 (by decide) ?_
        refine sx_icmp_ge X (by decide) (by decide) (tgt := 151) dX7_accesses_129 (by decide) (fun _ => ?_) (fun h => absurd h (by decide))
        refine lv_goto (tgt := 161) X.1.1 X.1.2.1 dX7_accesses_151 (by decide) ?_
        rw [hQ]
        exact sx_vret X rfl hs rfl hP dX7_accesses_161 (⟨h92.trans (by rw [hw29, hw28, hw27, hw26, hw25, hw24, hw23, hw22, hw20]; unfold accF firstF; rw [cif_f (show ¬ (1 : Nat) = 0 by decide), cif_f (fun q => c32 q.2)]; rfl), hO⟩)
      · refine lv_aload_n X.1.1 X.1.2.1 dX7_accesses_35 rfl (lv_at hl 2 rfl) ?_
        refine sx_get X hP in_X7_accesses_X7 h91 (by decide) rfl 0 (by decide) lk_X7_accesses_fieldLink_RX7_7_RaceWatchModel_w_I rfl dX7_accesses_36 ?_
        refine lv_iload X.1.1 X.1.2.1 dX7_accesses_39 (lv_at hl 1 rfl) ?_
        refine lv_bipush (v := nI 10) X.1.1 X.1.2.1 dX7_accesses_41 (by decide) ?_
        refine sx_addN X (53 + 12 * c) (by omega) dX7_accesses_43 ?_
        refine lv_aload_n X.1.1 X.1.2.1 dX7_accesses_44 rfl (lv_at hl 2 rfl) ?_
        refine sx_get X hP in_X7_accesses_X7 h91 (by decide) rfl 0 (by decide) lk_X7_accesses_fieldLink_RX7_7_RaceWatchModel_w_I rfl dX7_accesses_45 ?_
        refine lv_bipush (v := nI 91) X.1.1 X.1.2.1 dX7_accesses_48 (by decide) ?_
        refine sx_ald X hP h92 (by decide) (91) (by decide) (by decide) dX7_accesses_50 ?_
        refine sx_ast X hP h92 (by decide) (53 + 12 * c) (by omega) (by decide) dX7_accesses_51 (fun F30 H30 l30 e30 o30 hP => ?_)
        obtain ⟨w30, hw30⟩ : ∃ z, z = upd w (53 + 12 * c) (w 91) := ⟨_, rfl⟩
        rw [← hw30] at e30
        have h92 : F30 (92) = rI G (4358) (w30) := e30
        have h91 := (o30 (91) (by decide)).trans h91
        have hO : ∀ j, j ≠ 92 → F30 j = F j := fun j hj => (o30 j (by omega)).trans (hO j hj)
        refine lv_aload_n X.1.1 X.1.2.1 dX7_accesses_52 rfl (lv_at hl 2 rfl) ?_
        refine sx_get X hP in_X7_accesses_X7 h91 (by decide) rfl 0 (by decide) lk_X7_accesses_fieldLink_RX7_7_RaceWatchModel_w_I rfl dX7_accesses_53 ?_
        refine lv_iload X.1.1 X.1.2.1 dX7_accesses_56 (lv_at hl 1 rfl) ?_
        refine lv_bipush (v := nI 11) X.1.1 X.1.2.1 dX7_accesses_58 (by decide) ?_
        refine sx_addN X (54 + 12 * c) (by omega) dX7_accesses_60 ?_
        refine lv_iload X.1.1 X.1.2.1 dX7_accesses_61 (lv_at hl 0 rfl) ?_
        refine sx_ast X hP h92 (by decide) (54 + 12 * c) (by omega) (by decide) dX7_accesses_63 (fun F31 H31 l31 e31 o31 hP => ?_)
        obtain ⟨w31, hw31⟩ : ∃ z, z = upd w30 (54 + 12 * c) (kindF w (t) (c) (1)) := ⟨_, rfl⟩
        rw [← hw31] at e31
        have h92 : F31 (92) = rI G (4358) (w31) := e31
        have h91 := (o31 (91) (by decide)).trans h91
        have hO : ∀ j, j ≠ 92 → F31 j = F j := fun j hj => (o31 j (by omega)).trans (hO j hj)
        refine lv_iload_n X.1.1 X.1.2.1 dX7_accesses_64 rfl (lv_at hl 5 rfl) ?_
        refine sx_if_eq X (by decide) (tgt := 154) dX7_accesses_65 (by decide) (fun h => absurd h (by decide)) (fun _ => ?_)
        refine lv_aload_n X.1.1 X.1.2.1 dX7_accesses_68 rfl (lv_at hl 2 rfl) ?_
        refine sx_get X hP in_X7_accesses_X7 h91 (by decide) rfl 0 (by decide) lk_X7_accesses_fieldLink_RX7_7_RaceWatchModel_w_I rfl dX7_accesses_69 ?_
        refine lv_iload X.1.1 X.1.2.1 dX7_accesses_72 (lv_at hl 1 rfl) ?_
        refine lv_iconst (v := nI 0) X.1.1 X.1.2.1 dX7_accesses_74 (by decide) ?_
        refine sx_addN X (43 + 12 * c) (by omega) dX7_accesses_75 ?_
        refine lv_iload_n X.1.1 X.1.2.1 dX7_accesses_76 rfl (lv_at hl 3 rfl) ?_
        refine sx_ast X hP h92 (by decide) (43 + 12 * c) (by omega) (by decide) dX7_accesses_77 (fun F32 H32 l32 e32 o32 hP => ?_)
        obtain ⟨w32, hw32⟩ : ∃ z, z = upd w31 (43 + 12 * c) (nI (t)) := ⟨_, rfl⟩
        rw [← hw32] at e32
        have h92 : F32 (92) = rI G (4358) (w32) := e32
        have h91 := (o32 (91) (by decide)).trans h91
        have hO : ∀ j, j ≠ 92 → F32 j = F j := fun j hj => (o32 j (by omega)).trans (hO j hj)
        refine lv_aload_n X.1.1 X.1.2.1 dX7_accesses_78 rfl (lv_at hl 2 rfl) ?_
        refine sx_get X hP in_X7_accesses_X7 h91 (by decide) rfl 0 (by decide) lk_X7_accesses_fieldLink_RX7_7_RaceWatchModel_w_I rfl dX7_accesses_79 ?_
        refine lv_iload X.1.1 X.1.2.1 dX7_accesses_82 (lv_at hl 1 rfl) ?_
        refine lv_iconst (v := nI 1) X.1.1 X.1.2.1 dX7_accesses_84 (by decide) ?_
        refine sx_addN X (44 + 12 * c) (by omega) dX7_accesses_85 ?_
        refine lv_aload_n X.1.1 X.1.2.1 dX7_accesses_86 rfl (lv_at hl 2 rfl) ?_
        refine lv_iload_n X.1.1 X.1.2.1 dX7_accesses_87 rfl (lv_at hl 3 rfl) ?_
        refine lv_iload_n X.1.1 X.1.2.1 dX7_accesses_88 rfl (lv_at hl 3 rfl) ?_
        refine sx_cvI (As := [.int (nI (t)), .int (nI (t))]) (rest := .int (nI (44 + 12 * c)) :: rf G 92 :: []) X (mX7_number l (t := t) (u := t) (by omega) (by omega) h91 h92) gX7_accesses_X7_number rfl yv_X7_number ⟨Nat.le_of_ble_eq_true rfl, Nat.le_of_ble_eq_true rfl⟩ h91 (by decide) rfl rfl hl.1 rfl (Nat.le_of_ble_eq_true rfl) dX7_accesses_89 ⟨Nat.le_of_ble_eq_true rfl, Nat.le_of_ble_eq_true rfl⟩ hs rfl hP (fun r33 F33 H33 l33 hp hP => ?_)
        obtain ⟨rfl, rfl⟩ := hp
        rw [show w32 (4 + 4 * t + t) = w32 (4 + 5 * t) from congrArg _ (by omega)]
        refine sx_ast X hP h92 (by decide) (44 + 12 * c) (by omega) (by decide) dX7_accesses_92 (fun F34 H34 l34 e34 o34 hP => ?_)
        obtain ⟨w34, hw34⟩ : ∃ z, z = upd w32 (44 + 12 * c) (w32 (4 + 5 * t)) := ⟨_, rfl⟩
        rw [← hw34] at e34
        have h92 : F34 (92) = rI G (4358) (w34) := e34
        have h91 := (o34 (91) (by decide)).trans h91
        have hO : ∀ j, j ≠ 92 → F34 j = F j := fun j hj => (o34 j (by omega)).trans (hO j hj)
        refine lv_aload_n X.1.1 X.1.2.1 dX7_accesses_93 rfl (lv_at hl 2 rfl) ?_
        refine sx_get X hP in_X7_accesses_X7 h91 (by decide) rfl 0 (by decide) lk_X7_accesses_fieldLink_RX7_7_RaceWatchModel_w_I rfl dX7_accesses_94 ?_
        refine lv_iload X.1.1 X.1.2.1 dX7_accesses_97 (lv_at hl 1 rfl) ?_
        refine lv_iconst (v := nI 2) X.1.1 X.1.2.1 dX7_accesses_99 (by decide) ?_
        refine sx_addN X (45 + 12 * c) (by omega) dX7_accesses_100 ?_
        refine lv_iconst (v := (-1)) X.1.1 X.1.2.1 dX7_accesses_101 (by decide) ?_
        refine sx_ast X hP h92 (by decide) (45 + 12 * c) (by omega) (by decide) dX7_accesses_102 (fun F35 H35 l35 e35 o35 hP => ?_)
        obtain ⟨w35, hw35⟩ : ∃ z, z = upd w34 (45 + 12 * c) (-1) := ⟨_, rfl⟩
        rw [← hw35] at e35
        have h92 : F35 (92) = rI G (4358) (w35) := e35
        have h91 := (o35 (91) (by decide)).trans h91
        have hO : ∀ j, j ≠ 92 → F35 j = F j := fun j hj => (o35 j (by omega)).trans (hO j hj)
        refine lv_aload_n X.1.1 X.1.2.1 dX7_accesses_103 rfl (lv_at hl 2 rfl) ?_
        refine sx_get X hP in_X7_accesses_X7 h91 (by decide) rfl 0 (by decide) lk_X7_accesses_fieldLink_RX7_7_RaceWatchModel_w_I rfl dX7_accesses_104 ?_
        refine lv_iload X.1.1 X.1.2.1 dX7_accesses_107 (lv_at hl 1 rfl) ?_
        refine lv_iconst (v := nI 3) X.1.1 X.1.2.1 dX7_accesses_109 (by decide) ?_
        refine sx_addN X (46 + 12 * c) (by omega) dX7_accesses_110 ?_
        refine lv_iconst (v := nI 0) X.1.1 X.1.2.1 dX7_accesses_111 (by decide) ?_
        refine sx_ast X hP h92 (by decide) (46 + 12 * c) (by omega) (by decide) dX7_accesses_112 (fun F36 H36 l36 e36 o36 hP => ?_)
        obtain ⟨w36, hw36⟩ : ∃ z, z = upd w35 (46 + 12 * c) (nI (0)) := ⟨_, rfl⟩
        rw [← hw36] at e36
        have h92 : F36 (92) = rI G (4358) (w36) := e36
        have h91 := (o36 (91) (by decide)).trans h91
        have hO : ∀ j, j ≠ 92 → F36 j = F j := fun j hj => (o36 j (by omega)).trans (hO j hj)
        refine lv_aload_n X.1.1 X.1.2.1 dX7_accesses_113 rfl (lv_at hl 2 rfl) ?_
        refine sx_get X hP in_X7_accesses_X7 h91 (by decide) rfl 0 (by decide) lk_X7_accesses_fieldLink_RX7_7_RaceWatchModel_w_I rfl dX7_accesses_114 ?_
        refine lv_iload X.1.1 X.1.2.1 dX7_accesses_117 (lv_at hl 1 rfl) ?_
        refine lv_iconst (v := nI 4) X.1.1 X.1.2.1 dX7_accesses_119 (by decide) ?_
        refine sx_addN X (47 + 12 * c) (by omega) dX7_accesses_120 ?_
        refine lv_iconst (v := nI 0) X.1.1 X.1.2.1 dX7_accesses_121 (by decide) ?_
        refine sx_ast X hP h92 (by decide) (47 + 12 * c) (by omega) (by decide) dX7_accesses_122 (fun F37 H37 l37 e37 o37 hP => ?_)
        obtain ⟨w37, hw37⟩ : ∃ z, z = upd w36 (47 + 12 * c) (nI (0)) := ⟨_, rfl⟩
        rw [← hw37] at e37
        have h92 : F37 (92) = rI G (4358) (w37) := e37
        have h91 := (o37 (91) (by decide)).trans h91
        have hO : ∀ j, j ≠ 92 → F37 j = F j := fun j hj => (o37 j (by omega)).trans (hO j hj)
        refine lv_iconst (v := nI 0) X.1.1 X.1.2.1 dX7_accesses_123 (by decide) ?_
        refine lv_istore (lv' := [(6, .int (nI 0)), (5, .int (kindF w (t) (c) (1))), (4, .int (nI (43 + 12 * c))), (0, rf G 91), (1, .int (nI (t))), (2, .int (nI (c))), (3, .int (nI 1))]) X.1.1 X.1.2.1 dX7_accesses_124 hl (by decide) rfl (fun ls hl => ?_)
        refine lv_iload X.1.1 X.1.2.1 dX7_accesses_126 (lv_at hl 0 rfl) ?_
        refine lv_iconst (v := nI 4) X.1.1 X.1.2.1 dX7_accesses_128 (by decide) ?_
        refine sx_icmp_ge X (by decide) (by decide) (tgt := 151) dX7_accesses_129 (by decide) (fun h => absurd h (by decide)) (fun _ => ?_)
        refine lv_aload_n X.1.1 X.1.2.1 dX7_accesses_132 rfl (lv_at hl 3 rfl) ?_
        refine sx_get X hP in_X7_accesses_X7 h91 (by decide) rfl 0 (by decide) lk_X7_accesses_fieldLink_RX7_7_RaceWatchModel_w_I rfl dX7_accesses_133 ?_
        refine lv_iload X.1.1 X.1.2.1 dX7_accesses_136 (lv_at hl 2 rfl) ?_
        refine lv_iconst (v := nI 5) X.1.1 X.1.2.1 dX7_accesses_138 (by decide) ?_
        refine sx_addN X (48 + 12 * c) (by omega) dX7_accesses_139 ?_
        refine lv_iload X.1.1 X.1.2.1 dX7_accesses_140 (lv_at hl 0 rfl) ?_
        refine sx_addN X (48 + 12 * c) (by omega) dX7_accesses_142 ?_
        refine lv_iconst (v := nI 0) X.1.1 X.1.2.1 dX7_accesses_143 (by decide) ?_
        refine sx_ast X hP h92 (by decide) (48 + 12 * c) (by omega) (by decide) dX7_accesses_144 (fun F38 H38 l38 e38 o38 hP => ?_)
        obtain ⟨w38, hw38⟩ : ∃ z, z = upd w37 (48 + 12 * c) (nI (0)) := ⟨_, rfl⟩
        rw [← hw38] at e38
        have h92 : F38 (92) = rI G (4358) (w38) := e38
        have h91 := (o38 (91) (by decide)).trans h91
        have hO : ∀ j, j ≠ 92 → F38 j = F j := fun j hj => (o38 j (by omega)).trans (hO j hj)
        refine lv_iinc (v := (nI (1))) (lv' := [(6, .int (nI 1)), (5, .int (kindF w (t) (c) (1))), (4, .int (nI (43 + 12 * c))), (0, rf G 91), (1, .int (nI (t))), (2, .int (nI (c))), (3, .int (nI 1))]) X.1.1 X.1.2.1 dX7_accesses_145 hl (k := 0) rfl (by decide) (by decide) rfl (fun ls hl => ?_)
        refine lv_goto (tgt := 126) X.1.1 X.1.2.1 dX7_accesses_148 (by decide) ?_
        refine lv_iload X.1.1 X.1.2.1 dX7_accesses_126 (lv_at hl 0 rfl) ?_
        refine lv_iconst (v := nI 4) X.1.1 X.1.2.1 dX7_accesses_128 (by decide) ?_
        refine sx_icmp_ge X (by decide) (by decide) (tgt := 151) dX7_accesses_129 (by decide) (fun h => absurd h (by decide)) (fun _ => ?_)
        refine lv_aload_n X.1.1 X.1.2.1 dX7_accesses_132 rfl (lv_at hl 3 rfl) ?_
        refine sx_get X hP in_X7_accesses_X7 h91 (by decide) rfl 0 (by decide) lk_X7_accesses_fieldLink_RX7_7_RaceWatchModel_w_I rfl dX7_accesses_133 ?_
        refine lv_iload X.1.1 X.1.2.1 dX7_accesses_136 (lv_at hl 2 rfl) ?_
        refine lv_iconst (v := nI 5) X.1.1 X.1.2.1 dX7_accesses_138 (by decide) ?_
        refine sx_addN X (48 + 12 * c) (by omega) dX7_accesses_139 ?_
        refine lv_iload X.1.1 X.1.2.1 dX7_accesses_140 (lv_at hl 0 rfl) ?_
        refine sx_addN X (49 + 12 * c) (by omega) dX7_accesses_142 ?_
        refine lv_iconst (v := nI 0) X.1.1 X.1.2.1 dX7_accesses_143 (by decide) ?_
        refine sx_ast X hP h92 (by decide) (49 + 12 * c) (by omega) (by decide) dX7_accesses_144 (fun F39 H39 l39 e39 o39 hP => ?_)
        obtain ⟨w39, hw39⟩ : ∃ z, z = upd w38 (49 + 12 * c) (nI (0)) := ⟨_, rfl⟩
        rw [← hw39] at e39
        have h92 : F39 (92) = rI G (4358) (w39) := e39
        have h91 := (o39 (91) (by decide)).trans h91
        have hO : ∀ j, j ≠ 92 → F39 j = F j := fun j hj => (o39 j (by omega)).trans (hO j hj)
        refine lv_iinc (v := (nI (2))) (lv' := [(6, .int (nI 2)), (5, .int (kindF w (t) (c) (1))), (4, .int (nI (43 + 12 * c))), (0, rf G 91), (1, .int (nI (t))), (2, .int (nI (c))), (3, .int (nI 1))]) X.1.1 X.1.2.1 dX7_accesses_145 hl (k := 0) rfl (by decide) (by decide) rfl (fun ls hl => ?_)
        refine lv_goto (tgt := 126) X.1.1 X.1.2.1 dX7_accesses_148 (by decide) ?_
        refine lv_iload X.1.1 X.1.2.1 dX7_accesses_126 (lv_at hl 0 rfl) ?_
        refine lv_iconst (v := nI 4) X.1.1 X.1.2.1 dX7_accesses_128 (by decide) ?_
        refine sx_icmp_ge X (by decide) (by decide) (tgt := 151) dX7_accesses_129 (by decide) (fun h => absurd h (by decide)) (fun _ => ?_)
        refine lv_aload_n X.1.1 X.1.2.1 dX7_accesses_132 rfl (lv_at hl 3 rfl) ?_
        refine sx_get X hP in_X7_accesses_X7 h91 (by decide) rfl 0 (by decide) lk_X7_accesses_fieldLink_RX7_7_RaceWatchModel_w_I rfl dX7_accesses_133 ?_
        refine lv_iload X.1.1 X.1.2.1 dX7_accesses_136 (lv_at hl 2 rfl) ?_
        refine lv_iconst (v := nI 5) X.1.1 X.1.2.1 dX7_accesses_138 (by decide) ?_
        refine sx_addN X (48 + 12 * c) (by omega) dX7_accesses_139 ?_
        refine lv_iload X.1.1 X.1.2.1 dX7_accesses_140 (lv_at hl 0 rfl) ?_
        refine sx_addN X (50 + 12 * c) (by omega) dX7_accesses_142 ?_
        refine lv_iconst (v := nI 0) X.1.1 X.1.2.1 dX7_accesses_143 (by decide) ?_
        refine sx_ast X hP h92 (by decide) (50 + 12 * c) (by omega) (by decide) dX7_accesses_144 (fun F40 H40 l40 e40 o40 hP => ?_)
        obtain ⟨w40, hw40⟩ : ∃ z, z = upd w39 (50 + 12 * c) (nI (0)) := ⟨_, rfl⟩
        rw [← hw40] at e40
        have h92 : F40 (92) = rI G (4358) (w40) := e40
        have h91 := (o40 (91) (by decide)).trans h91
        have hO : ∀ j, j ≠ 92 → F40 j = F j := fun j hj => (o40 j (by omega)).trans (hO j hj)
        refine lv_iinc (v := (nI (3))) (lv' := [(6, .int (nI 3)), (5, .int (kindF w (t) (c) (1))), (4, .int (nI (43 + 12 * c))), (0, rf G 91), (1, .int (nI (t))), (2, .int (nI (c))), (3, .int (nI 1))]) X.1.1 X.1.2.1 dX7_accesses_145 hl (k := 0) rfl (by decide) (by decide) rfl (fun ls hl => ?_)
        refine lv_goto (tgt := 126) X.1.1 X.1.2.1 dX7_accesses_148 (by decide) ?_
        refine lv_iload X.1.1 X.1.2.1 dX7_accesses_126 (lv_at hl 0 rfl) ?_
        refine lv_iconst (v := nI 4) X.1.1 X.1.2.1 dX7_accesses_128 (by decide) ?_
        refine sx_icmp_ge X (by decide) (by decide) (tgt := 151) dX7_accesses_129 (by decide) (fun h => absurd h (by decide)) (fun _ => ?_)
        refine lv_aload_n X.1.1 X.1.2.1 dX7_accesses_132 rfl (lv_at hl 3 rfl) ?_
        refine sx_get X hP in_X7_accesses_X7 h91 (by decide) rfl 0 (by decide) lk_X7_accesses_fieldLink_RX7_7_RaceWatchModel_w_I rfl dX7_accesses_133 ?_
        refine lv_iload X.1.1 X.1.2.1 dX7_accesses_136 (lv_at hl 2 rfl) ?_
        refine lv_iconst (v := nI 5) X.1.1 X.1.2.1 dX7_accesses_138 (by decide) ?_
        refine sx_addN X (48 + 12 * c) (by omega) dX7_accesses_139 ?_
        refine lv_iload X.1.1 X.1.2.1 dX7_accesses_140 (lv_at hl 0 rfl) ?_
        refine sx_addN X (51 + 12 * c) (by omega) dX7_accesses_142 ?_
        refine lv_iconst (v := nI 0) X.1.1 X.1.2.1 dX7_accesses_143 (by decide) ?_
        refine sx_ast X hP h92 (by decide) (51 + 12 * c) (by omega) (by decide) dX7_accesses_144 (fun F41 H41 l41 e41 o41 hP => ?_)
        obtain ⟨w41, hw41⟩ : ∃ z, z = upd w40 (51 + 12 * c) (nI (0)) := ⟨_, rfl⟩
        rw [← hw41] at e41
        have h92 : F41 (92) = rI G (4358) (w41) := e41
        have h91 := (o41 (91) (by decide)).trans h91
        have hO : ∀ j, j ≠ 92 → F41 j = F j := fun j hj => (o41 j (by omega)).trans (hO j hj)
        refine lv_iinc (v := (nI (4))) (lv' := [(6, .int (nI 4)), (5, .int (kindF w (t) (c) (1))), (4, .int (nI (43 + 12 * c))), (0, rf G 91), (1, .int (nI (t))), (2, .int (nI (c))), (3, .int (nI 1))]) X.1.1 X.1.2.1 dX7_accesses_145 hl (k := 0) rfl (by decide) (by decide) rfl (fun ls hl => ?_)
        refine lv_goto (tgt := 126) X.1.1 X.1.2.1 dX7_accesses_148 (by decide) ?_
        refine lv_iload X.1.1 X.1.2.1 dX7_accesses_126 (lv_at hl 0 rfl) ?_
        refine lv_iconst (v := nI 4) X.1.1 X.1.2.1 dX7_accesses_128 (by decide) ?_
        refine sx_icmp_ge X (by decide) (by decide) (tgt := 151) dX7_accesses_129 (by decide) (fun _ => ?_) (fun h => absurd h (by decide))
        refine lv_goto (tgt := 161) X.1.1 X.1.2.1 dX7_accesses_151 (by decide) ?_
        rw [hQ]
        exact sx_vret X rfl hs rfl hP dX7_accesses_161 (⟨h92.trans (by rw [hw41, hw40, hw39, hw38, hw37, hw36, hw35, hw34, hw32, hw31, hw30]; unfold accF firstF; rw [cif_f (show ¬ (1 : Nat) = 0 by decide), cif_t ⟨c18, c32⟩]; rfl), hO⟩)
theorem ys_X7_comes : yX7_comes.cls ≠ "java/lang/invoke/MethodHandle" ∧ yX7_comes.cls ≠ "java/lang/invoke/VarHandle" ∧ (parseMethodDescriptor yX7_comes.desc).map (fun d => d.parameters.length) = some 3 := by decide +kernel
theorem yv_X7_comes : yX7_comes.cls = RX7 ∧ yX7_comes.cls ≠ "java/lang/invoke/MethodHandle" ∧ yX7_comes.cls ≠ "java/lang/invoke/VarHandle" ∧ (parseMethodDescriptor yX7_comes.desc).map (fun d => d.parameters.length) = some 3 := ⟨rfl, ys_X7_comes⟩
theorem in_X7_comes_X7 : ∀ w ∈ wsX70, w ∈ wsX7_comes := fun _ h => List.mem_cons_of_mem _ (List.mem_append_right _ (h))
theorem lk_X7_comes_fieldLink_RX7_7_RaceWatchModel_w_I : (.fieldLink RX7 7 "RaceWatchModel" "w" "[I" : Cond) ∈ wsX7_comes := List.mem_cons_of_mem _ (List.mem_append_left _ (List.mem_append_left _ (List.mem_of_getElem? (i := 0) rfl)))
abbrev rmX7_comes : Room := { frames := 3, cells := 0, slots := 0, locals := 76 }
set_option maxHeartbeats 4000000 in
set_option maxRecDepth 100000 in
theorem mX7_comes {G : sx_G} (l : Launch) {F : Nat → va_E} {w : Nat → Int32} {of : List Value} {n t s x : Nat} (ht : t < 4) (hs8 : s < 8) (hx4 : x < 4) (hn : n < 160) (h91n : w 91 = nI n) (hok : s < 2 → okC w x) (h91 : F (91) = ob 7 (rf G 92 :: of)) (h92 : F (92) = rI G (4358) (w)) : sx_V G l yX7_comes wsX7_comes rmX7_comes [rf G 91, .int (nI (t)), .int (nI (s)), .int (nI (x))] (97) F (97) (fun F1 => F1 92 = rI G 4358 (comeF w n t s x) ∧ ∀ j, j ≠ 92 → F1 j = F j) := by
  refine sx_enter (cc := cX7_comes) (maxL := 6) (ret := none) (own := RX7) (nm := "comes") (by decide) rfl rfl rfl (Nat.le_of_ble_eq_true rfl) ?_
  intro pp ee ss mm args below meth kc ls Q hQ X hs hP hl
  have hl : lv_has ls 6 [(0, rf G 91), (1, .int (nI (t))), (2, .int (nI (s))), (3, .int (nI (x)))] := hl
  have hO : ∀ j, j ≠ 92 → F j = F j := fun _ _ => rfl
  rcases (show s = 0 ∨ s = 1 ∨ s = 2 ∨ s = 3 ∨ s = 4 ∨ s = 5 ∨ s = 6 ∨ s = 7 by omega) with rfl | rfl | rfl | rfl | rfl | rfl | rfl | rfl
  · refine lv_iconst (v := nI 4) X.1.1 X.1.2.1 dX7_comes_0 (by decide) ?_
    refine lv_iconst (v := nI 4) X.1.1 X.1.2.1 dX7_comes_1 (by decide) ?_
    refine lv_iload_n X.1.1 X.1.2.1 dX7_comes_2 rfl (lv_at hl 1 rfl) ?_
    refine sx_mulN X (4 * t) (by omega) dX7_comes_3 ?_
    refine sx_addN X (4 + 4 * t) (by omega) dX7_comes_4 ?_
    refine lv_istore (lv' := [(4, .int (nI (4 + 4 * t))), (0, rf G 91), (1, .int (nI (t))), (2, .int (nI 0)), (3, .int (nI (x)))]) X.1.1 X.1.2.1 dX7_comes_5 hl (by decide) rfl (fun ls hl => ?_)
    refine lv_iload_n X.1.1 X.1.2.1 dX7_comes_7 rfl (lv_at hl 3 rfl) ?_
    refine lv_tableIn (off := 44) (tgt := 52) X.1.1 X.1.2.1 dX7_comes_8 (by decide) (by decide) (by decide) (by decide) ?_
    refine lv_aload_n X.1.1 X.1.2.1 dX7_comes_52 rfl (lv_at hl 1 rfl) ?_
    refine lv_iload_n X.1.1 X.1.2.1 dX7_comes_53 rfl (lv_at hl 2 rfl) ?_
    refine lv_iload_n X.1.1 X.1.2.1 dX7_comes_54 rfl (lv_at hl 4 rfl) ?_
    refine lv_iload_n X.1.1 X.1.2.1 dX7_comes_55 rfl (lv_at hl 3 rfl) ?_
    refine lv_iconst (v := nI 1) X.1.1 X.1.2.1 dX7_comes_56 (by decide) ?_
    refine sx_icmp_ne X (by decide) (by decide) (tgt := 64) dX7_comes_57 (by decide) (fun _ => ?_) (fun h => absurd h (by decide))
    refine lv_iconst (v := nI 0) X.1.1 X.1.2.1 dX7_comes_64 (by decide) ?_
    refine sx_cvV (As := [.int (nI (t)), .int (nI (x)), .int (nI 0)]) (rest := []) X (mX7_accesses l (t := t) (c := x) (wr := 0) (by omega) (by omega) (by omega) (hok (by omega)) h91 h92) gX7_comes_X7_accesses rfl yv_X7_accesses ⟨Nat.le_of_ble_eq_true rfl, Nat.le_of_ble_eq_true rfl⟩ h91 (by decide) rfl rfl hl.1 rfl (Nat.le_of_ble_eq_true rfl) dX7_comes_65 ⟨Nat.le_of_ble_eq_true rfl, Nat.le_of_ble_eq_true rfl⟩ hs rfl hP (fun F1 H1 l1 hp hP => ?_)
    obtain ⟨e1, o1⟩ := hp
    obtain ⟨w1, hw1⟩ : ∃ z, z = accF w (t) (x) (0) := ⟨_, rfl⟩
    rw [← hw1] at e1
    have h92 : F1 (92) = rI G (4358) (w1) := e1
    have h91 := (o1 (91) (by decide)).trans h91
    have hO : ∀ j, j ≠ 92 → F1 j = F j := fun j hj => (o1 j (by omega)).trans (hO j hj)
    have h91n_1 : w1 (91) = (nI (n)) := by rw [hw1]; exact (accF_out (by omega) (by omega) (hok (by omega)).2.1 (by omega)).trans h91n
    refine lv_goto (tgt := 218) X.1.1 X.1.2.1 dX7_comes_68 (by decide) ?_
    refine lv_aload_n X.1.1 X.1.2.1 dX7_comes_218 rfl (lv_at hl 1 rfl) ?_
    refine lv_iload_n X.1.1 X.1.2.1 dX7_comes_219 rfl (lv_at hl 2 rfl) ?_
    refine lv_iload_n X.1.1 X.1.2.1 dX7_comes_220 rfl (lv_at hl 3 rfl) ?_
    refine lv_iload_n X.1.1 X.1.2.1 dX7_comes_221 rfl (lv_at hl 4 rfl) ?_
    refine sx_cvV (As := [.int (nI (t)), .int (nI 0), .int (nI (x))]) (rest := []) X (mX7_writes l (n := n) (t := t) (s := 0) (x := x) (by omega) (by omega) (by omega) (by omega) h91n_1 h91 h92) gX7_comes_X7_writes rfl yv_X7_writes ⟨Nat.le_of_ble_eq_true rfl, Nat.le_of_ble_eq_true rfl⟩ h91 (by decide) rfl rfl hl.1 rfl (Nat.le_of_ble_eq_true rfl) dX7_comes_222 ⟨Nat.le_of_ble_eq_true rfl, Nat.le_of_ble_eq_true rfl⟩ hs rfl hP (fun F2 H2 l2 hp hP => ?_)
    obtain ⟨e2, o2⟩ := hp
    obtain ⟨w2, hw2⟩ : ∃ z, z = wriF w1 n (t) (0) (x) := ⟨_, rfl⟩
    rw [← hw2] at e2
    have h92 : F2 (92) = rI G (4358) (w2) := e2
    have h91 := (o2 (91) (by decide)).trans h91
    have hO : ∀ j, j ≠ 92 → F2 j = F j := fun j hj => (o2 j (by omega)).trans (hO j hj)
    refine lv_iload_n X.1.1 X.1.2.1 dX7_comes_225 rfl (lv_at hl 3 rfl) ?_
    refine sx_csI (As := [.int (nI 0)]) (rest := []) X (mX7_hasStep l (s := 0) (by omega)) gX7_comes_X7_hasStep rfl ys_X7_hasStep ⟨Nat.le_of_ble_eq_true rfl, Nat.le_of_ble_eq_true rfl⟩ hl.1 rfl (Nat.le_of_ble_eq_true rfl) dX7_comes_226 ⟨Nat.le_of_ble_eq_true rfl, Nat.le_of_ble_eq_true rfl⟩ hs rfl hP (fun r3 F3 H3 l3 hp hP => ?_)
    obtain ⟨rfl, ⟨b4, rfl⟩ | ⟨b4, rfl⟩⟩ := hp
    · exact absurd b4 (by unfold hasS; omega)
    · refine sx_if_eq X (by decide) (tgt := 245) dX7_comes_229 (by decide) (fun _ => ?_) (fun h => absurd h (by decide))
      rw [hQ]
      exact sx_vret X rfl hs rfl hP dX7_comes_245 (⟨h92.trans (by unfold comeF; rw [← show w2 = wriF (doF w t 0 x) n t 0 x from (by rw [hw2, hw1]; rfl)]; unfold stpF; rw [cif_f (fun q => absurd q.1 (by unfold hasS; omega))]), hO⟩)
  · refine lv_iconst (v := nI 4) X.1.1 X.1.2.1 dX7_comes_0 (by decide) ?_
    refine lv_iconst (v := nI 4) X.1.1 X.1.2.1 dX7_comes_1 (by decide) ?_
    refine lv_iload_n X.1.1 X.1.2.1 dX7_comes_2 rfl (lv_at hl 1 rfl) ?_
    refine sx_mulN X (4 * t) (by omega) dX7_comes_3 ?_
    refine sx_addN X (4 + 4 * t) (by omega) dX7_comes_4 ?_
    refine lv_istore (lv' := [(4, .int (nI (4 + 4 * t))), (0, rf G 91), (1, .int (nI (t))), (2, .int (nI 1)), (3, .int (nI (x)))]) X.1.1 X.1.2.1 dX7_comes_5 hl (by decide) rfl (fun ls hl => ?_)
    refine lv_iload_n X.1.1 X.1.2.1 dX7_comes_7 rfl (lv_at hl 3 rfl) ?_
    refine lv_tableIn (off := 44) (tgt := 52) X.1.1 X.1.2.1 dX7_comes_8 (by decide) (by decide) (by decide) (by decide) ?_
    refine lv_aload_n X.1.1 X.1.2.1 dX7_comes_52 rfl (lv_at hl 1 rfl) ?_
    refine lv_iload_n X.1.1 X.1.2.1 dX7_comes_53 rfl (lv_at hl 2 rfl) ?_
    refine lv_iload_n X.1.1 X.1.2.1 dX7_comes_54 rfl (lv_at hl 4 rfl) ?_
    refine lv_iload_n X.1.1 X.1.2.1 dX7_comes_55 rfl (lv_at hl 3 rfl) ?_
    refine lv_iconst (v := nI 1) X.1.1 X.1.2.1 dX7_comes_56 (by decide) ?_
    refine sx_icmp_ne X (by decide) (by decide) (tgt := 64) dX7_comes_57 (by decide) (fun h => absurd h (by decide)) (fun _ => ?_)
    refine lv_iconst (v := nI 1) X.1.1 X.1.2.1 dX7_comes_60 (by decide) ?_
    refine lv_goto (tgt := 65) X.1.1 X.1.2.1 dX7_comes_61 (by decide) ?_
    refine sx_cvV (As := [.int (nI (t)), .int (nI (x)), .int (nI 1)]) (rest := []) X (mX7_accesses l (t := t) (c := x) (wr := 1) (by omega) (by omega) (by omega) (hok (by omega)) h91 h92) gX7_comes_X7_accesses rfl yv_X7_accesses ⟨Nat.le_of_ble_eq_true rfl, Nat.le_of_ble_eq_true rfl⟩ h91 (by decide) rfl rfl hl.1 rfl (Nat.le_of_ble_eq_true rfl) dX7_comes_65 ⟨Nat.le_of_ble_eq_true rfl, Nat.le_of_ble_eq_true rfl⟩ hs rfl hP (fun F5 H5 l5 hp hP => ?_)
    obtain ⟨e5, o5⟩ := hp
    obtain ⟨w5, hw5⟩ : ∃ z, z = accF w (t) (x) (1) := ⟨_, rfl⟩
    rw [← hw5] at e5
    have h92 : F5 (92) = rI G (4358) (w5) := e5
    have h91 := (o5 (91) (by decide)).trans h91
    have hO : ∀ j, j ≠ 92 → F5 j = F j := fun j hj => (o5 j (by omega)).trans (hO j hj)
    have h91n_5 : w5 (91) = (nI (n)) := by rw [hw5]; exact (accF_out (by omega) (by omega) (hok (by omega)).2.1 (by omega)).trans h91n
    refine lv_goto (tgt := 218) X.1.1 X.1.2.1 dX7_comes_68 (by decide) ?_
    refine lv_aload_n X.1.1 X.1.2.1 dX7_comes_218 rfl (lv_at hl 1 rfl) ?_
    refine lv_iload_n X.1.1 X.1.2.1 dX7_comes_219 rfl (lv_at hl 2 rfl) ?_
    refine lv_iload_n X.1.1 X.1.2.1 dX7_comes_220 rfl (lv_at hl 3 rfl) ?_
    refine lv_iload_n X.1.1 X.1.2.1 dX7_comes_221 rfl (lv_at hl 4 rfl) ?_
    refine sx_cvV (As := [.int (nI (t)), .int (nI 1), .int (nI (x))]) (rest := []) X (mX7_writes l (n := n) (t := t) (s := 1) (x := x) (by omega) (by omega) (by omega) (by omega) h91n_5 h91 h92) gX7_comes_X7_writes rfl yv_X7_writes ⟨Nat.le_of_ble_eq_true rfl, Nat.le_of_ble_eq_true rfl⟩ h91 (by decide) rfl rfl hl.1 rfl (Nat.le_of_ble_eq_true rfl) dX7_comes_222 ⟨Nat.le_of_ble_eq_true rfl, Nat.le_of_ble_eq_true rfl⟩ hs rfl hP (fun F6 H6 l6 hp hP => ?_)
    obtain ⟨e6, o6⟩ := hp
    obtain ⟨w6, hw6⟩ : ∃ z, z = wriF w5 n (t) (1) (x) := ⟨_, rfl⟩
    rw [← hw6] at e6
    have h92 : F6 (92) = rI G (4358) (w6) := e6
    have h91 := (o6 (91) (by decide)).trans h91
    have hO : ∀ j, j ≠ 92 → F6 j = F j := fun j hj => (o6 j (by omega)).trans (hO j hj)
    refine lv_iload_n X.1.1 X.1.2.1 dX7_comes_225 rfl (lv_at hl 3 rfl) ?_
    refine sx_csI (As := [.int (nI 1)]) (rest := []) X (mX7_hasStep l (s := 1) (by omega)) gX7_comes_X7_hasStep rfl ys_X7_hasStep ⟨Nat.le_of_ble_eq_true rfl, Nat.le_of_ble_eq_true rfl⟩ hl.1 rfl (Nat.le_of_ble_eq_true rfl) dX7_comes_226 ⟨Nat.le_of_ble_eq_true rfl, Nat.le_of_ble_eq_true rfl⟩ hs rfl hP (fun r7 F7 H7 l7 hp hP => ?_)
    obtain ⟨rfl, ⟨b8, rfl⟩ | ⟨b8, rfl⟩⟩ := hp
    · exact absurd b8 (by unfold hasS; omega)
    · refine sx_if_eq X (by decide) (tgt := 245) dX7_comes_229 (by decide) (fun _ => ?_) (fun h => absurd h (by decide))
      rw [hQ]
      exact sx_vret X rfl hs rfl hP dX7_comes_245 (⟨h92.trans (by unfold comeF; rw [← show w6 = wriF (doF w t 1 x) n t 1 x from (by rw [hw6, hw5]; rfl)]; unfold stpF; rw [cif_f (fun q => absurd q.1 (by unfold hasS; omega))]), hO⟩)
  · refine lv_iconst (v := nI 4) X.1.1 X.1.2.1 dX7_comes_0 (by decide) ?_
    refine lv_iconst (v := nI 4) X.1.1 X.1.2.1 dX7_comes_1 (by decide) ?_
    refine lv_iload_n X.1.1 X.1.2.1 dX7_comes_2 rfl (lv_at hl 1 rfl) ?_
    refine sx_mulN X (4 * t) (by omega) dX7_comes_3 ?_
    refine sx_addN X (4 + 4 * t) (by omega) dX7_comes_4 ?_
    refine lv_istore (lv' := [(4, .int (nI (4 + 4 * t))), (0, rf G 91), (1, .int (nI (t))), (2, .int (nI 2)), (3, .int (nI (x)))]) X.1.1 X.1.2.1 dX7_comes_5 hl (by decide) rfl (fun ls hl => ?_)
    refine lv_iload_n X.1.1 X.1.2.1 dX7_comes_7 rfl (lv_at hl 3 rfl) ?_
    refine lv_tableIn (off := 63) (tgt := 71) X.1.1 X.1.2.1 dX7_comes_8 (by decide) (by decide) (by decide) (by decide) ?_
    refine lv_aload_n X.1.1 X.1.2.1 dX7_comes_71 rfl (lv_at hl 1 rfl) ?_
    refine lv_iload X.1.1 X.1.2.1 dX7_comes_72 (lv_at hl 0 rfl) ?_
    refine lv_bipush (v := nI 20) X.1.1 X.1.2.1 dX7_comes_74 (by decide) ?_
    refine lv_iconst (v := nI 4) X.1.1 X.1.2.1 dX7_comes_76 (by decide) ?_
    refine lv_iload_n X.1.1 X.1.2.1 dX7_comes_77 rfl (lv_at hl 4 rfl) ?_
    refine sx_mulN X (4 * x) (by omega) dX7_comes_78 ?_
    refine sx_addN X (20 + 4 * x) (by omega) dX7_comes_79 ?_
    refine sx_cvV (As := [.int (nI (4 + 4 * t)), .int (nI (20 + 4 * x))]) (rest := []) X (mX7_joins l (to := 4 + 4 * t) (fr := 20 + 4 * x) (by omega) (by omega) h91 h92) gX7_comes_X7_joins rfl yv_X7_joins ⟨Nat.le_of_ble_eq_true rfl, Nat.le_of_ble_eq_true rfl⟩ h91 (by decide) rfl rfl hl.1 rfl (Nat.le_of_ble_eq_true rfl) dX7_comes_80 ⟨Nat.le_of_ble_eq_true rfl, Nat.le_of_ble_eq_true rfl⟩ hs rfl hP (fun F9 H9 l9 hp hP => ?_)
    obtain ⟨e9, o9⟩ := hp
    obtain ⟨w9, hw9⟩ : ∃ z, z = joinF w (4 + 4 * t) (20 + 4 * x) := ⟨_, rfl⟩
    rw [← hw9] at e9
    have h92 : F9 (92) = rI G (4358) (w9) := e9
    have h91 := (o9 (91) (by decide)).trans h91
    have hO : ∀ j, j ≠ 92 → F9 j = F j := fun j hj => (o9 j (by omega)).trans (hO j hj)
    have h91n_9 : w9 (91) = (nI (n)) := by rw [hw9]; exact (joinF_out (by omega)).trans h91n
    refine lv_aload_n X.1.1 X.1.2.1 dX7_comes_83 rfl (lv_at hl 1 rfl) ?_
    refine sx_get X hP in_X7_comes_X7 h91 (by decide) rfl 0 (by decide) lk_X7_comes_fieldLink_RX7_7_RaceWatchModel_w_I rfl dX7_comes_84 ?_
    refine lv_bipush (v := nI 40) X.1.1 X.1.2.1 dX7_comes_87 (by decide) ?_
    refine lv_iload_n X.1.1 X.1.2.1 dX7_comes_89 rfl (lv_at hl 4 rfl) ?_
    refine sx_addN X (40 + x) (by omega) dX7_comes_90 ?_
    refine lv_iload_n X.1.1 X.1.2.1 dX7_comes_91 rfl (lv_at hl 2 rfl) ?_
    refine sx_ast X hP h92 (by decide) (40 + x) (by omega) (by decide) dX7_comes_92 (fun F10 H10 l10 e10 o10 hP => ?_)
    obtain ⟨w10, hw10⟩ : ∃ z, z = upd w9 (40 + x) (nI (t)) := ⟨_, rfl⟩
    rw [← hw10] at e10
    have h91n_9_10 : w10 (91) = (nI (n)) := by rw [hw10]; exact (pk_un (by omega)).trans h91n_9
    have h92 : F10 (92) = rI G (4358) (w10) := e10
    have h91 := (o10 (91) (by decide)).trans h91
    have hO : ∀ j, j ≠ 92 → F10 j = F j := fun j hj => (o10 j (by omega)).trans (hO j hj)
    refine lv_goto (tgt := 218) X.1.1 X.1.2.1 dX7_comes_93 (by decide) ?_
    refine lv_aload_n X.1.1 X.1.2.1 dX7_comes_218 rfl (lv_at hl 1 rfl) ?_
    refine lv_iload_n X.1.1 X.1.2.1 dX7_comes_219 rfl (lv_at hl 2 rfl) ?_
    refine lv_iload_n X.1.1 X.1.2.1 dX7_comes_220 rfl (lv_at hl 3 rfl) ?_
    refine lv_iload_n X.1.1 X.1.2.1 dX7_comes_221 rfl (lv_at hl 4 rfl) ?_
    refine sx_cvV (As := [.int (nI (t)), .int (nI 2), .int (nI (x))]) (rest := []) X (mX7_writes l (n := n) (t := t) (s := 2) (x := x) (by omega) (by omega) (by omega) (by omega) h91n_9_10 h91 h92) gX7_comes_X7_writes rfl yv_X7_writes ⟨Nat.le_of_ble_eq_true rfl, Nat.le_of_ble_eq_true rfl⟩ h91 (by decide) rfl rfl hl.1 rfl (Nat.le_of_ble_eq_true rfl) dX7_comes_222 ⟨Nat.le_of_ble_eq_true rfl, Nat.le_of_ble_eq_true rfl⟩ hs rfl hP (fun F11 H11 l11 hp hP => ?_)
    obtain ⟨e11, o11⟩ := hp
    obtain ⟨w11, hw11⟩ : ∃ z, z = wriF w10 n (t) (2) (x) := ⟨_, rfl⟩
    rw [← hw11] at e11
    have h92 : F11 (92) = rI G (4358) (w11) := e11
    have h91 := (o11 (91) (by decide)).trans h91
    have hO : ∀ j, j ≠ 92 → F11 j = F j := fun j hj => (o11 j (by omega)).trans (hO j hj)
    refine lv_iload_n X.1.1 X.1.2.1 dX7_comes_225 rfl (lv_at hl 3 rfl) ?_
    refine sx_csI (As := [.int (nI 2)]) (rest := []) X (mX7_hasStep l (s := 2) (by omega)) gX7_comes_X7_hasStep rfl ys_X7_hasStep ⟨Nat.le_of_ble_eq_true rfl, Nat.le_of_ble_eq_true rfl⟩ hl.1 rfl (Nat.le_of_ble_eq_true rfl) dX7_comes_226 ⟨Nat.le_of_ble_eq_true rfl, Nat.le_of_ble_eq_true rfl⟩ hs rfl hP (fun r12 F12 H12 l12 hp hP => ?_)
    obtain ⟨rfl, ⟨b13, rfl⟩ | ⟨b13, rfl⟩⟩ := hp
    · exact absurd b13 (by unfold hasS; omega)
    · refine sx_if_eq X (by decide) (tgt := 245) dX7_comes_229 (by decide) (fun _ => ?_) (fun h => absurd h (by decide))
      rw [hQ]
      exact sx_vret X rfl hs rfl hP dX7_comes_245 (⟨h92.trans (by unfold comeF; rw [← show w11 = wriF (doF w t 2 x) n t 2 x from (by rw [hw11, hw10, hw9]; rfl)]; unfold stpF; rw [cif_f (fun q => absurd q.1 (by unfold hasS; omega))]), hO⟩)
  · refine lv_iconst (v := nI 4) X.1.1 X.1.2.1 dX7_comes_0 (by decide) ?_
    refine lv_iconst (v := nI 4) X.1.1 X.1.2.1 dX7_comes_1 (by decide) ?_
    refine lv_iload_n X.1.1 X.1.2.1 dX7_comes_2 rfl (lv_at hl 1 rfl) ?_
    refine sx_mulN X (4 * t) (by omega) dX7_comes_3 ?_
    refine sx_addN X (4 + 4 * t) (by omega) dX7_comes_4 ?_
    refine lv_istore (lv' := [(4, .int (nI (4 + 4 * t))), (0, rf G 91), (1, .int (nI (t))), (2, .int (nI 3)), (3, .int (nI (x)))]) X.1.1 X.1.2.1 dX7_comes_5 hl (by decide) rfl (fun ls hl => ?_)
    refine lv_iload_n X.1.1 X.1.2.1 dX7_comes_7 rfl (lv_at hl 3 rfl) ?_
    refine lv_tableIn (off := 88) (tgt := 96) X.1.1 X.1.2.1 dX7_comes_8 (by decide) (by decide) (by decide) (by decide) ?_
    refine lv_aload_n X.1.1 X.1.2.1 dX7_comes_96 rfl (lv_at hl 1 rfl) ?_
    refine sx_get X hP in_X7_comes_X7 h91 (by decide) rfl 0 (by decide) lk_X7_comes_fieldLink_RX7_7_RaceWatchModel_w_I rfl dX7_comes_97 ?_
    refine lv_bipush (v := nI 40) X.1.1 X.1.2.1 dX7_comes_100 (by decide) ?_
    refine lv_iload_n X.1.1 X.1.2.1 dX7_comes_102 rfl (lv_at hl 4 rfl) ?_
    refine sx_addN X (40 + x) (by omega) dX7_comes_103 ?_
    refine lv_iconst (v := (-1)) X.1.1 X.1.2.1 dX7_comes_104 (by decide) ?_
    refine sx_ast X hP h92 (by decide) (40 + x) (by omega) (by decide) dX7_comes_105 (fun F14 H14 l14 e14 o14 hP => ?_)
    obtain ⟨w14, hw14⟩ : ∃ z, z = upd w (40 + x) (-1) := ⟨_, rfl⟩
    rw [← hw14] at e14
    have h91n_14 : w14 (91) = (nI (n)) := by rw [hw14]; exact (pk_un (by omega)).trans h91n
    have h92 : F14 (92) = rI G (4358) (w14) := e14
    have h91 := (o14 (91) (by decide)).trans h91
    have hO : ∀ j, j ≠ 92 → F14 j = F j := fun j hj => (o14 j (by omega)).trans (hO j hj)
    refine lv_iconst (v := nI 0) X.1.1 X.1.2.1 dX7_comes_106 (by decide) ?_
    refine lv_istore (lv' := [(5, .int (nI 0)), (4, .int (nI (4 + 4 * t))), (0, rf G 91), (1, .int (nI (t))), (2, .int (nI 3)), (3, .int (nI (x)))]) X.1.1 X.1.2.1 dX7_comes_107 hl (by decide) rfl (fun ls hl => ?_)
    refine lv_iload X.1.1 X.1.2.1 dX7_comes_109 (lv_at hl 0 rfl) ?_
    refine lv_iconst (v := nI 4) X.1.1 X.1.2.1 dX7_comes_111 (by decide) ?_
    refine sx_icmp_ge X (by decide) (by decide) (tgt := 142) dX7_comes_112 (by decide) (fun h => absurd h (by decide)) (fun _ => ?_)
    refine lv_aload_n X.1.1 X.1.2.1 dX7_comes_115 rfl (lv_at hl 2 rfl) ?_
    refine sx_get X hP in_X7_comes_X7 h91 (by decide) rfl 0 (by decide) lk_X7_comes_fieldLink_RX7_7_RaceWatchModel_w_I rfl dX7_comes_116 ?_
    refine lv_bipush (v := nI 20) X.1.1 X.1.2.1 dX7_comes_119 (by decide) ?_
    refine lv_iconst (v := nI 4) X.1.1 X.1.2.1 dX7_comes_121 (by decide) ?_
    refine lv_iload_n X.1.1 X.1.2.1 dX7_comes_122 rfl (lv_at hl 5 rfl) ?_
    refine sx_mulN X (4 * x) (by omega) dX7_comes_123 ?_
    refine sx_addN X (20 + 4 * x) (by omega) dX7_comes_124 ?_
    refine lv_iload X.1.1 X.1.2.1 dX7_comes_125 (lv_at hl 0 rfl) ?_
    refine sx_addN X (20 + 4 * x) (by omega) dX7_comes_127 ?_
    refine lv_aload_n X.1.1 X.1.2.1 dX7_comes_128 rfl (lv_at hl 2 rfl) ?_
    refine lv_iload_n X.1.1 X.1.2.1 dX7_comes_129 rfl (lv_at hl 3 rfl) ?_
    refine lv_iload X.1.1 X.1.2.1 dX7_comes_130 (lv_at hl 0 rfl) ?_
    refine sx_cvI (As := [.int (nI (t)), .int (nI 0)]) (rest := .int (nI (20 + 4 * x)) :: rf G 92 :: []) X (mX7_number l (t := t) (u := 0) (by omega) (by omega) h91 h92) gX7_comes_X7_number rfl yv_X7_number ⟨Nat.le_of_ble_eq_true rfl, Nat.le_of_ble_eq_true rfl⟩ h91 (by decide) rfl rfl hl.1 rfl (Nat.le_of_ble_eq_true rfl) dX7_comes_132 ⟨Nat.le_of_ble_eq_true rfl, Nat.le_of_ble_eq_true rfl⟩ hs rfl hP (fun r15 F15 H15 l15 hp hP => ?_)
    obtain ⟨rfl, rfl⟩ := hp
    rw [show w14 (4 + 4 * t + 0) = w14 (4 + 4 * t) from congrArg _ (by omega)]
    refine sx_ast X hP h92 (by decide) (20 + 4 * x) (by omega) (by decide) dX7_comes_135 (fun F16 H16 l16 e16 o16 hP => ?_)
    obtain ⟨w16, hw16⟩ : ∃ z, z = upd w14 (20 + 4 * x) (w14 (4 + 4 * t)) := ⟨_, rfl⟩
    rw [← hw16] at e16
    have h91n_14_16 : w16 (91) = (nI (n)) := by rw [hw16]; exact (pk_un (by omega)).trans h91n_14
    have h92 : F16 (92) = rI G (4358) (w16) := e16
    have h91 := (o16 (91) (by decide)).trans h91
    have hO : ∀ j, j ≠ 92 → F16 j = F j := fun j hj => (o16 j (by omega)).trans (hO j hj)
    refine lv_iinc (v := (nI (1))) (lv' := [(5, .int (nI 1)), (4, .int (nI (4 + 4 * t))), (0, rf G 91), (1, .int (nI (t))), (2, .int (nI 3)), (3, .int (nI (x)))]) X.1.1 X.1.2.1 dX7_comes_136 hl (k := 0) rfl (by decide) (by decide) rfl (fun ls hl => ?_)
    refine lv_goto (tgt := 109) X.1.1 X.1.2.1 dX7_comes_139 (by decide) ?_
    refine lv_iload X.1.1 X.1.2.1 dX7_comes_109 (lv_at hl 0 rfl) ?_
    refine lv_iconst (v := nI 4) X.1.1 X.1.2.1 dX7_comes_111 (by decide) ?_
    refine sx_icmp_ge X (by decide) (by decide) (tgt := 142) dX7_comes_112 (by decide) (fun h => absurd h (by decide)) (fun _ => ?_)
    refine lv_aload_n X.1.1 X.1.2.1 dX7_comes_115 rfl (lv_at hl 2 rfl) ?_
    refine sx_get X hP in_X7_comes_X7 h91 (by decide) rfl 0 (by decide) lk_X7_comes_fieldLink_RX7_7_RaceWatchModel_w_I rfl dX7_comes_116 ?_
    refine lv_bipush (v := nI 20) X.1.1 X.1.2.1 dX7_comes_119 (by decide) ?_
    refine lv_iconst (v := nI 4) X.1.1 X.1.2.1 dX7_comes_121 (by decide) ?_
    refine lv_iload_n X.1.1 X.1.2.1 dX7_comes_122 rfl (lv_at hl 5 rfl) ?_
    refine sx_mulN X (4 * x) (by omega) dX7_comes_123 ?_
    refine sx_addN X (20 + 4 * x) (by omega) dX7_comes_124 ?_
    refine lv_iload X.1.1 X.1.2.1 dX7_comes_125 (lv_at hl 0 rfl) ?_
    refine sx_addN X (21 + 4 * x) (by omega) dX7_comes_127 ?_
    refine lv_aload_n X.1.1 X.1.2.1 dX7_comes_128 rfl (lv_at hl 2 rfl) ?_
    refine lv_iload_n X.1.1 X.1.2.1 dX7_comes_129 rfl (lv_at hl 3 rfl) ?_
    refine lv_iload X.1.1 X.1.2.1 dX7_comes_130 (lv_at hl 0 rfl) ?_
    refine sx_cvI (As := [.int (nI (t)), .int (nI 1)]) (rest := .int (nI (21 + 4 * x)) :: rf G 92 :: []) X (mX7_number l (t := t) (u := 1) (by omega) (by omega) h91 h92) gX7_comes_X7_number rfl yv_X7_number ⟨Nat.le_of_ble_eq_true rfl, Nat.le_of_ble_eq_true rfl⟩ h91 (by decide) rfl rfl hl.1 rfl (Nat.le_of_ble_eq_true rfl) dX7_comes_132 ⟨Nat.le_of_ble_eq_true rfl, Nat.le_of_ble_eq_true rfl⟩ hs rfl hP (fun r17 F17 H17 l17 hp hP => ?_)
    obtain ⟨rfl, rfl⟩ := hp
    rw [show w16 (4 + 4 * t + 1) = w16 (5 + 4 * t) from congrArg _ (by omega)]
    refine sx_ast X hP h92 (by decide) (21 + 4 * x) (by omega) (by decide) dX7_comes_135 (fun F18 H18 l18 e18 o18 hP => ?_)
    obtain ⟨w18, hw18⟩ : ∃ z, z = upd w16 (21 + 4 * x) (w16 (5 + 4 * t)) := ⟨_, rfl⟩
    rw [← hw18] at e18
    have h91n_14_16_18 : w18 (91) = (nI (n)) := by rw [hw18]; exact (pk_un (by omega)).trans h91n_14_16
    have h92 : F18 (92) = rI G (4358) (w18) := e18
    have h91 := (o18 (91) (by decide)).trans h91
    have hO : ∀ j, j ≠ 92 → F18 j = F j := fun j hj => (o18 j (by omega)).trans (hO j hj)
    refine lv_iinc (v := (nI (2))) (lv' := [(5, .int (nI 2)), (4, .int (nI (4 + 4 * t))), (0, rf G 91), (1, .int (nI (t))), (2, .int (nI 3)), (3, .int (nI (x)))]) X.1.1 X.1.2.1 dX7_comes_136 hl (k := 0) rfl (by decide) (by decide) rfl (fun ls hl => ?_)
    refine lv_goto (tgt := 109) X.1.1 X.1.2.1 dX7_comes_139 (by decide) ?_
    refine lv_iload X.1.1 X.1.2.1 dX7_comes_109 (lv_at hl 0 rfl) ?_
    refine lv_iconst (v := nI 4) X.1.1 X.1.2.1 dX7_comes_111 (by decide) ?_
    refine sx_icmp_ge X (by decide) (by decide) (tgt := 142) dX7_comes_112 (by decide) (fun h => absurd h (by decide)) (fun _ => ?_)
    refine lv_aload_n X.1.1 X.1.2.1 dX7_comes_115 rfl (lv_at hl 2 rfl) ?_
    refine sx_get X hP in_X7_comes_X7 h91 (by decide) rfl 0 (by decide) lk_X7_comes_fieldLink_RX7_7_RaceWatchModel_w_I rfl dX7_comes_116 ?_
    refine lv_bipush (v := nI 20) X.1.1 X.1.2.1 dX7_comes_119 (by decide) ?_
    refine lv_iconst (v := nI 4) X.1.1 X.1.2.1 dX7_comes_121 (by decide) ?_
    refine lv_iload_n X.1.1 X.1.2.1 dX7_comes_122 rfl (lv_at hl 5 rfl) ?_
    refine sx_mulN X (4 * x) (by omega) dX7_comes_123 ?_
    refine sx_addN X (20 + 4 * x) (by omega) dX7_comes_124 ?_
    refine lv_iload X.1.1 X.1.2.1 dX7_comes_125 (lv_at hl 0 rfl) ?_
    refine sx_addN X (22 + 4 * x) (by omega) dX7_comes_127 ?_
    refine lv_aload_n X.1.1 X.1.2.1 dX7_comes_128 rfl (lv_at hl 2 rfl) ?_
    refine lv_iload_n X.1.1 X.1.2.1 dX7_comes_129 rfl (lv_at hl 3 rfl) ?_
    refine lv_iload X.1.1 X.1.2.1 dX7_comes_130 (lv_at hl 0 rfl) ?_
    refine sx_cvI (As := [.int (nI (t)), .int (nI 2)]) (rest := .int (nI (22 + 4 * x)) :: rf G 92 :: []) X (mX7_number l (t := t) (u := 2) (by omega) (by omega) h91 h92) gX7_comes_X7_number rfl yv_X7_number ⟨Nat.le_of_ble_eq_true rfl, Nat.le_of_ble_eq_true rfl⟩ h91 (by decide) rfl rfl hl.1 rfl (Nat.le_of_ble_eq_true rfl) dX7_comes_132 ⟨Nat.le_of_ble_eq_true rfl, Nat.le_of_ble_eq_true rfl⟩ hs rfl hP (fun r19 F19 H19 l19 hp hP => ?_)
    obtain ⟨rfl, rfl⟩ := hp
    rw [show w18 (4 + 4 * t + 2) = w18 (6 + 4 * t) from congrArg _ (by omega)]
    refine sx_ast X hP h92 (by decide) (22 + 4 * x) (by omega) (by decide) dX7_comes_135 (fun F20 H20 l20 e20 o20 hP => ?_)
    obtain ⟨w20, hw20⟩ : ∃ z, z = upd w18 (22 + 4 * x) (w18 (6 + 4 * t)) := ⟨_, rfl⟩
    rw [← hw20] at e20
    have h91n_14_16_18_20 : w20 (91) = (nI (n)) := by rw [hw20]; exact (pk_un (by omega)).trans h91n_14_16_18
    have h92 : F20 (92) = rI G (4358) (w20) := e20
    have h91 := (o20 (91) (by decide)).trans h91
    have hO : ∀ j, j ≠ 92 → F20 j = F j := fun j hj => (o20 j (by omega)).trans (hO j hj)
    refine lv_iinc (v := (nI (3))) (lv' := [(5, .int (nI 3)), (4, .int (nI (4 + 4 * t))), (0, rf G 91), (1, .int (nI (t))), (2, .int (nI 3)), (3, .int (nI (x)))]) X.1.1 X.1.2.1 dX7_comes_136 hl (k := 0) rfl (by decide) (by decide) rfl (fun ls hl => ?_)
    refine lv_goto (tgt := 109) X.1.1 X.1.2.1 dX7_comes_139 (by decide) ?_
    refine lv_iload X.1.1 X.1.2.1 dX7_comes_109 (lv_at hl 0 rfl) ?_
    refine lv_iconst (v := nI 4) X.1.1 X.1.2.1 dX7_comes_111 (by decide) ?_
    refine sx_icmp_ge X (by decide) (by decide) (tgt := 142) dX7_comes_112 (by decide) (fun h => absurd h (by decide)) (fun _ => ?_)
    refine lv_aload_n X.1.1 X.1.2.1 dX7_comes_115 rfl (lv_at hl 2 rfl) ?_
    refine sx_get X hP in_X7_comes_X7 h91 (by decide) rfl 0 (by decide) lk_X7_comes_fieldLink_RX7_7_RaceWatchModel_w_I rfl dX7_comes_116 ?_
    refine lv_bipush (v := nI 20) X.1.1 X.1.2.1 dX7_comes_119 (by decide) ?_
    refine lv_iconst (v := nI 4) X.1.1 X.1.2.1 dX7_comes_121 (by decide) ?_
    refine lv_iload_n X.1.1 X.1.2.1 dX7_comes_122 rfl (lv_at hl 5 rfl) ?_
    refine sx_mulN X (4 * x) (by omega) dX7_comes_123 ?_
    refine sx_addN X (20 + 4 * x) (by omega) dX7_comes_124 ?_
    refine lv_iload X.1.1 X.1.2.1 dX7_comes_125 (lv_at hl 0 rfl) ?_
    refine sx_addN X (23 + 4 * x) (by omega) dX7_comes_127 ?_
    refine lv_aload_n X.1.1 X.1.2.1 dX7_comes_128 rfl (lv_at hl 2 rfl) ?_
    refine lv_iload_n X.1.1 X.1.2.1 dX7_comes_129 rfl (lv_at hl 3 rfl) ?_
    refine lv_iload X.1.1 X.1.2.1 dX7_comes_130 (lv_at hl 0 rfl) ?_
    refine sx_cvI (As := [.int (nI (t)), .int (nI 3)]) (rest := .int (nI (23 + 4 * x)) :: rf G 92 :: []) X (mX7_number l (t := t) (u := 3) (by omega) (by omega) h91 h92) gX7_comes_X7_number rfl yv_X7_number ⟨Nat.le_of_ble_eq_true rfl, Nat.le_of_ble_eq_true rfl⟩ h91 (by decide) rfl rfl hl.1 rfl (Nat.le_of_ble_eq_true rfl) dX7_comes_132 ⟨Nat.le_of_ble_eq_true rfl, Nat.le_of_ble_eq_true rfl⟩ hs rfl hP (fun r21 F21 H21 l21 hp hP => ?_)
    obtain ⟨rfl, rfl⟩ := hp
    rw [show w20 (4 + 4 * t + 3) = w20 (7 + 4 * t) from congrArg _ (by omega)]
    refine sx_ast X hP h92 (by decide) (23 + 4 * x) (by omega) (by decide) dX7_comes_135 (fun F22 H22 l22 e22 o22 hP => ?_)
    obtain ⟨w22, hw22⟩ : ∃ z, z = upd w20 (23 + 4 * x) (w20 (7 + 4 * t)) := ⟨_, rfl⟩
    rw [← hw22] at e22
    have h91n_14_16_18_20_22 : w22 (91) = (nI (n)) := by rw [hw22]; exact (pk_un (by omega)).trans h91n_14_16_18_20
    have h92 : F22 (92) = rI G (4358) (w22) := e22
    have h91 := (o22 (91) (by decide)).trans h91
    have hO : ∀ j, j ≠ 92 → F22 j = F j := fun j hj => (o22 j (by omega)).trans (hO j hj)
    refine lv_iinc (v := (nI (4))) (lv' := [(5, .int (nI 4)), (4, .int (nI (4 + 4 * t))), (0, rf G 91), (1, .int (nI (t))), (2, .int (nI 3)), (3, .int (nI (x)))]) X.1.1 X.1.2.1 dX7_comes_136 hl (k := 0) rfl (by decide) (by decide) rfl (fun ls hl => ?_)
    refine lv_goto (tgt := 109) X.1.1 X.1.2.1 dX7_comes_139 (by decide) ?_
    refine lv_iload X.1.1 X.1.2.1 dX7_comes_109 (lv_at hl 0 rfl) ?_
    refine lv_iconst (v := nI 4) X.1.1 X.1.2.1 dX7_comes_111 (by decide) ?_
    refine sx_icmp_ge X (by decide) (by decide) (tgt := 142) dX7_comes_112 (by decide) (fun _ => ?_) (fun h => absurd h (by decide))
    refine lv_goto (tgt := 218) X.1.1 X.1.2.1 dX7_comes_142 (by decide) ?_
    refine lv_aload_n X.1.1 X.1.2.1 dX7_comes_218 rfl (lv_at hl 2 rfl) ?_
    refine lv_iload_n X.1.1 X.1.2.1 dX7_comes_219 rfl (lv_at hl 3 rfl) ?_
    refine lv_iload_n X.1.1 X.1.2.1 dX7_comes_220 rfl (lv_at hl 4 rfl) ?_
    refine lv_iload_n X.1.1 X.1.2.1 dX7_comes_221 rfl (lv_at hl 5 rfl) ?_
    refine sx_cvV (As := [.int (nI (t)), .int (nI 3), .int (nI (x))]) (rest := []) X (mX7_writes l (n := n) (t := t) (s := 3) (x := x) (by omega) (by omega) (by omega) (by omega) h91n_14_16_18_20_22 h91 h92) gX7_comes_X7_writes rfl yv_X7_writes ⟨Nat.le_of_ble_eq_true rfl, Nat.le_of_ble_eq_true rfl⟩ h91 (by decide) rfl rfl hl.1 rfl (Nat.le_of_ble_eq_true rfl) dX7_comes_222 ⟨Nat.le_of_ble_eq_true rfl, Nat.le_of_ble_eq_true rfl⟩ hs rfl hP (fun F23 H23 l23 hp hP => ?_)
    obtain ⟨e23, o23⟩ := hp
    obtain ⟨w23, hw23⟩ : ∃ z, z = wriF w22 n (t) (3) (x) := ⟨_, rfl⟩
    rw [← hw23] at e23
    have h92 : F23 (92) = rI G (4358) (w23) := e23
    have h91 := (o23 (91) (by decide)).trans h91
    have hO : ∀ j, j ≠ 92 → F23 j = F j := fun j hj => (o23 j (by omega)).trans (hO j hj)
    refine lv_iload_n X.1.1 X.1.2.1 dX7_comes_225 rfl (lv_at hl 4 rfl) ?_
    refine sx_csI (As := [.int (nI 3)]) (rest := []) X (mX7_hasStep l (s := 3) (by omega)) gX7_comes_X7_hasStep rfl ys_X7_hasStep ⟨Nat.le_of_ble_eq_true rfl, Nat.le_of_ble_eq_true rfl⟩ hl.1 rfl (Nat.le_of_ble_eq_true rfl) dX7_comes_226 ⟨Nat.le_of_ble_eq_true rfl, Nat.le_of_ble_eq_true rfl⟩ hs rfl hP (fun r24 F24 H24 l24 hp hP => ?_)
    obtain ⟨rfl, ⟨b25, rfl⟩ | ⟨b25, rfl⟩⟩ := hp
    · refine sx_if_eq X (by decide) (tgt := 245) dX7_comes_229 (by decide) (fun h => absurd h (by decide)) (fun _ => ?_)
      refine lv_aload_n X.1.1 X.1.2.1 dX7_comes_232 rfl (lv_at hl 2 rfl) ?_
      refine lv_iload_n X.1.1 X.1.2.1 dX7_comes_233 rfl (lv_at hl 3 rfl) ?_
      refine sx_cvI (As := [.int (nI (t))]) (rest := []) X (mX7_isMuch l (t := t) (by omega) h91 h92) gX7_comes_X7_isMuch rfl yv_X7_isMuch ⟨Nat.le_of_ble_eq_true rfl, Nat.le_of_ble_eq_true rfl⟩ h91 (by decide) rfl rfl hl.1 rfl (Nat.le_of_ble_eq_true rfl) dX7_comes_234 ⟨Nat.le_of_ble_eq_true rfl, Nat.le_of_ble_eq_true rfl⟩ hs rfl hP (fun r26 F26 H26 l26 hp hP => ?_)
      obtain ⟨rfl, ⟨b27, rfl⟩ | ⟨b27, rfl⟩⟩ := hp
      · refine sx_if_ne X (by decide) (tgt := 245) dX7_comes_237 (by decide) (fun _ => ?_) (fun h => absurd h (by decide))
        rw [hQ]
        exact sx_vret X rfl hs rfl hP dX7_comes_245 (⟨h92.trans (by unfold comeF; rw [← show w23 = wriF (doF w t 3 x) n t 3 x from (by rw [hw23, hw22, hw20, hw18, hw16, hw14]; rfl)]; unfold stpF; rw [cif_f (fun q => q.2 b27)]), hO⟩)
      · refine sx_if_ne X (by decide) (tgt := 245) dX7_comes_237 (by decide) (fun h => absurd h (by decide)) (fun _ => ?_)
        refine lv_aload_n X.1.1 X.1.2.1 dX7_comes_240 rfl (lv_at hl 2 rfl) ?_
        refine lv_iload_n X.1.1 X.1.2.1 dX7_comes_241 rfl (lv_at hl 3 rfl) ?_
        refine sx_cvV (As := [.int (nI (t))]) (rest := []) X (mX7_steps l (t := t) (by omega) h91 h92) gX7_comes_X7_steps rfl yv_X7_steps ⟨Nat.le_of_ble_eq_true rfl, Nat.le_of_ble_eq_true rfl⟩ h91 (by decide) rfl rfl hl.1 rfl (Nat.le_of_ble_eq_true rfl) dX7_comes_242 ⟨Nat.le_of_ble_eq_true rfl, Nat.le_of_ble_eq_true rfl⟩ hs rfl hP (fun F28 H28 l28 hp hP => ?_)
        obtain ⟨e28, o28⟩ := hp
        obtain ⟨w28, hw28⟩ : ∃ z, z = stepF w23 (t) := ⟨_, rfl⟩
        rw [← hw28] at e28
        have h92 : F28 (92) = rI G (4358) (w28) := e28
        have h91 := (o28 (91) (by decide)).trans h91
        have hO : ∀ j, j ≠ 92 → F28 j = F j := fun j hj => (o28 j (by omega)).trans (hO j hj)
        rw [hQ]
        exact sx_vret X rfl hs rfl hP dX7_comes_245 (⟨h92.trans (by rw [hw28]; unfold comeF; rw [← show w23 = wriF (doF w t 3 x) n t 3 x from (by rw [hw23, hw22, hw20, hw18, hw16, hw14]; rfl)]; unfold stpF; rw [cif_t ⟨by unfold hasS; omega, b27⟩]), hO⟩)
    · exact absurd (by unfold hasS; omega) b25
  · refine lv_iconst (v := nI 4) X.1.1 X.1.2.1 dX7_comes_0 (by decide) ?_
    refine lv_iconst (v := nI 4) X.1.1 X.1.2.1 dX7_comes_1 (by decide) ?_
    refine lv_iload_n X.1.1 X.1.2.1 dX7_comes_2 rfl (lv_at hl 1 rfl) ?_
    refine sx_mulN X (4 * t) (by omega) dX7_comes_3 ?_
    refine sx_addN X (4 + 4 * t) (by omega) dX7_comes_4 ?_
    refine lv_istore (lv' := [(4, .int (nI (4 + 4 * t))), (0, rf G 91), (1, .int (nI (t))), (2, .int (nI 4)), (3, .int (nI (x)))]) X.1.1 X.1.2.1 dX7_comes_5 hl (by decide) rfl (fun ls hl => ?_)
    refine lv_iload_n X.1.1 X.1.2.1 dX7_comes_7 rfl (lv_at hl 3 rfl) ?_
    refine lv_tableIn (off := 137) (tgt := 145) X.1.1 X.1.2.1 dX7_comes_8 (by decide) (by decide) (by decide) (by decide) ?_
    refine lv_aload_n X.1.1 X.1.2.1 dX7_comes_145 rfl (lv_at hl 1 rfl) ?_
    refine lv_bipush (v := nI 32) X.1.1 X.1.2.1 dX7_comes_146 (by decide) ?_
    refine lv_iconst (v := nI 4) X.1.1 X.1.2.1 dX7_comes_148 (by decide) ?_
    refine lv_iload_n X.1.1 X.1.2.1 dX7_comes_149 rfl (lv_at hl 4 rfl) ?_
    refine sx_mulN X (4 * x) (by omega) dX7_comes_150 ?_
    refine sx_addN X (32 + 4 * x) (by omega) dX7_comes_151 ?_
    refine lv_iload X.1.1 X.1.2.1 dX7_comes_152 (lv_at hl 0 rfl) ?_
    refine sx_cvV (As := [.int (nI (32 + 4 * x)), .int (nI (4 + 4 * t))]) (rest := []) X (mX7_joins l (to := 32 + 4 * x) (fr := 4 + 4 * t) (by omega) (by omega) h91 h92) gX7_comes_X7_joins rfl yv_X7_joins ⟨Nat.le_of_ble_eq_true rfl, Nat.le_of_ble_eq_true rfl⟩ h91 (by decide) rfl rfl hl.1 rfl (Nat.le_of_ble_eq_true rfl) dX7_comes_154 ⟨Nat.le_of_ble_eq_true rfl, Nat.le_of_ble_eq_true rfl⟩ hs rfl hP (fun F29 H29 l29 hp hP => ?_)
    obtain ⟨e29, o29⟩ := hp
    obtain ⟨w29, hw29⟩ : ∃ z, z = joinF w (32 + 4 * x) (4 + 4 * t) := ⟨_, rfl⟩
    rw [← hw29] at e29
    have h92 : F29 (92) = rI G (4358) (w29) := e29
    have h91 := (o29 (91) (by decide)).trans h91
    have hO : ∀ j, j ≠ 92 → F29 j = F j := fun j hj => (o29 j (by omega)).trans (hO j hj)
    have h91n_29 : w29 (91) = (nI (n)) := by rw [hw29]; exact (joinF_out (by omega)).trans h91n
    refine lv_goto (tgt := 218) X.1.1 X.1.2.1 dX7_comes_157 (by decide) ?_
    refine lv_aload_n X.1.1 X.1.2.1 dX7_comes_218 rfl (lv_at hl 1 rfl) ?_
    refine lv_iload_n X.1.1 X.1.2.1 dX7_comes_219 rfl (lv_at hl 2 rfl) ?_
    refine lv_iload_n X.1.1 X.1.2.1 dX7_comes_220 rfl (lv_at hl 3 rfl) ?_
    refine lv_iload_n X.1.1 X.1.2.1 dX7_comes_221 rfl (lv_at hl 4 rfl) ?_
    refine sx_cvV (As := [.int (nI (t)), .int (nI 4), .int (nI (x))]) (rest := []) X (mX7_writes l (n := n) (t := t) (s := 4) (x := x) (by omega) (by omega) (by omega) (by omega) h91n_29 h91 h92) gX7_comes_X7_writes rfl yv_X7_writes ⟨Nat.le_of_ble_eq_true rfl, Nat.le_of_ble_eq_true rfl⟩ h91 (by decide) rfl rfl hl.1 rfl (Nat.le_of_ble_eq_true rfl) dX7_comes_222 ⟨Nat.le_of_ble_eq_true rfl, Nat.le_of_ble_eq_true rfl⟩ hs rfl hP (fun F30 H30 l30 hp hP => ?_)
    obtain ⟨e30, o30⟩ := hp
    obtain ⟨w30, hw30⟩ : ∃ z, z = wriF w29 n (t) (4) (x) := ⟨_, rfl⟩
    rw [← hw30] at e30
    have h92 : F30 (92) = rI G (4358) (w30) := e30
    have h91 := (o30 (91) (by decide)).trans h91
    have hO : ∀ j, j ≠ 92 → F30 j = F j := fun j hj => (o30 j (by omega)).trans (hO j hj)
    refine lv_iload_n X.1.1 X.1.2.1 dX7_comes_225 rfl (lv_at hl 3 rfl) ?_
    refine sx_csI (As := [.int (nI 4)]) (rest := []) X (mX7_hasStep l (s := 4) (by omega)) gX7_comes_X7_hasStep rfl ys_X7_hasStep ⟨Nat.le_of_ble_eq_true rfl, Nat.le_of_ble_eq_true rfl⟩ hl.1 rfl (Nat.le_of_ble_eq_true rfl) dX7_comes_226 ⟨Nat.le_of_ble_eq_true rfl, Nat.le_of_ble_eq_true rfl⟩ hs rfl hP (fun r31 F31 H31 l31 hp hP => ?_)
    obtain ⟨rfl, ⟨b32, rfl⟩ | ⟨b32, rfl⟩⟩ := hp
    · refine sx_if_eq X (by decide) (tgt := 245) dX7_comes_229 (by decide) (fun h => absurd h (by decide)) (fun _ => ?_)
      refine lv_aload_n X.1.1 X.1.2.1 dX7_comes_232 rfl (lv_at hl 1 rfl) ?_
      refine lv_iload_n X.1.1 X.1.2.1 dX7_comes_233 rfl (lv_at hl 2 rfl) ?_
      refine sx_cvI (As := [.int (nI (t))]) (rest := []) X (mX7_isMuch l (t := t) (by omega) h91 h92) gX7_comes_X7_isMuch rfl yv_X7_isMuch ⟨Nat.le_of_ble_eq_true rfl, Nat.le_of_ble_eq_true rfl⟩ h91 (by decide) rfl rfl hl.1 rfl (Nat.le_of_ble_eq_true rfl) dX7_comes_234 ⟨Nat.le_of_ble_eq_true rfl, Nat.le_of_ble_eq_true rfl⟩ hs rfl hP (fun r33 F33 H33 l33 hp hP => ?_)
      obtain ⟨rfl, ⟨b34, rfl⟩ | ⟨b34, rfl⟩⟩ := hp
      · refine sx_if_ne X (by decide) (tgt := 245) dX7_comes_237 (by decide) (fun _ => ?_) (fun h => absurd h (by decide))
        rw [hQ]
        exact sx_vret X rfl hs rfl hP dX7_comes_245 (⟨h92.trans (by unfold comeF; rw [← show w30 = wriF (doF w t 4 x) n t 4 x from (by rw [hw30, hw29]; rfl)]; unfold stpF; rw [cif_f (fun q => q.2 b34)]), hO⟩)
      · refine sx_if_ne X (by decide) (tgt := 245) dX7_comes_237 (by decide) (fun h => absurd h (by decide)) (fun _ => ?_)
        refine lv_aload_n X.1.1 X.1.2.1 dX7_comes_240 rfl (lv_at hl 1 rfl) ?_
        refine lv_iload_n X.1.1 X.1.2.1 dX7_comes_241 rfl (lv_at hl 2 rfl) ?_
        refine sx_cvV (As := [.int (nI (t))]) (rest := []) X (mX7_steps l (t := t) (by omega) h91 h92) gX7_comes_X7_steps rfl yv_X7_steps ⟨Nat.le_of_ble_eq_true rfl, Nat.le_of_ble_eq_true rfl⟩ h91 (by decide) rfl rfl hl.1 rfl (Nat.le_of_ble_eq_true rfl) dX7_comes_242 ⟨Nat.le_of_ble_eq_true rfl, Nat.le_of_ble_eq_true rfl⟩ hs rfl hP (fun F35 H35 l35 hp hP => ?_)
        obtain ⟨e35, o35⟩ := hp
        obtain ⟨w35, hw35⟩ : ∃ z, z = stepF w30 (t) := ⟨_, rfl⟩
        rw [← hw35] at e35
        have h92 : F35 (92) = rI G (4358) (w35) := e35
        have h91 := (o35 (91) (by decide)).trans h91
        have hO : ∀ j, j ≠ 92 → F35 j = F j := fun j hj => (o35 j (by omega)).trans (hO j hj)
        rw [hQ]
        exact sx_vret X rfl hs rfl hP dX7_comes_245 (⟨h92.trans (by rw [hw35]; unfold comeF; rw [← show w30 = wriF (doF w t 4 x) n t 4 x from (by rw [hw30, hw29]; rfl)]; unfold stpF; rw [cif_t ⟨by unfold hasS; omega, b34⟩]), hO⟩)
    · exact absurd (by unfold hasS; omega) b32
  · refine lv_iconst (v := nI 4) X.1.1 X.1.2.1 dX7_comes_0 (by decide) ?_
    refine lv_iconst (v := nI 4) X.1.1 X.1.2.1 dX7_comes_1 (by decide) ?_
    refine lv_iload_n X.1.1 X.1.2.1 dX7_comes_2 rfl (lv_at hl 1 rfl) ?_
    refine sx_mulN X (4 * t) (by omega) dX7_comes_3 ?_
    refine sx_addN X (4 + 4 * t) (by omega) dX7_comes_4 ?_
    refine lv_istore (lv' := [(4, .int (nI (4 + 4 * t))), (0, rf G 91), (1, .int (nI (t))), (2, .int (nI 5)), (3, .int (nI (x)))]) X.1.1 X.1.2.1 dX7_comes_5 hl (by decide) rfl (fun ls hl => ?_)
    refine lv_iload_n X.1.1 X.1.2.1 dX7_comes_7 rfl (lv_at hl 3 rfl) ?_
    refine lv_tableIn (off := 152) (tgt := 160) X.1.1 X.1.2.1 dX7_comes_8 (by decide) (by decide) (by decide) (by decide) ?_
    refine lv_aload_n X.1.1 X.1.2.1 dX7_comes_160 rfl (lv_at hl 1 rfl) ?_
    refine lv_iload X.1.1 X.1.2.1 dX7_comes_161 (lv_at hl 0 rfl) ?_
    refine lv_bipush (v := nI 32) X.1.1 X.1.2.1 dX7_comes_163 (by decide) ?_
    refine lv_iconst (v := nI 4) X.1.1 X.1.2.1 dX7_comes_165 (by decide) ?_
    refine lv_iload_n X.1.1 X.1.2.1 dX7_comes_166 rfl (lv_at hl 4 rfl) ?_
    refine sx_mulN X (4 * x) (by omega) dX7_comes_167 ?_
    refine sx_addN X (32 + 4 * x) (by omega) dX7_comes_168 ?_
    refine sx_cvV (As := [.int (nI (4 + 4 * t)), .int (nI (32 + 4 * x))]) (rest := []) X (mX7_joins l (to := 4 + 4 * t) (fr := 32 + 4 * x) (by omega) (by omega) h91 h92) gX7_comes_X7_joins rfl yv_X7_joins ⟨Nat.le_of_ble_eq_true rfl, Nat.le_of_ble_eq_true rfl⟩ h91 (by decide) rfl rfl hl.1 rfl (Nat.le_of_ble_eq_true rfl) dX7_comes_169 ⟨Nat.le_of_ble_eq_true rfl, Nat.le_of_ble_eq_true rfl⟩ hs rfl hP (fun F36 H36 l36 hp hP => ?_)
    obtain ⟨e36, o36⟩ := hp
    obtain ⟨w36, hw36⟩ : ∃ z, z = joinF w (4 + 4 * t) (32 + 4 * x) := ⟨_, rfl⟩
    rw [← hw36] at e36
    have h92 : F36 (92) = rI G (4358) (w36) := e36
    have h91 := (o36 (91) (by decide)).trans h91
    have hO : ∀ j, j ≠ 92 → F36 j = F j := fun j hj => (o36 j (by omega)).trans (hO j hj)
    have h91n_36 : w36 (91) = (nI (n)) := by rw [hw36]; exact (joinF_out (by omega)).trans h91n
    refine lv_goto (tgt := 218) X.1.1 X.1.2.1 dX7_comes_172 (by decide) ?_
    refine lv_aload_n X.1.1 X.1.2.1 dX7_comes_218 rfl (lv_at hl 1 rfl) ?_
    refine lv_iload_n X.1.1 X.1.2.1 dX7_comes_219 rfl (lv_at hl 2 rfl) ?_
    refine lv_iload_n X.1.1 X.1.2.1 dX7_comes_220 rfl (lv_at hl 3 rfl) ?_
    refine lv_iload_n X.1.1 X.1.2.1 dX7_comes_221 rfl (lv_at hl 4 rfl) ?_
    refine sx_cvV (As := [.int (nI (t)), .int (nI 5), .int (nI (x))]) (rest := []) X (mX7_writes l (n := n) (t := t) (s := 5) (x := x) (by omega) (by omega) (by omega) (by omega) h91n_36 h91 h92) gX7_comes_X7_writes rfl yv_X7_writes ⟨Nat.le_of_ble_eq_true rfl, Nat.le_of_ble_eq_true rfl⟩ h91 (by decide) rfl rfl hl.1 rfl (Nat.le_of_ble_eq_true rfl) dX7_comes_222 ⟨Nat.le_of_ble_eq_true rfl, Nat.le_of_ble_eq_true rfl⟩ hs rfl hP (fun F37 H37 l37 hp hP => ?_)
    obtain ⟨e37, o37⟩ := hp
    obtain ⟨w37, hw37⟩ : ∃ z, z = wriF w36 n (t) (5) (x) := ⟨_, rfl⟩
    rw [← hw37] at e37
    have h92 : F37 (92) = rI G (4358) (w37) := e37
    have h91 := (o37 (91) (by decide)).trans h91
    have hO : ∀ j, j ≠ 92 → F37 j = F j := fun j hj => (o37 j (by omega)).trans (hO j hj)
    refine lv_iload_n X.1.1 X.1.2.1 dX7_comes_225 rfl (lv_at hl 3 rfl) ?_
    refine sx_csI (As := [.int (nI 5)]) (rest := []) X (mX7_hasStep l (s := 5) (by omega)) gX7_comes_X7_hasStep rfl ys_X7_hasStep ⟨Nat.le_of_ble_eq_true rfl, Nat.le_of_ble_eq_true rfl⟩ hl.1 rfl (Nat.le_of_ble_eq_true rfl) dX7_comes_226 ⟨Nat.le_of_ble_eq_true rfl, Nat.le_of_ble_eq_true rfl⟩ hs rfl hP (fun r38 F38 H38 l38 hp hP => ?_)
    obtain ⟨rfl, ⟨b39, rfl⟩ | ⟨b39, rfl⟩⟩ := hp
    · exact absurd b39 (by unfold hasS; omega)
    · refine sx_if_eq X (by decide) (tgt := 245) dX7_comes_229 (by decide) (fun _ => ?_) (fun h => absurd h (by decide))
      rw [hQ]
      exact sx_vret X rfl hs rfl hP dX7_comes_245 (⟨h92.trans (by unfold comeF; rw [← show w37 = wriF (doF w t 5 x) n t 5 x from (by rw [hw37, hw36]; rfl)]; unfold stpF; rw [cif_f (fun q => absurd q.1 (by unfold hasS; omega))]), hO⟩)
  · refine lv_iconst (v := nI 4) X.1.1 X.1.2.1 dX7_comes_0 (by decide) ?_
    refine lv_iconst (v := nI 4) X.1.1 X.1.2.1 dX7_comes_1 (by decide) ?_
    refine lv_iload_n X.1.1 X.1.2.1 dX7_comes_2 rfl (lv_at hl 1 rfl) ?_
    refine sx_mulN X (4 * t) (by omega) dX7_comes_3 ?_
    refine sx_addN X (4 + 4 * t) (by omega) dX7_comes_4 ?_
    refine lv_istore (lv' := [(4, .int (nI (4 + 4 * t))), (0, rf G 91), (1, .int (nI (t))), (2, .int (nI 6)), (3, .int (nI (x)))]) X.1.1 X.1.2.1 dX7_comes_5 hl (by decide) rfl (fun ls hl => ?_)
    refine lv_iload_n X.1.1 X.1.2.1 dX7_comes_7 rfl (lv_at hl 3 rfl) ?_
    refine lv_tableIn (off := 167) (tgt := 175) X.1.1 X.1.2.1 dX7_comes_8 (by decide) (by decide) (by decide) (by decide) ?_
    refine lv_aload_n X.1.1 X.1.2.1 dX7_comes_175 rfl (lv_at hl 1 rfl) ?_
    refine lv_iconst (v := nI 4) X.1.1 X.1.2.1 dX7_comes_176 (by decide) ?_
    refine lv_iconst (v := nI 4) X.1.1 X.1.2.1 dX7_comes_177 (by decide) ?_
    refine lv_iload_n X.1.1 X.1.2.1 dX7_comes_178 rfl (lv_at hl 4 rfl) ?_
    refine sx_mulN X (4 * x) (by omega) dX7_comes_179 ?_
    refine sx_addN X (4 + 4 * x) (by omega) dX7_comes_180 ?_
    refine lv_iload X.1.1 X.1.2.1 dX7_comes_181 (lv_at hl 0 rfl) ?_
    refine sx_cvV (As := [.int (nI (4 + 4 * x)), .int (nI (4 + 4 * t))]) (rest := []) X (mX7_joins l (to := 4 + 4 * x) (fr := 4 + 4 * t) (by omega) (by omega) h91 h92) gX7_comes_X7_joins rfl yv_X7_joins ⟨Nat.le_of_ble_eq_true rfl, Nat.le_of_ble_eq_true rfl⟩ h91 (by decide) rfl rfl hl.1 rfl (Nat.le_of_ble_eq_true rfl) dX7_comes_183 ⟨Nat.le_of_ble_eq_true rfl, Nat.le_of_ble_eq_true rfl⟩ hs rfl hP (fun F40 H40 l40 hp hP => ?_)
    obtain ⟨e40, o40⟩ := hp
    obtain ⟨w40, hw40⟩ : ∃ z, z = joinF w (4 + 4 * x) (4 + 4 * t) := ⟨_, rfl⟩
    rw [← hw40] at e40
    have h92 : F40 (92) = rI G (4358) (w40) := e40
    have h91 := (o40 (91) (by decide)).trans h91
    have hO : ∀ j, j ≠ 92 → F40 j = F j := fun j hj => (o40 j (by omega)).trans (hO j hj)
    have h91n_40 : w40 (91) = (nI (n)) := by rw [hw40]; exact (joinF_out (by omega)).trans h91n
    refine lv_aload_n X.1.1 X.1.2.1 dX7_comes_186 rfl (lv_at hl 1 rfl) ?_
    refine sx_get X hP in_X7_comes_X7 h91 (by decide) rfl 0 (by decide) lk_X7_comes_fieldLink_RX7_7_RaceWatchModel_w_I rfl dX7_comes_187 ?_
    refine lv_iconst (v := nI 0) X.1.1 X.1.2.1 dX7_comes_190 (by decide) ?_
    refine lv_iload_n X.1.1 X.1.2.1 dX7_comes_191 rfl (lv_at hl 4 rfl) ?_
    refine sx_addN X (x) (by omega) dX7_comes_192 ?_
    refine lv_iconst (v := nI 1) X.1.1 X.1.2.1 dX7_comes_193 (by decide) ?_
    refine sx_ast X hP h92 (by decide) (x) (by omega) (by decide) dX7_comes_194 (fun F41 H41 l41 e41 o41 hP => ?_)
    obtain ⟨w41, hw41⟩ : ∃ z, z = upd w40 (x) (nI (1)) := ⟨_, rfl⟩
    rw [← hw41] at e41
    have h91n_40_41 : w41 (91) = (nI (n)) := by rw [hw41]; exact (pk_un (by omega)).trans h91n_40
    have h92 : F41 (92) = rI G (4358) (w41) := e41
    have h91 := (o41 (91) (by decide)).trans h91
    have hO : ∀ j, j ≠ 92 → F41 j = F j := fun j hj => (o41 j (by omega)).trans (hO j hj)
    refine lv_goto (tgt := 218) X.1.1 X.1.2.1 dX7_comes_195 (by decide) ?_
    refine lv_aload_n X.1.1 X.1.2.1 dX7_comes_218 rfl (lv_at hl 1 rfl) ?_
    refine lv_iload_n X.1.1 X.1.2.1 dX7_comes_219 rfl (lv_at hl 2 rfl) ?_
    refine lv_iload_n X.1.1 X.1.2.1 dX7_comes_220 rfl (lv_at hl 3 rfl) ?_
    refine lv_iload_n X.1.1 X.1.2.1 dX7_comes_221 rfl (lv_at hl 4 rfl) ?_
    refine sx_cvV (As := [.int (nI (t)), .int (nI 6), .int (nI (x))]) (rest := []) X (mX7_writes l (n := n) (t := t) (s := 6) (x := x) (by omega) (by omega) (by omega) (by omega) h91n_40_41 h91 h92) gX7_comes_X7_writes rfl yv_X7_writes ⟨Nat.le_of_ble_eq_true rfl, Nat.le_of_ble_eq_true rfl⟩ h91 (by decide) rfl rfl hl.1 rfl (Nat.le_of_ble_eq_true rfl) dX7_comes_222 ⟨Nat.le_of_ble_eq_true rfl, Nat.le_of_ble_eq_true rfl⟩ hs rfl hP (fun F42 H42 l42 hp hP => ?_)
    obtain ⟨e42, o42⟩ := hp
    obtain ⟨w42, hw42⟩ : ∃ z, z = wriF w41 n (t) (6) (x) := ⟨_, rfl⟩
    rw [← hw42] at e42
    have h92 : F42 (92) = rI G (4358) (w42) := e42
    have h91 := (o42 (91) (by decide)).trans h91
    have hO : ∀ j, j ≠ 92 → F42 j = F j := fun j hj => (o42 j (by omega)).trans (hO j hj)
    refine lv_iload_n X.1.1 X.1.2.1 dX7_comes_225 rfl (lv_at hl 3 rfl) ?_
    refine sx_csI (As := [.int (nI 6)]) (rest := []) X (mX7_hasStep l (s := 6) (by omega)) gX7_comes_X7_hasStep rfl ys_X7_hasStep ⟨Nat.le_of_ble_eq_true rfl, Nat.le_of_ble_eq_true rfl⟩ hl.1 rfl (Nat.le_of_ble_eq_true rfl) dX7_comes_226 ⟨Nat.le_of_ble_eq_true rfl, Nat.le_of_ble_eq_true rfl⟩ hs rfl hP (fun r43 F43 H43 l43 hp hP => ?_)
    obtain ⟨rfl, ⟨b44, rfl⟩ | ⟨b44, rfl⟩⟩ := hp
    · refine sx_if_eq X (by decide) (tgt := 245) dX7_comes_229 (by decide) (fun h => absurd h (by decide)) (fun _ => ?_)
      refine lv_aload_n X.1.1 X.1.2.1 dX7_comes_232 rfl (lv_at hl 1 rfl) ?_
      refine lv_iload_n X.1.1 X.1.2.1 dX7_comes_233 rfl (lv_at hl 2 rfl) ?_
      refine sx_cvI (As := [.int (nI (t))]) (rest := []) X (mX7_isMuch l (t := t) (by omega) h91 h92) gX7_comes_X7_isMuch rfl yv_X7_isMuch ⟨Nat.le_of_ble_eq_true rfl, Nat.le_of_ble_eq_true rfl⟩ h91 (by decide) rfl rfl hl.1 rfl (Nat.le_of_ble_eq_true rfl) dX7_comes_234 ⟨Nat.le_of_ble_eq_true rfl, Nat.le_of_ble_eq_true rfl⟩ hs rfl hP (fun r45 F45 H45 l45 hp hP => ?_)
      obtain ⟨rfl, ⟨b46, rfl⟩ | ⟨b46, rfl⟩⟩ := hp
      · refine sx_if_ne X (by decide) (tgt := 245) dX7_comes_237 (by decide) (fun _ => ?_) (fun h => absurd h (by decide))
        rw [hQ]
        exact sx_vret X rfl hs rfl hP dX7_comes_245 (⟨h92.trans (by unfold comeF; rw [← show w42 = wriF (doF w t 6 x) n t 6 x from (by rw [hw42, hw41, hw40]; rfl)]; unfold stpF; rw [cif_f (fun q => q.2 b46)]), hO⟩)
      · refine sx_if_ne X (by decide) (tgt := 245) dX7_comes_237 (by decide) (fun h => absurd h (by decide)) (fun _ => ?_)
        refine lv_aload_n X.1.1 X.1.2.1 dX7_comes_240 rfl (lv_at hl 1 rfl) ?_
        refine lv_iload_n X.1.1 X.1.2.1 dX7_comes_241 rfl (lv_at hl 2 rfl) ?_
        refine sx_cvV (As := [.int (nI (t))]) (rest := []) X (mX7_steps l (t := t) (by omega) h91 h92) gX7_comes_X7_steps rfl yv_X7_steps ⟨Nat.le_of_ble_eq_true rfl, Nat.le_of_ble_eq_true rfl⟩ h91 (by decide) rfl rfl hl.1 rfl (Nat.le_of_ble_eq_true rfl) dX7_comes_242 ⟨Nat.le_of_ble_eq_true rfl, Nat.le_of_ble_eq_true rfl⟩ hs rfl hP (fun F47 H47 l47 hp hP => ?_)
        obtain ⟨e47, o47⟩ := hp
        obtain ⟨w47, hw47⟩ : ∃ z, z = stepF w42 (t) := ⟨_, rfl⟩
        rw [← hw47] at e47
        have h92 : F47 (92) = rI G (4358) (w47) := e47
        have h91 := (o47 (91) (by decide)).trans h91
        have hO : ∀ j, j ≠ 92 → F47 j = F j := fun j hj => (o47 j (by omega)).trans (hO j hj)
        rw [hQ]
        exact sx_vret X rfl hs rfl hP dX7_comes_245 (⟨h92.trans (by rw [hw47]; unfold comeF; rw [← show w42 = wriF (doF w t 6 x) n t 6 x from (by rw [hw42, hw41, hw40]; rfl)]; unfold stpF; rw [cif_t ⟨by unfold hasS; omega, b46⟩]), hO⟩)
    · exact absurd (by unfold hasS; omega) b44
  · refine lv_iconst (v := nI 4) X.1.1 X.1.2.1 dX7_comes_0 (by decide) ?_
    refine lv_iconst (v := nI 4) X.1.1 X.1.2.1 dX7_comes_1 (by decide) ?_
    refine lv_iload_n X.1.1 X.1.2.1 dX7_comes_2 rfl (lv_at hl 1 rfl) ?_
    refine sx_mulN X (4 * t) (by omega) dX7_comes_3 ?_
    refine sx_addN X (4 + 4 * t) (by omega) dX7_comes_4 ?_
    refine lv_istore (lv' := [(4, .int (nI (4 + 4 * t))), (0, rf G 91), (1, .int (nI (t))), (2, .int (nI 7)), (3, .int (nI (x)))]) X.1.1 X.1.2.1 dX7_comes_5 hl (by decide) rfl (fun ls hl => ?_)
    refine lv_iload_n X.1.1 X.1.2.1 dX7_comes_7 rfl (lv_at hl 3 rfl) ?_
    refine lv_tableOut (tgt := 198) X.1.1 X.1.2.1 dX7_comes_8 (by decide) (by decide) ?_
    refine lv_aload_n X.1.1 X.1.2.1 dX7_comes_198 rfl (lv_at hl 1 rfl) ?_
    refine lv_iload X.1.1 X.1.2.1 dX7_comes_199 (lv_at hl 0 rfl) ?_
    refine lv_iconst (v := nI 4) X.1.1 X.1.2.1 dX7_comes_201 (by decide) ?_
    refine lv_iconst (v := nI 4) X.1.1 X.1.2.1 dX7_comes_202 (by decide) ?_
    refine lv_iload_n X.1.1 X.1.2.1 dX7_comes_203 rfl (lv_at hl 4 rfl) ?_
    refine sx_mulN X (4 * x) (by omega) dX7_comes_204 ?_
    refine sx_addN X (4 + 4 * x) (by omega) dX7_comes_205 ?_
    refine sx_cvV (As := [.int (nI (4 + 4 * t)), .int (nI (4 + 4 * x))]) (rest := []) X (mX7_joins l (to := 4 + 4 * t) (fr := 4 + 4 * x) (by omega) (by omega) h91 h92) gX7_comes_X7_joins rfl yv_X7_joins ⟨Nat.le_of_ble_eq_true rfl, Nat.le_of_ble_eq_true rfl⟩ h91 (by decide) rfl rfl hl.1 rfl (Nat.le_of_ble_eq_true rfl) dX7_comes_206 ⟨Nat.le_of_ble_eq_true rfl, Nat.le_of_ble_eq_true rfl⟩ hs rfl hP (fun F48 H48 l48 hp hP => ?_)
    obtain ⟨e48, o48⟩ := hp
    obtain ⟨w48, hw48⟩ : ∃ z, z = joinF w (4 + 4 * t) (4 + 4 * x) := ⟨_, rfl⟩
    rw [← hw48] at e48
    have h92 : F48 (92) = rI G (4358) (w48) := e48
    have h91 := (o48 (91) (by decide)).trans h91
    have hO : ∀ j, j ≠ 92 → F48 j = F j := fun j hj => (o48 j (by omega)).trans (hO j hj)
    have h91n_48 : w48 (91) = (nI (n)) := by rw [hw48]; exact (joinF_out (by omega)).trans h91n
    refine lv_aload_n X.1.1 X.1.2.1 dX7_comes_209 rfl (lv_at hl 1 rfl) ?_
    refine sx_get X hP in_X7_comes_X7 h91 (by decide) rfl 0 (by decide) lk_X7_comes_fieldLink_RX7_7_RaceWatchModel_w_I rfl dX7_comes_210 ?_
    refine lv_iconst (v := nI 0) X.1.1 X.1.2.1 dX7_comes_213 (by decide) ?_
    refine lv_iload_n X.1.1 X.1.2.1 dX7_comes_214 rfl (lv_at hl 4 rfl) ?_
    refine sx_addN X (x) (by omega) dX7_comes_215 ?_
    refine lv_iconst (v := nI 2) X.1.1 X.1.2.1 dX7_comes_216 (by decide) ?_
    refine sx_ast X hP h92 (by decide) (x) (by omega) (by decide) dX7_comes_217 (fun F49 H49 l49 e49 o49 hP => ?_)
    obtain ⟨w49, hw49⟩ : ∃ z, z = upd w48 (x) (nI (2)) := ⟨_, rfl⟩
    rw [← hw49] at e49
    have h91n_48_49 : w49 (91) = (nI (n)) := by rw [hw49]; exact (pk_un (by omega)).trans h91n_48
    have h92 : F49 (92) = rI G (4358) (w49) := e49
    have h91 := (o49 (91) (by decide)).trans h91
    have hO : ∀ j, j ≠ 92 → F49 j = F j := fun j hj => (o49 j (by omega)).trans (hO j hj)
    refine lv_aload_n X.1.1 X.1.2.1 dX7_comes_218 rfl (lv_at hl 1 rfl) ?_
    refine lv_iload_n X.1.1 X.1.2.1 dX7_comes_219 rfl (lv_at hl 2 rfl) ?_
    refine lv_iload_n X.1.1 X.1.2.1 dX7_comes_220 rfl (lv_at hl 3 rfl) ?_
    refine lv_iload_n X.1.1 X.1.2.1 dX7_comes_221 rfl (lv_at hl 4 rfl) ?_
    refine sx_cvV (As := [.int (nI (t)), .int (nI 7), .int (nI (x))]) (rest := []) X (mX7_writes l (n := n) (t := t) (s := 7) (x := x) (by omega) (by omega) (by omega) (by omega) h91n_48_49 h91 h92) gX7_comes_X7_writes rfl yv_X7_writes ⟨Nat.le_of_ble_eq_true rfl, Nat.le_of_ble_eq_true rfl⟩ h91 (by decide) rfl rfl hl.1 rfl (Nat.le_of_ble_eq_true rfl) dX7_comes_222 ⟨Nat.le_of_ble_eq_true rfl, Nat.le_of_ble_eq_true rfl⟩ hs rfl hP (fun F50 H50 l50 hp hP => ?_)
    obtain ⟨e50, o50⟩ := hp
    obtain ⟨w50, hw50⟩ : ∃ z, z = wriF w49 n (t) (7) (x) := ⟨_, rfl⟩
    rw [← hw50] at e50
    have h92 : F50 (92) = rI G (4358) (w50) := e50
    have h91 := (o50 (91) (by decide)).trans h91
    have hO : ∀ j, j ≠ 92 → F50 j = F j := fun j hj => (o50 j (by omega)).trans (hO j hj)
    refine lv_iload_n X.1.1 X.1.2.1 dX7_comes_225 rfl (lv_at hl 3 rfl) ?_
    refine sx_csI (As := [.int (nI 7)]) (rest := []) X (mX7_hasStep l (s := 7) (by omega)) gX7_comes_X7_hasStep rfl ys_X7_hasStep ⟨Nat.le_of_ble_eq_true rfl, Nat.le_of_ble_eq_true rfl⟩ hl.1 rfl (Nat.le_of_ble_eq_true rfl) dX7_comes_226 ⟨Nat.le_of_ble_eq_true rfl, Nat.le_of_ble_eq_true rfl⟩ hs rfl hP (fun r51 F51 H51 l51 hp hP => ?_)
    obtain ⟨rfl, ⟨b52, rfl⟩ | ⟨b52, rfl⟩⟩ := hp
    · exact absurd b52 (by unfold hasS; omega)
    · refine sx_if_eq X (by decide) (tgt := 245) dX7_comes_229 (by decide) (fun _ => ?_) (fun h => absurd h (by decide))
      rw [hQ]
      exact sx_vret X rfl hs rfl hP dX7_comes_245 (⟨h92.trans (by unfold comeF; rw [← show w50 = wriF (doF w t 7 x) n t 7 x from (by rw [hw50, hw49, hw48]; rfl)]; unfold stpF; rw [cif_f (fun q => absurd q.1 (by unfold hasS; omega))]), hO⟩)
theorem ys_X7_event : yX7_event.cls ≠ "java/lang/invoke/MethodHandle" ∧ yX7_event.cls ≠ "java/lang/invoke/VarHandle" ∧ (parseMethodDescriptor yX7_event.desc).map (fun d => d.parameters.length) = some 3 := by decide +kernel
theorem yv_X7_event : yX7_event.cls = RX7 ∧ yX7_event.cls ≠ "java/lang/invoke/MethodHandle" ∧ yX7_event.cls ≠ "java/lang/invoke/VarHandle" ∧ (parseMethodDescriptor yX7_event.desc).map (fun d => d.parameters.length) = some 3 := ⟨rfl, ys_X7_event⟩
theorem lk_X7_event_constantLong_RX7_91_7 : (.constantLong RX7 91 (7) : Cond) ∈ wsX7_event := List.mem_cons_of_mem _ (List.mem_append_left _ (List.mem_append_left _ (List.mem_of_getElem? (i := 0) rfl)))
theorem in_X7_event_X7 : ∀ w ∈ wsX70, w ∈ wsX7_event := fun _ h => List.mem_cons_of_mem _ (List.mem_append_right _ (h))
theorem lk_X7_event_fieldLink_RX7_7_RaceWatchModel_w_I : (.fieldLink RX7 7 "RaceWatchModel" "w" "[I" : Cond) ∈ wsX7_event := List.mem_cons_of_mem _ (List.mem_append_left _ (List.mem_append_left _ (List.mem_of_getElem? (i := 4) rfl)))
theorem lk_X7_event_constant_RX7_104_1000000005 : (.constant RX7 104 (-1000000005) : Cond) ∈ wsX7_event := List.mem_cons_of_mem _ (List.mem_append_left _ (List.mem_append_left _ (List.mem_of_getElem? (i := 6) rfl)))
theorem lk_X7_event_constant_RX7_103_1000000004 : (.constant RX7 103 (-1000000004) : Cond) ∈ wsX7_event := List.mem_cons_of_mem _ (List.mem_append_left _ (List.mem_append_left _ (List.mem_of_getElem? (i := 5) rfl)))
theorem lk_X7_event_constant_RX7_102_1000000003 : (.constant RX7 102 (-1000000003) : Cond) ∈ wsX7_event := List.mem_cons_of_mem _ (List.mem_append_left _ (List.mem_append_left _ (List.mem_of_getElem? (i := 3) rfl)))
theorem lk_X7_event_constant_RX7_97_1000000001 : (.constant RX7 97 (-1000000001) : Cond) ∈ wsX7_event := List.mem_cons_of_mem _ (List.mem_append_left _ (List.mem_append_left _ (List.mem_of_getElem? (i := 1) rfl)))
theorem lk_X7_event_constant_RX7_98_1000000002 : (.constant RX7 98 (-1000000002) : Cond) ∈ wsX7_event := List.mem_cons_of_mem _ (List.mem_append_left _ (List.mem_append_left _ (List.mem_of_getElem? (i := 2) rfl)))
abbrev rmX7_event : Room := { frames := 4, cells := 0, slots := 0, locals := 101 }
set_option maxHeartbeats 4000000 in
set_option maxRecDepth 100000 in
theorem mX7_event {G : sx_G} (l : Launch) {F : Nat → va_E} {w : Nat → Int32} {of : List Value} {n : Nat} {th so wi : Int32} (hn : n ≤ 160) (h91n : w 91 = nI n) (hok : ∀ c, c < 4 → okC w c) (h91 : F (91) = ob 7 (rf G 92 :: of)) (h92 : F (92) = rI G (4358) (w)) : sx_I G l yX7_event wsX7_event rmX7_event [rf G 91, .int (th), .int (so), .int (wi)] (97) F (97) (fun r F1 => F1 92 = rI G 4358 (evF w n th so wi).2 ∧ (∀ j, j ≠ 92 → F1 j = F j) ∧ (evF w n th so wi).1 = r) := by
  refine sx_enter (cc := cX7_event) (maxL := 4) (ret := some .int) (own := RX7) (nm := "event") (by decide) rfl rfl rfl (Nat.le_of_ble_eq_true rfl) ?_
  intro pp ee ss mm args below meth kc ls Q hQ X hs hP hl
  have hl : lv_has ls 4 [(0, rf G 91), (1, .int (th)), (2, .int (so)), (3, .int (wi))] := hl
  have hO : ∀ j, j ≠ 92 → F j = F j := fun _ _ => rfl
  refine lv_iload_n X.1.1 X.1.2.1 dX7_event_0 rfl (lv_at hl 1 rfl) ?_
  refine sx_csI (As := [.int (th)]) (rest := []) X (mX7_isThread l (x := (th))) gX7_event_X7_isThread rfl ys_X7_isThread ⟨Nat.le_of_ble_eq_true rfl, Nat.le_of_ble_eq_true rfl⟩ hl.1 rfl (Nat.le_of_ble_eq_true rfl) dX7_event_1 ⟨Nat.le_of_ble_eq_true rfl, Nat.le_of_ble_eq_true rfl⟩ hs rfl hP (fun r1 F1 H1 l1 hp hP => ?_)
  obtain ⟨rfl, ⟨b2, rfl⟩ | ⟨b2, rfl⟩⟩ := hp
  · obtain ⟨t, ht, rfl⟩ := b2
    refine sx_if_eq X (by decide) (tgt := 28) dX7_event_4 (by decide) (fun h => absurd h (by decide)) (fun _ => ?_)
    refine lv_iload_n X.1.1 X.1.2.1 dX7_event_7 rfl (lv_at hl 2 rfl) ?_
    refine lv_i2l (v := (so).toInt64) X.1.1 X.1.2.1 dX7_event_8 rfl ?_
    refine lv_lconst (v := 0) X.1.1 X.1.2.1 dX7_event_9 (by decide) ?_
    refine lv_ldc2 (v := 7) X.1.1 X.1.2.1 X.1.2.2.2.1 (X.1.2.2.2.2 _ lk_X7_event_constantLong_RX7_91_7) dX7_event_10 ?_
    refine sx_csI (As := [.long ((so).toInt64), .long (0), .long (7)]) (rest := []) X (mX7_in l) gX7_event_X7_in rfl ys_X7_in ⟨Nat.le_of_ble_eq_true rfl, Nat.le_of_ble_eq_true rfl⟩ hl.1 rfl (Nat.le_of_ble_eq_true rfl) dX7_event_13 ⟨Nat.le_of_ble_eq_true rfl, Nat.le_of_ble_eq_true rfl⟩ hs rfl hP (fun r3 F3 H3 l3 hp hP => ?_)
    obtain ⟨rfl, ⟨b4, rfl⟩ | ⟨b4, rfl⟩⟩ := hp
    · obtain ⟨s, hs8, rfl⟩ := sx_in64 (k := 8) (by decide) (by decide) b4
      refine sx_if_eq X (by decide) (tgt := 31) dX7_event_16 (by decide) (fun h => absurd h (by decide)) (fun _ => ?_)
      refine lv_iload_n X.1.1 X.1.2.1 dX7_event_19 rfl (lv_at hl 1 rfl) ?_
      refine lv_iload_n X.1.1 X.1.2.1 dX7_event_20 rfl (lv_at hl 2 rfl) ?_
      refine lv_iload_n X.1.1 X.1.2.1 dX7_event_21 rfl (lv_at hl 3 rfl) ?_
      refine sx_csI (As := [.int (nI (t)), .int (nI (s)), .int (wi)]) (rest := []) X (mX7_isWith l (t := t) (s := s) (x := (wi)) (by omega) (by omega)) gX7_event_X7_isWith rfl ys_X7_isWith ⟨Nat.le_of_ble_eq_true rfl, Nat.le_of_ble_eq_true rfl⟩ hl.1 rfl (Nat.le_of_ble_eq_true rfl) dX7_event_22 ⟨Nat.le_of_ble_eq_true rfl, Nat.le_of_ble_eq_true rfl⟩ hs rfl hP (fun r5 F5 H5 l5 hp hP => ?_)
      obtain ⟨rfl, ⟨b6, rfl⟩ | ⟨b6, rfl⟩⟩ := hp
      · obtain ⟨x, hxb, rfl, hxt⟩ := b6
        have hwith : withF t s (nI x) := ⟨x, hxb, rfl, hxt⟩
        have hx4 : x < 4 := Nat.lt_of_lt_of_le hxb (boundF_le s)
        refine sx_if_ne X (by decide) (tgt := 31) dX7_event_25 (by decide) (fun _ => ?_) (fun h => absurd h (by decide))
        refine lv_iload_n X.1.1 X.1.2.1 dX7_event_31 rfl (lv_at hl 2 rfl) ?_
        refine lv_i2l (v := (nI (s)).toInt64) X.1.1 X.1.2.1 dX7_event_32 rfl ?_
        refine lv_lconst (v := 0) X.1.1 X.1.2.1 dX7_event_33 (by decide) ?_
        refine lv_ldc2 (v := 7) X.1.1 X.1.2.1 X.1.2.2.2.1 (X.1.2.2.2.2 _ lk_X7_event_constantLong_RX7_91_7) dX7_event_34 ?_
        refine sx_csI (As := [.long ((nI (s)).toInt64), .long (0), .long (7)]) (rest := []) X (mX7_in l) gX7_event_X7_in rfl ys_X7_in ⟨Nat.le_of_ble_eq_true rfl, Nat.le_of_ble_eq_true rfl⟩ hl.1 rfl (Nat.le_of_ble_eq_true rfl) dX7_event_37 ⟨Nat.le_of_ble_eq_true rfl, Nat.le_of_ble_eq_true rfl⟩ hs rfl hP (fun r7 F7 H7 l7 hp hP => ?_)
        obtain ⟨rfl, ⟨b8, rfl⟩ | ⟨b8, rfl⟩⟩ := hp
        · refine sx_if_ne X (by decide) (tgt := 46) dX7_event_40 (by decide) (fun _ => ?_) (fun h => absurd h (by decide))
          refine lv_aload_n X.1.1 X.1.2.1 dX7_event_46 rfl (lv_at hl 0 rfl) ?_
          refine lv_iload_n X.1.1 X.1.2.1 dX7_event_47 rfl (lv_at hl 1 rfl) ?_
          refine lv_iload_n X.1.1 X.1.2.1 dX7_event_48 rfl (lv_at hl 2 rfl) ?_
          refine lv_iload_n X.1.1 X.1.2.1 dX7_event_49 rfl (lv_at hl 3 rfl) ?_
          refine sx_cvI (As := [.int (nI (t)), .int (nI (s)), .int (nI (x))]) (rest := []) X (mX7_can l (t := t) (s := s) (x := x) (by omega) (by omega) (by omega) h91 h92) gX7_event_X7_can rfl yv_X7_can ⟨Nat.le_of_ble_eq_true rfl, Nat.le_of_ble_eq_true rfl⟩ h91 (by decide) rfl rfl hl.1 rfl (Nat.le_of_ble_eq_true rfl) dX7_event_50 ⟨Nat.le_of_ble_eq_true rfl, Nat.le_of_ble_eq_true rfl⟩ hs rfl hP (fun r9 F9 H9 l9 hp hP => ?_)
          obtain ⟨rfl, ⟨b10, rfl⟩ | ⟨b10, rfl⟩⟩ := hp
          · refine sx_if_ne X (by decide) (tgt := 59) dX7_event_53 (by decide) (fun _ => ?_) (fun h => absurd h (by decide))
            refine lv_aload_n X.1.1 X.1.2.1 dX7_event_59 rfl (lv_at hl 0 rfl) ?_
            refine sx_get X hP in_X7_event_X7 h91 (by decide) rfl 0 (by decide) lk_X7_event_fieldLink_RX7_7_RaceWatchModel_w_I rfl dX7_event_60 ?_
            refine lv_bipush (v := nI 91) X.1.1 X.1.2.1 dX7_event_63 (by decide) ?_
            refine sx_ald X hP h92 (by decide) (91) (by decide) (by decide) dX7_event_65 ?_
            rw [h91n]
            refine lv_sipush (v := nI 160) X.1.1 X.1.2.1 dX7_event_66 (by decide) ?_
            refine sx_icmp_ne X (by omega) (by decide) (tgt := 75) dX7_event_69 (by decide) (fun c69 => ?_) (fun c69 => ?_)
            · refine lv_iload_n X.1.1 X.1.2.1 dX7_event_75 rfl (lv_at hl 2 rfl) ?_
              refine sx_csI (As := [.int (nI (s))]) (rest := []) X (mX7_hasStep l (s := s) (by omega)) gX7_event_X7_hasStep rfl ys_X7_hasStep ⟨Nat.le_of_ble_eq_true rfl, Nat.le_of_ble_eq_true rfl⟩ hl.1 rfl (Nat.le_of_ble_eq_true rfl) dX7_event_76 ⟨Nat.le_of_ble_eq_true rfl, Nat.le_of_ble_eq_true rfl⟩ hs rfl hP (fun r11 F11 H11 l11 hp hP => ?_)
              obtain ⟨rfl, ⟨b12, rfl⟩ | ⟨b12, rfl⟩⟩ := hp
              · refine sx_if_eq X (by decide) (tgt := 93) dX7_event_79 (by decide) (fun h => absurd h (by decide)) (fun _ => ?_)
                refine lv_aload_n X.1.1 X.1.2.1 dX7_event_82 rfl (lv_at hl 0 rfl) ?_
                refine lv_iload_n X.1.1 X.1.2.1 dX7_event_83 rfl (lv_at hl 1 rfl) ?_
                refine sx_cvI (As := [.int (nI (t))]) (rest := []) X (mX7_isMuch l (t := t) (by omega) h91 h92) gX7_event_X7_isMuch rfl yv_X7_isMuch ⟨Nat.le_of_ble_eq_true rfl, Nat.le_of_ble_eq_true rfl⟩ h91 (by decide) rfl rfl hl.1 rfl (Nat.le_of_ble_eq_true rfl) dX7_event_84 ⟨Nat.le_of_ble_eq_true rfl, Nat.le_of_ble_eq_true rfl⟩ hs rfl hP (fun r13 F13 H13 l13 hp hP => ?_)
                obtain ⟨rfl, ⟨b14, rfl⟩ | ⟨b14, rfl⟩⟩ := hp
                · refine sx_if_eq X (by decide) (tgt := 93) dX7_event_87 (by decide) (fun h => absurd h (by decide)) (fun _ => ?_)
                  refine lv_ldc (v := -1000000005) X.1.1 X.1.2.1 X.1.2.2.2.1 (X.1.2.2.2.2 _ lk_X7_event_constant_RX7_104_1000000005) dX7_event_90 ?_
                  have hev : evF w n (nI t) (nI s) (nI x) = _ := (evF_go (n := n) ht hs8 (by omega) hwith).trans (by unfold evG; rw [cif_f (fun q => q b10), cif_f c69, cif_t ⟨b12, b14⟩])
                  rw [hQ]
                  exact sx_iret X rfl hs rfl hP dX7_event_92 (⟨h92.trans (by rw [hev]), hO, by rw [hev]⟩)
                · refine sx_if_eq X (by decide) (tgt := 93) dX7_event_87 (by decide) (fun _ => ?_) (fun h => absurd h (by decide))
                  refine lv_aload_n X.1.1 X.1.2.1 dX7_event_93 rfl (lv_at hl 0 rfl) ?_
                  refine lv_iload_n X.1.1 X.1.2.1 dX7_event_94 rfl (lv_at hl 1 rfl) ?_
                  refine lv_iload_n X.1.1 X.1.2.1 dX7_event_95 rfl (lv_at hl 2 rfl) ?_
                  refine lv_iload_n X.1.1 X.1.2.1 dX7_event_96 rfl (lv_at hl 3 rfl) ?_
                  refine sx_cvV (As := [.int (nI (t)), .int (nI (s)), .int (nI (x))]) (rest := []) X (mX7_comes l (n := n) (t := t) (s := s) (x := x) (by omega) (by omega) (by omega) (by omega) h91n (fun _ => hok _ (by omega)) h91 h92) gX7_event_X7_comes rfl yv_X7_comes ⟨Nat.le_of_ble_eq_true rfl, Nat.le_of_ble_eq_true rfl⟩ h91 (by decide) rfl rfl hl.1 rfl (Nat.le_of_ble_eq_true rfl) dX7_event_97 ⟨Nat.le_of_ble_eq_true rfl, Nat.le_of_ble_eq_true rfl⟩ hs rfl hP (fun F15 H15 l15 hp hP => ?_)
                  obtain ⟨e15, o15⟩ := hp
                  obtain ⟨w15, hw15⟩ : ∃ z, z = comeF w (n) (t) (s) (x) := ⟨_, rfl⟩
                  rw [← hw15] at e15
                  have h92 : F15 (92) = rI G (4358) (w15) := e15
                  have h91 := (o15 (91) (by decide)).trans h91
                  have hO : ∀ j, j ≠ 92 → F15 j = F j := fun j hj => (o15 j (by omega)).trans (hO j hj)
                  have h91n_15 : w15 91 = nI (1 + n) := by rw [hw15]; exact (comeF_91 (by omega)).trans (congrArg nI (by omega))
                  refine lv_aload_n X.1.1 X.1.2.1 dX7_event_100 rfl (lv_at hl 0 rfl) ?_
                  refine sx_get X hP in_X7_event_X7 h91 (by decide) rfl 0 (by decide) lk_X7_event_fieldLink_RX7_7_RaceWatchModel_w_I rfl dX7_event_101 ?_
                  refine lv_bipush (v := nI 91) X.1.1 X.1.2.1 dX7_event_104 (by decide) ?_
                  refine sx_ald X hP h92 (by decide) (91) (by decide) (by decide) dX7_event_106 ?_
                  rw [h91n_15]
                  refine lv_iconst (v := nI 1) X.1.1 X.1.2.1 dX7_event_107 (by decide) ?_
                  refine sx_subN X (n) (by omega) (by omega) dX7_event_108 ?_
                  have hev : evF w n (nI t) (nI s) (nI x) = _ := (evF_go (n := n) ht hs8 (by omega) hwith).trans (by unfold evG; rw [cif_f (fun q => q b10), cif_f c69, cif_f (fun q => b14 q.2)])
                  rw [hQ]
                  exact sx_iret X rfl hs rfl hP dX7_event_109 (⟨h92.trans (by rw [hev, hw15]), hO, by rw [hev]⟩)
              · refine sx_if_eq X (by decide) (tgt := 93) dX7_event_79 (by decide) (fun _ => ?_) (fun h => absurd h (by decide))
                refine lv_aload_n X.1.1 X.1.2.1 dX7_event_93 rfl (lv_at hl 0 rfl) ?_
                refine lv_iload_n X.1.1 X.1.2.1 dX7_event_94 rfl (lv_at hl 1 rfl) ?_
                refine lv_iload_n X.1.1 X.1.2.1 dX7_event_95 rfl (lv_at hl 2 rfl) ?_
                refine lv_iload_n X.1.1 X.1.2.1 dX7_event_96 rfl (lv_at hl 3 rfl) ?_
                refine sx_cvV (As := [.int (nI (t)), .int (nI (s)), .int (nI (x))]) (rest := []) X (mX7_comes l (n := n) (t := t) (s := s) (x := x) (by omega) (by omega) (by omega) (by omega) h91n (fun _ => hok _ (by omega)) h91 h92) gX7_event_X7_comes rfl yv_X7_comes ⟨Nat.le_of_ble_eq_true rfl, Nat.le_of_ble_eq_true rfl⟩ h91 (by decide) rfl rfl hl.1 rfl (Nat.le_of_ble_eq_true rfl) dX7_event_97 ⟨Nat.le_of_ble_eq_true rfl, Nat.le_of_ble_eq_true rfl⟩ hs rfl hP (fun F16 H16 l16 hp hP => ?_)
                obtain ⟨e16, o16⟩ := hp
                obtain ⟨w16, hw16⟩ : ∃ z, z = comeF w (n) (t) (s) (x) := ⟨_, rfl⟩
                rw [← hw16] at e16
                have h92 : F16 (92) = rI G (4358) (w16) := e16
                have h91 := (o16 (91) (by decide)).trans h91
                have hO : ∀ j, j ≠ 92 → F16 j = F j := fun j hj => (o16 j (by omega)).trans (hO j hj)
                have h91n_16 : w16 91 = nI (1 + n) := by rw [hw16]; exact (comeF_91 (by omega)).trans (congrArg nI (by omega))
                refine lv_aload_n X.1.1 X.1.2.1 dX7_event_100 rfl (lv_at hl 0 rfl) ?_
                refine sx_get X hP in_X7_event_X7 h91 (by decide) rfl 0 (by decide) lk_X7_event_fieldLink_RX7_7_RaceWatchModel_w_I rfl dX7_event_101 ?_
                refine lv_bipush (v := nI 91) X.1.1 X.1.2.1 dX7_event_104 (by decide) ?_
                refine sx_ald X hP h92 (by decide) (91) (by decide) (by decide) dX7_event_106 ?_
                rw [h91n_16]
                refine lv_iconst (v := nI 1) X.1.1 X.1.2.1 dX7_event_107 (by decide) ?_
                refine sx_subN X (n) (by omega) (by omega) dX7_event_108 ?_
                have hev : evF w n (nI t) (nI s) (nI x) = _ := (evF_go (n := n) ht hs8 (by omega) hwith).trans (by unfold evG; rw [cif_f (fun q => q b10), cif_f c69, cif_f (fun q => b12 q.1)])
                rw [hQ]
                exact sx_iret X rfl hs rfl hP dX7_event_109 (⟨h92.trans (by rw [hev, hw16]), hO, by rw [hev]⟩)
            · refine lv_ldc (v := -1000000004) X.1.1 X.1.2.1 X.1.2.2.2.1 (X.1.2.2.2.2 _ lk_X7_event_constant_RX7_103_1000000004) dX7_event_72 ?_
              have hev : evF w n (nI t) (nI s) (nI x) = _ := (evF_go (n := n) ht hs8 (by omega) hwith).trans (by unfold evG; rw [cif_f (fun q => q b10), cif_t c69])
              rw [hQ]
              exact sx_iret X rfl hs rfl hP dX7_event_74 (⟨h92.trans (by rw [hev]), hO, by rw [hev]⟩)
          · refine sx_if_ne X (by decide) (tgt := 59) dX7_event_53 (by decide) (fun h => absurd h (by decide)) (fun _ => ?_)
            refine lv_ldc (v := -1000000003) X.1.1 X.1.2.1 X.1.2.2.2.1 (X.1.2.2.2.2 _ lk_X7_event_constant_RX7_102_1000000003) dX7_event_56 ?_
            have hev : evF w n (nI t) (nI s) (nI x) = _ := (evF_go (n := n) ht hs8 (by omega) hwith).trans (by unfold evG; rw [cif_t b10])
            rw [hQ]
            exact sx_iret X rfl hs rfl hP dX7_event_58 (⟨h92.trans (by rw [hev]), hO, by rw [hev]⟩)
        · exact absurd (sx_64in (k := 8) (by decide) (by decide) ⟨_, hs8, rfl⟩) b8
      · refine sx_if_ne X (by decide) (tgt := 31) dX7_event_25 (by decide) (fun h => absurd h (by decide)) (fun _ => ?_)
        refine lv_ldc (v := -1000000001) X.1.1 X.1.2.1 X.1.2.2.2.1 (X.1.2.2.2.2 _ lk_X7_event_constant_RX7_97_1000000001) dX7_event_28 ?_
        have hev : evF w n (nI t) (nI s) wi = _ := evF_U2 ht hs8 b6
        rw [hQ]
        exact sx_iret X rfl hs rfl hP dX7_event_30 (⟨h92.trans (by rw [hev]), hO, by rw [hev]⟩)
    · refine sx_if_eq X (by decide) (tgt := 31) dX7_event_16 (by decide) (fun _ => ?_) (fun h => absurd h (by decide))
      refine lv_iload_n X.1.1 X.1.2.1 dX7_event_31 rfl (lv_at hl 2 rfl) ?_
      refine lv_i2l (v := (so).toInt64) X.1.1 X.1.2.1 dX7_event_32 rfl ?_
      refine lv_lconst (v := 0) X.1.1 X.1.2.1 dX7_event_33 (by decide) ?_
      refine lv_ldc2 (v := 7) X.1.1 X.1.2.1 X.1.2.2.2.1 (X.1.2.2.2.2 _ lk_X7_event_constantLong_RX7_91_7) dX7_event_34 ?_
      refine sx_csI (As := [.long ((so).toInt64), .long (0), .long (7)]) (rest := []) X (mX7_in l) gX7_event_X7_in rfl ys_X7_in ⟨Nat.le_of_ble_eq_true rfl, Nat.le_of_ble_eq_true rfl⟩ hl.1 rfl (Nat.le_of_ble_eq_true rfl) dX7_event_37 ⟨Nat.le_of_ble_eq_true rfl, Nat.le_of_ble_eq_true rfl⟩ hs rfl hP (fun r17 F17 H17 l17 hp hP => ?_)
      obtain ⟨rfl, ⟨b18, rfl⟩ | ⟨b18, rfl⟩⟩ := hp
      · exact absurd b18 b4
      · refine sx_if_ne X (by decide) (tgt := 46) dX7_event_40 (by decide) (fun h => absurd h (by decide)) (fun _ => ?_)
        refine lv_ldc (v := -1000000002) X.1.1 X.1.2.1 X.1.2.2.2.1 (X.1.2.2.2.2 _ lk_X7_event_constant_RX7_98_1000000002) dX7_event_43 ?_
        have hev : evF w n (nI t) so wi = _ := evF_O ht (fun q => b4 (sx_64in (by decide) (by decide) q))
        rw [hQ]
        exact sx_iret X rfl hs rfl hP dX7_event_45 (⟨h92.trans (by rw [hev]), hO, by rw [hev]⟩)
  · refine sx_if_eq X (by decide) (tgt := 28) dX7_event_4 (by decide) (fun _ => ?_) (fun h => absurd h (by decide))
    refine lv_ldc (v := -1000000001) X.1.1 X.1.2.1 X.1.2.2.2.1 (X.1.2.2.2.2 _ lk_X7_event_constant_RX7_97_1000000001) dX7_event_28 ?_
    have hev : evF w n th so wi = _ := evF_U1 b2
    rw [hQ]
    exact sx_iret X rfl hs rfl hP dX7_event_30 (⟨h92.trans (by rw [hev]), hO, by rw [hev]⟩)
theorem ys_X7_jump : yX7_jump.cls ≠ "java/lang/invoke/MethodHandle" ∧ yX7_jump.cls ≠ "java/lang/invoke/VarHandle" ∧ (parseMethodDescriptor yX7_jump.desc).map (fun d => d.parameters.length) = some 2 := by decide +kernel
theorem yv_X7_jump : yX7_jump.cls = RX7 ∧ yX7_jump.cls ≠ "java/lang/invoke/MethodHandle" ∧ yX7_jump.cls ≠ "java/lang/invoke/VarHandle" ∧ (parseMethodDescriptor yX7_jump.desc).map (fun d => d.parameters.length) = some 2 := ⟨rfl, ys_X7_jump⟩
theorem in_X7_jump_X7 : ∀ w ∈ wsX70, w ∈ wsX7_jump := fun _ h => List.mem_cons_of_mem _ (List.mem_append_right _ (h))
theorem lk_X7_jump_fieldLink_RX7_7_RaceWatchModel_w_I : (.fieldLink RX7 7 "RaceWatchModel" "w" "[I" : Cond) ∈ wsX7_jump := List.mem_cons_of_mem _ (List.mem_append_left _ (List.mem_of_getElem? (i := 2) rfl))
theorem lk_X7_jump_constantLong_RX7_108_2147483647 : (.constantLong RX7 108 (2147483647) : Cond) ∈ wsX7_jump := List.mem_cons_of_mem _ (List.mem_append_left _ (List.mem_of_getElem? (i := 4) rfl))
theorem lk_X7_jump_constant_RX7_104_1000000005 : (.constant RX7 104 (-1000000005) : Cond) ∈ wsX7_jump := List.mem_cons_of_mem _ (List.mem_append_left _ (List.mem_of_getElem? (i := 5) rfl))
theorem lk_X7_jump_constant_RX7_102_1000000003 : (.constant RX7 102 (-1000000003) : Cond) ∈ wsX7_jump := List.mem_cons_of_mem _ (List.mem_append_left _ (List.mem_of_getElem? (i := 3) rfl))
theorem lk_X7_jump_constant_RX7_98_1000000002 : (.constant RX7 98 (-1000000002) : Cond) ∈ wsX7_jump := List.mem_cons_of_mem _ (List.mem_append_left _ (List.mem_of_getElem? (i := 1) rfl))
theorem lk_X7_jump_constant_RX7_97_1000000001 : (.constant RX7 97 (-1000000001) : Cond) ∈ wsX7_jump := List.mem_cons_of_mem _ (List.mem_append_left _ (List.mem_of_getElem? (i := 0) rfl))
abbrev rmX7_jump : Room := { frames := 2, cells := 0, slots := 0, locals := 45 }
set_option maxHeartbeats 4000000 in
set_option maxRecDepth 100000 in
theorem mX7_jump {G : sx_G} (l : Launch) {F : Nat → va_E} {w : Nat → Int32} {of : List Value} {th v : Int32} (h91 : F (91) = ob 7 (rf G 92 :: of)) (h92 : F (92) = rI G (4358) (w)) : sx_I G l yX7_jump wsX7_jump rmX7_jump [rf G 91, .int (th), .int (v)] (97) F (97) (fun r F1 => F1 92 = rI G 4358 (jumpF w th v).2 ∧ (∀ j, j ≠ 92 → F1 j = F j) ∧ (jumpF w th v).1 = r) := by
  refine sx_enter (cc := cX7_jump) (maxL := 3) (ret := some .int) (own := RX7) (nm := "jump") (by decide) rfl rfl rfl (Nat.le_of_ble_eq_true rfl) ?_
  intro pp ee ss mm args below meth kc ls Q hQ X hs hP hl
  have hl : lv_has ls 3 [(0, rf G 91), (1, .int (th)), (2, .int (v))] := hl
  have hO : ∀ j, j ≠ 92 → F j = F j := fun _ _ => rfl
  refine lv_iload_n X.1.1 X.1.2.1 dX7_jump_0 rfl (lv_at hl 1 rfl) ?_
  refine sx_csI (As := [.int (th)]) (rest := []) X (mX7_isThread l (x := (th))) gX7_jump_X7_isThread rfl ys_X7_isThread ⟨Nat.le_of_ble_eq_true rfl, Nat.le_of_ble_eq_true rfl⟩ hl.1 rfl (Nat.le_of_ble_eq_true rfl) dX7_jump_1 ⟨Nat.le_of_ble_eq_true rfl, Nat.le_of_ble_eq_true rfl⟩ hs rfl hP (fun r1 F1 H1 l1 hp hP => ?_)
  obtain ⟨rfl, ⟨b2, rfl⟩ | ⟨b2, rfl⟩⟩ := hp
  · obtain ⟨t, ht, rfl⟩ := b2
    refine sx_if_ne X (by decide) (tgt := 10) dX7_jump_4 (by decide) (fun _ => ?_) (fun h => absurd h (by decide))
    refine lv_iload_n X.1.1 X.1.2.1 dX7_jump_10 rfl (lv_at hl 2 rfl) ?_
    refine lv_iconst (v := nI 1) X.1.1 X.1.2.1 dX7_jump_11 (by decide) ?_
    refine lv_icmp_ge X.1.1 X.1.2.1 (tgt := 18) dX7_jump_12 (by decide) (fun c12 => ?_) (fun c12 => ?_)
    · refine lv_aload_n X.1.1 X.1.2.1 dX7_jump_18 rfl (lv_at hl 0 rfl) ?_
      refine sx_get X hP in_X7_jump_X7 h91 (by decide) rfl 0 (by decide) lk_X7_jump_fieldLink_RX7_7_RaceWatchModel_w_I rfl dX7_jump_19 ?_
      refine lv_iconst (v := nI 0) X.1.1 X.1.2.1 dX7_jump_22 (by decide) ?_
      refine lv_iload_n X.1.1 X.1.2.1 dX7_jump_23 rfl (lv_at hl 1 rfl) ?_
      refine sx_addN X (t) (by omega) dX7_jump_24 ?_
      refine sx_ald X hP h92 (by decide) (t) (by omega) (by decide) dX7_jump_25 ?_
      refine lv_iconst (v := nI 1) X.1.1 X.1.2.1 dX7_jump_26 (by decide) ?_
      refine lv_icmp_eq X.1.1 X.1.2.1 (tgt := 33) dX7_jump_27 (by decide) (fun c27 => ?_) (fun c27 => ?_)
      · refine lv_aload_n X.1.1 X.1.2.1 dX7_jump_33 rfl (lv_at hl 0 rfl) ?_
        refine lv_iload_n X.1.1 X.1.2.1 dX7_jump_34 rfl (lv_at hl 1 rfl) ?_
        refine lv_iload_n X.1.1 X.1.2.1 dX7_jump_35 rfl (lv_at hl 1 rfl) ?_
        refine sx_cvI (As := [.int (nI (t)), .int (nI (t))]) (rest := []) X (mX7_number l (t := t) (u := t) (by omega) (by omega) h91 h92) gX7_jump_X7_number rfl yv_X7_number ⟨Nat.le_of_ble_eq_true rfl, Nat.le_of_ble_eq_true rfl⟩ h91 (by decide) rfl rfl hl.1 rfl (Nat.le_of_ble_eq_true rfl) dX7_jump_36 ⟨Nat.le_of_ble_eq_true rfl, Nat.le_of_ble_eq_true rfl⟩ hs rfl hP (fun r3 F3 H3 l3 hp hP => ?_)
        obtain ⟨rfl, rfl⟩ := hp
        rw [show w (4 + 4 * t + t) = w (4 + 5 * t) from congrArg _ (by omega)]
        refine lv_i2l (v := (w (4 + 5 * t)).toInt64) X.1.1 X.1.2.1 dX7_jump_39 rfl ?_
        refine lv_iload_n X.1.1 X.1.2.1 dX7_jump_40 rfl (lv_at hl 2 rfl) ?_
        refine lv_i2l (v := (v).toInt64) X.1.1 X.1.2.1 dX7_jump_41 rfl ?_
        refine lv_ladd X.1.1 X.1.2.1 dX7_jump_42 ?_
        refine lv_ldc2 (v := 2147483647) X.1.1 X.1.2.1 X.1.2.2.2.1 (X.1.2.2.2.2 _ lk_X7_jump_constantLong_RX7_108_2147483647) dX7_jump_43 ?_
        refine W.lcmp X.1.1 X.1.2.1 dX7_jump_46 ?_
        refine lv_if_le X.1.1 X.1.2.1 (tgt := 53) dX7_jump_47 (by decide) (fun c47 => ?_) (fun c47 => ?_)
        · refine lv_aload_n X.1.1 X.1.2.1 dX7_jump_53 rfl (lv_at hl 0 rfl) ?_
          refine sx_get X hP in_X7_jump_X7 h91 (by decide) rfl 0 (by decide) lk_X7_jump_fieldLink_RX7_7_RaceWatchModel_w_I rfl dX7_jump_54 ?_
          refine lv_iconst (v := nI 4) X.1.1 X.1.2.1 dX7_jump_57 (by decide) ?_
          refine lv_iconst (v := nI 5) X.1.1 X.1.2.1 dX7_jump_58 (by decide) ?_
          refine lv_iload_n X.1.1 X.1.2.1 dX7_jump_59 rfl (lv_at hl 1 rfl) ?_
          refine sx_mulN X (5 * t) (by omega) dX7_jump_60 ?_
          refine sx_addN X (4 + 5 * t) (by omega) dX7_jump_61 ?_
          refine lv_dup2_11 X.1.1 X.1.2.1 dX7_jump_62 rfl rfl ?_
          refine sx_ald X hP h92 (by decide) (4 + 5 * t) (by omega) (by decide) dX7_jump_63 ?_
          refine lv_iload_n X.1.1 X.1.2.1 dX7_jump_64 rfl (lv_at hl 2 rfl) ?_
          refine lv_iadd X.1.1 X.1.2.1 dX7_jump_65 ?_
          refine sx_ast X hP h92 (by decide) (4 + 5 * t) (by omega) (by decide) dX7_jump_66 (fun F4 H4 l4 e4 o4 hP => ?_)
          obtain ⟨w4, hw4⟩ : ∃ z, z = upd w (4 + 5 * t) ((w (4 + 5 * t)) + (v)) := ⟨_, rfl⟩
          rw [← hw4] at e4
          have h92 : F4 (92) = rI G (4358) (w4) := e4
          have h91 := (o4 (91) (by decide)).trans h91
          have hO : ∀ j, j ≠ 92 → F4 j = F j := fun j hj => (o4 j (by omega)).trans (hO j hj)
          refine lv_aload_n X.1.1 X.1.2.1 dX7_jump_67 rfl (lv_at hl 0 rfl) ?_
          refine lv_iload_n X.1.1 X.1.2.1 dX7_jump_68 rfl (lv_at hl 1 rfl) ?_
          refine lv_iload_n X.1.1 X.1.2.1 dX7_jump_69 rfl (lv_at hl 1 rfl) ?_
          refine sx_cvI (As := [.int (nI (t)), .int (nI (t))]) (rest := []) X (mX7_number l (t := t) (u := t) (by omega) (by omega) h91 h92) gX7_jump_X7_number rfl yv_X7_number ⟨Nat.le_of_ble_eq_true rfl, Nat.le_of_ble_eq_true rfl⟩ h91 (by decide) rfl rfl hl.1 rfl (Nat.le_of_ble_eq_true rfl) dX7_jump_70 ⟨Nat.le_of_ble_eq_true rfl, Nat.le_of_ble_eq_true rfl⟩ hs rfl hP (fun r5 F5 H5 l5 hp hP => ?_)
          obtain ⟨rfl, rfl⟩ := hp
          rw [show w4 (4 + 4 * t + t) = w4 (4 + 5 * t) from congrArg _ (by omega)]
          have hev : jumpF w (nI t) v = (w (4 + 5 * t) + v, upd w (4 + 5 * t) (w (4 + 5 * t) + v)) := by unfold jumpF; rw [cif_f (fun q => q ⟨t, ht, rfl⟩), cif_f (fun q => q c12), nI_clamp (by omega), cif_f (fun q => q c27), cif_f (fun q => q ((lg_cmp_le _ _).mp c47))]
          rw [hQ]
          exact sx_iret X rfl hs rfl hP dX7_jump_73 (⟨h92.trans (by rw [hev, hw4]), hO, by rw [hev]; rw [hw4]; exact pk_us.symm⟩)
        · refine lv_ldc (v := -1000000005) X.1.1 X.1.2.1 X.1.2.2.2.1 (X.1.2.2.2.2 _ lk_X7_jump_constant_RX7_104_1000000005) dX7_jump_50 ?_
          have hev : jumpF w (nI t) v = (-1000000005, w) := by unfold jumpF; rw [cif_f (fun q => q ⟨t, ht, rfl⟩), cif_f (fun q => q c12), nI_clamp (by omega), cif_f (fun q => q c27), cif_t (fun q => c47 ((lg_cmp_le _ _).mpr q))]
          rw [hQ]
          exact sx_iret X rfl hs rfl hP dX7_jump_52 (⟨h92.trans (by rw [hev]), hO, by rw [hev]⟩)
      · refine lv_ldc (v := -1000000003) X.1.1 X.1.2.1 X.1.2.2.2.1 (X.1.2.2.2.2 _ lk_X7_jump_constant_RX7_102_1000000003) dX7_jump_30 ?_
        have hev : jumpF w (nI t) v = (-1000000003, w) := by unfold jumpF; rw [cif_f (fun q => q ⟨t, ht, rfl⟩), cif_f (fun q => q c12), nI_clamp (by omega), cif_t c27]
        rw [hQ]
        exact sx_iret X rfl hs rfl hP dX7_jump_32 (⟨h92.trans (by rw [hev]), hO, by rw [hev]⟩)
    · refine lv_ldc (v := -1000000002) X.1.1 X.1.2.1 X.1.2.2.2.1 (X.1.2.2.2.2 _ lk_X7_jump_constant_RX7_98_1000000002) dX7_jump_15 ?_
      have hev : jumpF w (nI t) v = (-1000000002, w) := by unfold jumpF; rw [cif_f (fun q => q ⟨t, ht, rfl⟩), cif_t c12]
      rw [hQ]
      exact sx_iret X rfl hs rfl hP dX7_jump_17 (⟨h92.trans (by rw [hev]), hO, by rw [hev]⟩)
  · refine sx_if_ne X (by decide) (tgt := 10) dX7_jump_4 (by decide) (fun h => absurd h (by decide)) (fun _ => ?_)
    refine lv_ldc (v := -1000000001) X.1.1 X.1.2.1 X.1.2.2.2.1 (X.1.2.2.2.2 _ lk_X7_jump_constant_RX7_97_1000000001) dX7_jump_7 ?_
    have hev : jumpF w th v = (-1000000001, w) := by unfold jumpF; rw [cif_t b2]
    rw [hQ]
    exact sx_iret X rfl hs rfl hP dX7_jump_9 (⟨h92.trans (by rw [hev]), hO, by rw [hev]⟩)
