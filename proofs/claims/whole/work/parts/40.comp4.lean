theorem ys_X3_isAccess : yX3_isAccess.cls ≠ "java/lang/invoke/MethodHandle" ∧ yX3_isAccess.cls ≠ "java/lang/invoke/VarHandle" ∧ (parseMethodDescriptor yX3_isAccess.desc).map (fun d => d.parameters.length) = some 1 := by decide +kernel
theorem yv_X3_isAccess : yX3_isAccess.cls = RX3 ∧ yX3_isAccess.cls ≠ "java/lang/invoke/MethodHandle" ∧ yX3_isAccess.cls ≠ "java/lang/invoke/VarHandle" ∧ (parseMethodDescriptor yX3_isAccess.desc).map (fun d => d.parameters.length) = some 1 := ⟨rfl, ys_X3_isAccess⟩
theorem in_X3_isAccess_X3 : ∀ w ∈ wsX30, w ∈ wsX3_isAccess := fun _ h => List.mem_cons_of_mem _ (List.mem_append_right _ (h))
theorem lk_X3_isAccess_fieldLink_RX3_15_RaceWatch_Log_sorts_I : (.fieldLink RX3 15 "RaceWatch$Log" "sorts" "[I" : Cond) ∈ wsX3_isAccess := List.mem_cons_of_mem _ (List.mem_append_left _ (List.mem_of_getElem? (i := 0) rfl))
abbrev rmX3_isAccess : Room := { frames := 0, cells := 0, slots := 0, locals := 0 }
set_option maxHeartbeats 800000 in
set_option maxRecDepth 100000 in
theorem mX3_isAccess {G : sx_G} (l : Launch) {F : Nat → va_E} {v th so wi lo lc : Nat → Int32} {rr : Value} {M : Nat} {e : Nat}  (hLV : LV v M th so wi lo lc) (hM : M ≤ 160) (hok : ∀ e, e < M → okE v e) (he : e < M) (h19 : F (19) = ob 3 ([.int (nI (M)), rf G 20, rf G 21, rf G 22, rf G 23, rf G 24, rf G 26, rf G 27])) (h20 : F (20) = rI G (160) (th)) (h21 : F (21) = rI G (160) (so)) (h22 : F (22) = rI G (160) (wi)) (h23 : F (23) = rI G (160) (lo)) (h24 : F (24) = ob 1 ([rr, rf G 25])) (h25 : F (25) = rI G (640) (lc)) : sx_I G l yX3_isAccess wsX3_isAccess rmX3_isAccess [rf G 19, .int (nI (e))] (97) F (97) (fun r F1 => F = F1 ∧ ((accA v e) ∧ nI 1 = r ∨ ¬ (accA v e) ∧ nI 0 = r)) := by
  refine sx_enter (cc := cX3_isAccess) (maxL := 2) (ret := some .boolean) (own := RX3) (nm := "isAccess") (by decide) rfl rfl rfl (Nat.le_of_ble_eq_true rfl) ?_
  intro pp ee ss mm args below meth kc ls Q hQ X hs hP hl
  have hl : lv_has ls 2 [(0, rf G 19), (1, .int (nI (e)))] := hl
  have hse := (hLV e he).2.1
  refine lv_aload_n X.1.1 X.1.2.1 dX3_isAccess_0 rfl (lv_at hl 0 rfl) ?_
  refine sx_get X hP in_X3_isAccess_X3 h19 (by decide) rfl 2 (by decide) lk_X3_isAccess_fieldLink_RX3_15_RaceWatch_Log_sorts_I rfl dX3_isAccess_1 ?_
  refine lv_iload_n X.1.1 X.1.2.1 dX3_isAccess_4 rfl (lv_at hl 1 rfl) ?_
  refine sx_ald X hP h21 (by decide) (e) (by omega) (by decide) dX3_isAccess_5 ?_
  rw [hse]
  refine lv_if_eq X.1.1 X.1.2.1 (tgt := 19) dX3_isAccess_6 (by decide) (fun c6 => ?_) (fun c6 => ?_)
  · refine lv_iconst (v := nI 1) X.1.1 X.1.2.1 dX3_isAccess_19 (by decide) ?_
    refine lv_goto (tgt := 24) X.1.1 X.1.2.1 dX3_isAccess_20 (by decide) ?_
    rw [hQ]
    exact sx_zret X rfl (by decide) hs rfl hP dX3_isAccess_24 (⟨rfl, Or.inl ⟨Or.inl c6, rfl⟩⟩)
  · refine lv_aload_n X.1.1 X.1.2.1 dX3_isAccess_9 rfl (lv_at hl 0 rfl) ?_
    refine sx_get X hP in_X3_isAccess_X3 h19 (by decide) rfl 2 (by decide) lk_X3_isAccess_fieldLink_RX3_15_RaceWatch_Log_sorts_I rfl dX3_isAccess_10 ?_
    refine lv_iload_n X.1.1 X.1.2.1 dX3_isAccess_13 rfl (lv_at hl 1 rfl) ?_
    refine sx_ald X hP h21 (by decide) (e) (by omega) (by decide) dX3_isAccess_14 ?_
    rw [hse]
    refine lv_iconst (v := nI 1) X.1.1 X.1.2.1 dX3_isAccess_15 (by decide) ?_
    refine lv_icmp_ne X.1.1 X.1.2.1 (tgt := 23) dX3_isAccess_16 (by decide) (fun c16 => ?_) (fun c16 => ?_)
    · refine lv_iconst (v := nI 0) X.1.1 X.1.2.1 dX3_isAccess_23 (by decide) ?_
      rw [hQ]
      exact sx_zret X rfl (by decide) hs rfl hP dX3_isAccess_24 (⟨rfl, Or.inr ⟨fun q => q.elim c6 c16, rfl⟩⟩)
    · refine lv_iconst (v := nI 1) X.1.1 X.1.2.1 dX3_isAccess_19 (by decide) ?_
      refine lv_goto (tgt := 24) X.1.1 X.1.2.1 dX3_isAccess_20 (by decide) ?_
      rw [hQ]
      exact sx_zret X rfl (by decide) hs rfl hP dX3_isAccess_24 (⟨rfl, Or.inl ⟨Or.inr c16, rfl⟩⟩)
theorem ys_X3_isAhead : yX3_isAhead.cls ≠ "java/lang/invoke/MethodHandle" ∧ yX3_isAhead.cls ≠ "java/lang/invoke/VarHandle" ∧ (parseMethodDescriptor yX3_isAhead.desc).map (fun d => d.parameters.length) = some 2 := by decide +kernel
theorem yv_X3_isAhead : yX3_isAhead.cls = RX3 ∧ yX3_isAhead.cls ≠ "java/lang/invoke/MethodHandle" ∧ yX3_isAhead.cls ≠ "java/lang/invoke/VarHandle" ∧ (parseMethodDescriptor yX3_isAhead.desc).map (fun d => d.parameters.length) = some 2 := ⟨rfl, ys_X3_isAhead⟩
theorem in_X3_isAhead_X3 : ∀ w ∈ wsX30, w ∈ wsX3_isAhead := fun _ h => List.mem_cons_of_mem _ (List.mem_append_left _ (List.mem_append_right _ (h)))
theorem lk_X3_isAhead_fieldLink_RX3_9_RaceWatch_Log_threads_I : (.fieldLink RX3 9 "RaceWatch$Log" "threads" "[I" : Cond) ∈ wsX3_isAhead := List.mem_cons_of_mem _ (List.mem_append_left _ (List.mem_append_left _ (List.mem_of_getElem? (i := 0) rfl)))
theorem lk_X3_isAhead_fieldLink_RX3_29_RaceWatch_Log_clocks_LRaceWatch_Clocks : (.fieldLink RX3 29 "RaceWatch$Log" "clocks" "LRaceWatch$Clocks;" : Cond) ∈ wsX3_isAhead := List.mem_cons_of_mem _ (List.mem_append_left _ (List.mem_append_left _ (List.mem_of_getElem? (i := 1) rfl)))
abbrev rmX3_isAhead : Room := { frames := 1, cells := 0, slots := 0, locals := 22 }
set_option maxHeartbeats 800000 in
set_option maxRecDepth 100000 in
theorem mX3_isAhead {G : sx_G} (l : Launch) {F : Nat → va_E} {v th so wi lo lc : Nat → Int32} {rr : Value} {M : Nat} {e f : Nat}  (hLV : LV v M th so wi lo lc) (hM : M ≤ 160) (hok : ∀ e, e < M → okE v e) (he : e < M) (hf : f < M) (h19 : F (19) = ob 3 ([.int (nI (M)), rf G 20, rf G 21, rf G 22, rf G 23, rf G 24, rf G 26, rf G 27])) (h20 : F (20) = rI G (160) (th)) (h21 : F (21) = rI G (160) (so)) (h22 : F (22) = rI G (160) (wi)) (h23 : F (23) = rI G (160) (lo)) (h24 : F (24) = ob 1 ([rr, rf G 25])) (h25 : F (25) = rI G (640) (lc)) : sx_I G l yX3_isAhead wsX3_isAhead rmX3_isAhead [rf G 19, .int (nI (e)), .int (nI (f))] (97) F (97) (fun r F1 => F = F1 ∧ ((e < f ∧ ahF v e f) ∧ nI 1 = r ∨ ¬ (e < f ∧ ahF v e f) ∧ nI 0 = r)) := by
  refine sx_enter (cc := cX3_isAhead) (maxL := 4) (ret := some .boolean) (own := RX3) (nm := "isAhead") (by decide) rfl rfl rfl (Nat.le_of_ble_eq_true rfl) ?_
  intro pp ee ss mm args below meth kc ls Q hQ X hs hP hl
  have hl : lv_has ls 4 [(0, rf G 19), (1, .int (nI (e))), (2, .int (nI (f)))] := hl
  obtain ⟨t, ht, hte0⟩ := (hok e he).1
  have hte := (hLV e he).1.trans hte0
  refine lv_aload_n X.1.1 X.1.2.1 dX3_isAhead_0 rfl (lv_at hl 0 rfl) ?_
  refine sx_get X hP in_X3_isAhead_X3 h19 (by decide) rfl 1 (by decide) lk_X3_isAhead_fieldLink_RX3_9_RaceWatch_Log_threads_I rfl dX3_isAhead_1 ?_
  refine lv_iload_n X.1.1 X.1.2.1 dX3_isAhead_4 rfl (lv_at hl 1 rfl) ?_
  refine sx_ald X hP h20 (by decide) (e) (by omega) (by decide) dX3_isAhead_5 ?_
  rw [hte]
  refine lv_istore_n (lv' := [(3, .int (nI (t))), (0, rf G 19), (1, .int (nI (e))), (2, .int (nI (f)))]) X.1.1 X.1.2.1 dX3_isAhead_6 rfl hl (by decide) rfl (fun ls hl => ?_)
  refine lv_iload_n X.1.1 X.1.2.1 dX3_isAhead_7 rfl (lv_at hl 2 rfl) ?_
  refine lv_iload_n X.1.1 X.1.2.1 dX3_isAhead_8 rfl (lv_at hl 3 rfl) ?_
  refine sx_icmp_ge X (by omega) (by omega) (tgt := 37) dX3_isAhead_9 (by decide) (fun c9 => ?_) (fun c9 => ?_)
  · refine lv_iconst (v := nI 0) X.1.1 X.1.2.1 dX3_isAhead_37 (by decide) ?_
    rw [hQ]
    exact sx_zret X rfl (by decide) hs rfl hP dX3_isAhead_38 (⟨rfl, Or.inr ⟨fun q => absurd q.1 (by omega), rfl⟩⟩)
  · refine lv_aload_n X.1.1 X.1.2.1 dX3_isAhead_12 rfl (lv_at hl 1 rfl) ?_
    refine sx_get X hP in_X3_isAhead_X3 h19 (by decide) rfl 5 (by decide) lk_X3_isAhead_fieldLink_RX3_29_RaceWatch_Log_clocks_LRaceWatch_Clocks rfl dX3_isAhead_13 ?_
    refine lv_iload_n X.1.1 X.1.2.1 dX3_isAhead_16 rfl (lv_at hl 3 rfl) ?_
    refine lv_iload_n X.1.1 X.1.2.1 dX3_isAhead_17 rfl (lv_at hl 0 rfl) ?_
    refine sx_cvI (As := [.int (nI (f)), .int (nI (t))]) (rest := []) X (mX1_number l (ci := 24) (cj := 25) (L := 640) (row := f) (t := t) (by decide) (by decide) (by decide) (by decide) (by omega) h24 h25) gX3_isAhead_X1_number rfl yv_X1_number ⟨Nat.le_of_ble_eq_true rfl, Nat.le_of_ble_eq_true rfl⟩ h24 (by decide) rfl rfl hl.1 rfl (Nat.le_of_ble_eq_true rfl) dX3_isAhead_18 ⟨Nat.le_of_ble_eq_true rfl, Nat.le_of_ble_eq_true rfl⟩ hs rfl hP (fun r1 F1 H1 l1 hp hP => ?_)
    obtain ⟨rfl, rfl⟩ := hp
    rw [show lc (4 * f + t) = v (95 + 8 * f + t) from (hLV _ (by omega)).2.2.2.2 _ (by omega)]
    refine lv_aload_n X.1.1 X.1.2.1 dX3_isAhead_21 rfl (lv_at hl 1 rfl) ?_
    refine sx_get X hP in_X3_isAhead_X3 h19 (by decide) rfl 5 (by decide) lk_X3_isAhead_fieldLink_RX3_29_RaceWatch_Log_clocks_LRaceWatch_Clocks rfl dX3_isAhead_22 ?_
    refine lv_iload_n X.1.1 X.1.2.1 dX3_isAhead_25 rfl (lv_at hl 2 rfl) ?_
    refine lv_iload_n X.1.1 X.1.2.1 dX3_isAhead_26 rfl (lv_at hl 0 rfl) ?_
    refine sx_cvI (As := [.int (nI (e)), .int (nI (t))]) (rest := .int (v (95 + 8 * f + t)) :: []) X (mX1_number l (ci := 24) (cj := 25) (L := 640) (row := e) (t := t) (by decide) (by decide) (by decide) (by decide) (by omega) h24 h25) gX3_isAhead_X1_number rfl yv_X1_number ⟨Nat.le_of_ble_eq_true rfl, Nat.le_of_ble_eq_true rfl⟩ h24 (by decide) rfl rfl hl.1 rfl (Nat.le_of_ble_eq_true rfl) dX3_isAhead_27 ⟨Nat.le_of_ble_eq_true rfl, Nat.le_of_ble_eq_true rfl⟩ hs rfl hP (fun r2 F2 H2 l2 hp hP => ?_)
    obtain ⟨rfl, rfl⟩ := hp
    rw [show lc (4 * e + t) = v (95 + 8 * e + t) from (hLV _ (by omega)).2.2.2.2 _ (by omega)]
    refine lv_icmp_lt X.1.1 X.1.2.1 (tgt := 37) dX3_isAhead_30 (by decide) (fun c30 => ?_) (fun c30 => ?_)
    · refine lv_iconst (v := nI 0) X.1.1 X.1.2.1 dX3_isAhead_37 (by decide) ?_
      rw [hQ]
      exact sx_zret X rfl (by decide) hs rfl hP dX3_isAhead_38 (⟨rfl, Or.inr ⟨fun q => Int32.not_lt.mpr ((ahF_iff ht hte0).mp q.2) c30, rfl⟩⟩)
    · refine lv_iconst (v := nI 1) X.1.1 X.1.2.1 dX3_isAhead_33 (by decide) ?_
      refine lv_goto (tgt := 38) X.1.1 X.1.2.1 dX3_isAhead_34 (by decide) ?_
      rw [hQ]
      exact sx_zret X rfl (by decide) hs rfl hP dX3_isAhead_38 (⟨rfl, Or.inl ⟨⟨c9, (ahF_iff ht hte0).mpr (Int32.not_lt.mp c30)⟩, rfl⟩⟩)
theorem ys_X3_kindOfPair : yX3_kindOfPair.cls ≠ "java/lang/invoke/MethodHandle" ∧ yX3_kindOfPair.cls ≠ "java/lang/invoke/VarHandle" ∧ (parseMethodDescriptor yX3_kindOfPair.desc).map (fun d => d.parameters.length) = some 2 := by decide +kernel
theorem yv_X3_kindOfPair : yX3_kindOfPair.cls = RX3 ∧ yX3_kindOfPair.cls ≠ "java/lang/invoke/MethodHandle" ∧ yX3_kindOfPair.cls ≠ "java/lang/invoke/VarHandle" ∧ (parseMethodDescriptor yX3_kindOfPair.desc).map (fun d => d.parameters.length) = some 2 := ⟨rfl, ys_X3_kindOfPair⟩
theorem in_X3_kindOfPair_X3 : ∀ w ∈ wsX30, w ∈ wsX3_kindOfPair := fun _ h => List.mem_cons_of_mem _ (List.mem_append_left _ (List.mem_append_right _ (h)))
theorem lk_X3_kindOfPair_fieldLink_RX3_18_RaceWatch_Log_withs_I : (.fieldLink RX3 18 "RaceWatch$Log" "withs" "[I" : Cond) ∈ wsX3_kindOfPair := List.mem_cons_of_mem _ (List.mem_append_left _ (List.mem_append_left _ (List.mem_of_getElem? (i := 0) rfl)))
theorem lk_X3_kindOfPair_fieldLink_RX3_9_RaceWatch_Log_threads_I : (.fieldLink RX3 9 "RaceWatch$Log" "threads" "[I" : Cond) ∈ wsX3_kindOfPair := List.mem_cons_of_mem _ (List.mem_append_left _ (List.mem_append_left _ (List.mem_of_getElem? (i := 1) rfl)))
theorem lk_X3_kindOfPair_fieldLink_RX3_15_RaceWatch_Log_sorts_I : (.fieldLink RX3 15 "RaceWatch$Log" "sorts" "[I" : Cond) ∈ wsX3_kindOfPair := List.mem_cons_of_mem _ (List.mem_append_left _ (List.mem_append_left _ (List.mem_of_getElem? (i := 2) rfl)))
abbrev rmX3_kindOfPair : Room := { frames := 2, cells := 0, slots := 0, locals := 45 }
set_option maxHeartbeats 800000 in
set_option maxRecDepth 100000 in
theorem mX3_kindOfPair {G : sx_G} (l : Launch) {F : Nat → va_E} {v th so wi lo lc : Nat → Int32} {rr : Value} {M : Nat} {e f c : Nat}  (hLV : LV v M th so wi lo lc) (hM : M ≤ 160) (hok : ∀ e, e < M → okE v e) (hef : e < f) (hf : f < M) (haf : accA v f) (hcf : v (94 + 8 * f) = nI c) (h19 : F (19) = ob 3 ([.int (nI (M)), rf G 20, rf G 21, rf G 22, rf G 23, rf G 24, rf G 26, rf G 27])) (h20 : F (20) = rI G (160) (th)) (h21 : F (21) = rI G (160) (so)) (h22 : F (22) = rI G (160) (wi)) (h23 : F (23) = rI G (160) (lo)) (h24 : F (24) = ob 1 ([rr, rf G 25])) (h25 : F (25) = rI G (640) (lc)) : sx_I G l yX3_kindOfPair wsX3_kindOfPair rmX3_kindOfPair [rf G 19, .int (nI (e)), .int (nI (f))] (97) F (97) (fun r F1 => F = F1 ∧ kbF v e f c = r) := by
  refine sx_enter (cc := cX3_kindOfPair) (maxL := 3) (ret := some .int) (own := RX3) (nm := "kindOfPair") (by decide) rfl rfl rfl (Nat.le_of_ble_eq_true rfl) ?_
  intro pp ee ss mm args below meth kc ls Q hQ X hs hP hl
  have hl : lv_has ls 3 [(0, rf G 19), (1, .int (nI (e))), (2, .int (nI (f)))] := hl
  have hthe := (hLV e (by omega)).1
  have hthf := (hLV f (by omega)).1
  have hsoe := (hLV e (by omega)).2.1
  have hsof := (hLV f (by omega)).2.1
  have hwie := (hLV e (by omega)).2.2.1
  have hwif := (hLV f (by omega)).2.2.1
  refine lv_aload_n X.1.1 X.1.2.1 dX3_kindOfPair_0 rfl (lv_at hl 0 rfl) ?_
  refine lv_iload_n X.1.1 X.1.2.1 dX3_kindOfPair_1 rfl (lv_at hl 1 rfl) ?_
  refine sx_cvI (As := [.int (nI (e))]) (rest := []) X (mX3_isAccess l (e := e) hLV hM hok (by omega) h19 h20 h21 h22 h23 h24 h25) gX3_kindOfPair_X3_isAccess rfl yv_X3_isAccess ⟨Nat.le_of_ble_eq_true rfl, Nat.le_of_ble_eq_true rfl⟩ h19 (by decide) rfl rfl hl.1 rfl (Nat.le_of_ble_eq_true rfl) dX3_kindOfPair_2 ⟨Nat.le_of_ble_eq_true rfl, Nat.le_of_ble_eq_true rfl⟩ hs rfl hP (fun r1 F1 H1 l1 hp hP => ?_)
  obtain ⟨rfl, ⟨b2, rfl⟩ | ⟨b2, rfl⟩⟩ := hp
  · refine sx_if_eq X (by decide) (tgt := 31) dX3_kindOfPair_5 (by decide) (fun h => absurd h (by decide)) (fun _ => ?_)
    refine lv_aload_n X.1.1 X.1.2.1 dX3_kindOfPair_8 rfl (lv_at hl 0 rfl) ?_
    refine lv_iload_n X.1.1 X.1.2.1 dX3_kindOfPair_9 rfl (lv_at hl 2 rfl) ?_
    refine sx_cvI (As := [.int (nI (f))]) (rest := []) X (mX3_isAccess l (e := f) hLV hM hok (by omega) h19 h20 h21 h22 h23 h24 h25) gX3_kindOfPair_X3_isAccess rfl yv_X3_isAccess ⟨Nat.le_of_ble_eq_true rfl, Nat.le_of_ble_eq_true rfl⟩ h19 (by decide) rfl rfl hl.1 rfl (Nat.le_of_ble_eq_true rfl) dX3_kindOfPair_10 ⟨Nat.le_of_ble_eq_true rfl, Nat.le_of_ble_eq_true rfl⟩ hs rfl hP (fun r3 F3 H3 l3 hp hP => ?_)
    obtain ⟨rfl, ⟨b4, rfl⟩ | ⟨b4, rfl⟩⟩ := hp
    · refine sx_if_eq X (by decide) (tgt := 31) dX3_kindOfPair_13 (by decide) (fun h => absurd h (by decide)) (fun _ => ?_)
      refine lv_aload_n X.1.1 X.1.2.1 dX3_kindOfPair_16 rfl (lv_at hl 0 rfl) ?_
      refine sx_get X hP in_X3_kindOfPair_X3 h19 (by decide) rfl 3 (by decide) lk_X3_kindOfPair_fieldLink_RX3_18_RaceWatch_Log_withs_I rfl dX3_kindOfPair_17 ?_
      refine lv_iload_n X.1.1 X.1.2.1 dX3_kindOfPair_20 rfl (lv_at hl 1 rfl) ?_
      refine sx_ald X hP h22 (by decide) (e) (by omega) (by decide) dX3_kindOfPair_21 ?_
      rw [hwie]
      refine lv_aload_n X.1.1 X.1.2.1 dX3_kindOfPair_22 rfl (lv_at hl 0 rfl) ?_
      refine sx_get X hP in_X3_kindOfPair_X3 h19 (by decide) rfl 3 (by decide) lk_X3_kindOfPair_fieldLink_RX3_18_RaceWatch_Log_withs_I rfl dX3_kindOfPair_23 ?_
      refine lv_iload_n X.1.1 X.1.2.1 dX3_kindOfPair_26 rfl (lv_at hl 2 rfl) ?_
      refine sx_ald X hP h22 (by decide) (f) (by omega) (by decide) dX3_kindOfPair_27 ?_
      rw [hwif]
      refine lv_icmp_eq X.1.1 X.1.2.1 (tgt := 33) dX3_kindOfPair_28 (by decide) (fun c28 => ?_) (fun c28 => ?_)
      · refine lv_aload_n X.1.1 X.1.2.1 dX3_kindOfPair_33 rfl (lv_at hl 0 rfl) ?_
        refine sx_get X hP in_X3_kindOfPair_X3 h19 (by decide) rfl 1 (by decide) lk_X3_kindOfPair_fieldLink_RX3_9_RaceWatch_Log_threads_I rfl dX3_kindOfPair_34 ?_
        refine lv_iload_n X.1.1 X.1.2.1 dX3_kindOfPair_37 rfl (lv_at hl 1 rfl) ?_
        refine sx_ald X hP h20 (by decide) (e) (by omega) (by decide) dX3_kindOfPair_38 ?_
        rw [hthe]
        refine lv_aload_n X.1.1 X.1.2.1 dX3_kindOfPair_39 rfl (lv_at hl 0 rfl) ?_
        refine sx_get X hP in_X3_kindOfPair_X3 h19 (by decide) rfl 1 (by decide) lk_X3_kindOfPair_fieldLink_RX3_9_RaceWatch_Log_threads_I rfl dX3_kindOfPair_40 ?_
        refine lv_iload_n X.1.1 X.1.2.1 dX3_kindOfPair_43 rfl (lv_at hl 2 rfl) ?_
        refine sx_ald X hP h20 (by decide) (f) (by omega) (by decide) dX3_kindOfPair_44 ?_
        rw [hthf]
        refine lv_icmp_eq X.1.1 X.1.2.1 (tgt := 57) dX3_kindOfPair_45 (by decide) (fun c45 => ?_) (fun c45 => ?_)
        · refine lv_iconst (v := (-1)) X.1.1 X.1.2.1 dX3_kindOfPair_57 (by decide) ?_
          rw [hQ]
          exact sx_iret X rfl hs rfl hP dX3_kindOfPair_58 (⟨rfl, by unfold kbF; rw [cif_f (fun q => q.2.1 c45)]⟩)
        · refine lv_aload_n X.1.1 X.1.2.1 dX3_kindOfPair_48 rfl (lv_at hl 0 rfl) ?_
          refine lv_iload_n X.1.1 X.1.2.1 dX3_kindOfPair_49 rfl (lv_at hl 1 rfl) ?_
          refine lv_iload_n X.1.1 X.1.2.1 dX3_kindOfPair_50 rfl (lv_at hl 2 rfl) ?_
          refine sx_cvI (As := [.int (nI (e)), .int (nI (f))]) (rest := []) X (mX3_isAhead l (e := e) (f := f) hLV hM hok (by omega) (by omega) h19 h20 h21 h22 h23 h24 h25) gX3_kindOfPair_X3_isAhead rfl yv_X3_isAhead ⟨Nat.le_of_ble_eq_true rfl, Nat.le_of_ble_eq_true rfl⟩ h19 (by decide) rfl rfl hl.1 rfl (Nat.le_of_ble_eq_true rfl) dX3_kindOfPair_51 ⟨Nat.le_of_ble_eq_true rfl, Nat.le_of_ble_eq_true rfl⟩ hs rfl hP (fun r5 F5 H5 l5 hp hP => ?_)
          obtain ⟨rfl, ⟨b6, rfl⟩ | ⟨b6, rfl⟩⟩ := hp
          · refine sx_if_eq X (by decide) (tgt := 59) dX3_kindOfPair_54 (by decide) (fun h => absurd h (by decide)) (fun _ => ?_)
            refine lv_iconst (v := (-1)) X.1.1 X.1.2.1 dX3_kindOfPair_57 (by decide) ?_
            rw [hQ]
            exact sx_iret X rfl hs rfl hP dX3_kindOfPair_58 (⟨rfl, by unfold kbF; rw [cif_f (fun q => q.2.2 b6.2)]⟩)
          · refine sx_if_eq X (by decide) (tgt := 59) dX3_kindOfPair_54 (by decide) (fun _ => ?_) (fun h => absurd h (by decide))
            refine lv_aload_n X.1.1 X.1.2.1 dX3_kindOfPair_59 rfl (lv_at hl 0 rfl) ?_
            refine sx_get X hP in_X3_kindOfPair_X3 h19 (by decide) rfl 2 (by decide) lk_X3_kindOfPair_fieldLink_RX3_15_RaceWatch_Log_sorts_I rfl dX3_kindOfPair_60 ?_
            refine lv_iload_n X.1.1 X.1.2.1 dX3_kindOfPair_63 rfl (lv_at hl 1 rfl) ?_
            refine sx_ald X hP h21 (by decide) (e) (by omega) (by decide) dX3_kindOfPair_64 ?_
            rw [hsoe]
            refine lv_iconst (v := nI 1) X.1.1 X.1.2.1 dX3_kindOfPair_65 (by decide) ?_
            refine lv_icmp_ne X.1.1 X.1.2.1 (tgt := 85) dX3_kindOfPair_66 (by decide) (fun c66 => ?_) (fun c66 => ?_)
            · refine lv_aload_n X.1.1 X.1.2.1 dX3_kindOfPair_85 rfl (lv_at hl 0 rfl) ?_
              refine sx_get X hP in_X3_kindOfPair_X3 h19 (by decide) rfl 2 (by decide) lk_X3_kindOfPair_fieldLink_RX3_15_RaceWatch_Log_sorts_I rfl dX3_kindOfPair_86 ?_
              refine lv_iload_n X.1.1 X.1.2.1 dX3_kindOfPair_89 rfl (lv_at hl 2 rfl) ?_
              refine sx_ald X hP h21 (by decide) (f) (by omega) (by decide) dX3_kindOfPair_90 ?_
              rw [hsof]
              refine lv_iconst (v := nI 1) X.1.1 X.1.2.1 dX3_kindOfPair_91 (by decide) ?_
              refine lv_icmp_ne X.1.1 X.1.2.1 (tgt := 99) dX3_kindOfPair_92 (by decide) (fun c92 => ?_) (fun c92 => ?_)
              · refine lv_iconst (v := (-1)) X.1.1 X.1.2.1 dX3_kindOfPair_99 (by decide) ?_
                rw [hQ]
                exact sx_iret X rfl hs rfl hP dX3_kindOfPair_100 (⟨rfl, by unfold kbF; rw [cif_t ⟨⟨(accA_iff (hok e (by omega)).2.1).mp b2, c28.trans hcf⟩, c45, fun q => b6 ⟨hef, q⟩⟩, if_neg c66, if_neg c92]⟩)
              · refine lv_iconst (v := nI 2) X.1.1 X.1.2.1 dX3_kindOfPair_95 (by decide) ?_
                refine lv_goto (tgt := 100) X.1.1 X.1.2.1 dX3_kindOfPair_96 (by decide) ?_
                rw [hQ]
                exact sx_iret X rfl hs rfl hP dX3_kindOfPair_100 (⟨rfl, by unfold kbF; rw [cif_t ⟨⟨(accA_iff (hok e (by omega)).2.1).mp b2, c28.trans hcf⟩, c45, fun q => b6 ⟨hef, q⟩⟩, if_neg c66, if_pos c92]⟩)
            · refine lv_aload_n X.1.1 X.1.2.1 dX3_kindOfPair_69 rfl (lv_at hl 0 rfl) ?_
              refine sx_get X hP in_X3_kindOfPair_X3 h19 (by decide) rfl 2 (by decide) lk_X3_kindOfPair_fieldLink_RX3_15_RaceWatch_Log_sorts_I rfl dX3_kindOfPair_70 ?_
              refine lv_iload_n X.1.1 X.1.2.1 dX3_kindOfPair_73 rfl (lv_at hl 2 rfl) ?_
              refine sx_ald X hP h21 (by decide) (f) (by omega) (by decide) dX3_kindOfPair_74 ?_
              rw [hsof]
              refine lv_iconst (v := nI 1) X.1.1 X.1.2.1 dX3_kindOfPair_75 (by decide) ?_
              refine lv_icmp_ne X.1.1 X.1.2.1 (tgt := 83) dX3_kindOfPair_76 (by decide) (fun c76 => ?_) (fun c76 => ?_)
              · refine lv_iconst (v := nI 1) X.1.1 X.1.2.1 dX3_kindOfPair_83 (by decide) ?_
                rw [hQ]
                exact sx_iret X rfl hs rfl hP dX3_kindOfPair_84 (⟨rfl, by unfold kbF; rw [cif_t ⟨⟨(accA_iff (hok e (by omega)).2.1).mp b2, c28.trans hcf⟩, c45, fun q => b6 ⟨hef, q⟩⟩, if_pos c66, if_neg c76]⟩)
              · refine lv_iconst (v := nI 0) X.1.1 X.1.2.1 dX3_kindOfPair_79 (by decide) ?_
                refine lv_goto (tgt := 84) X.1.1 X.1.2.1 dX3_kindOfPair_80 (by decide) ?_
                rw [hQ]
                exact sx_iret X rfl hs rfl hP dX3_kindOfPair_84 (⟨rfl, by unfold kbF; rw [cif_t ⟨⟨(accA_iff (hok e (by omega)).2.1).mp b2, c28.trans hcf⟩, c45, fun q => b6 ⟨hef, q⟩⟩, if_pos c66, if_pos c76]⟩)
      · refine lv_iconst (v := (-1)) X.1.1 X.1.2.1 dX3_kindOfPair_31 (by decide) ?_
        rw [hQ]
        exact sx_iret X rfl hs rfl hP dX3_kindOfPair_32 (⟨rfl, by unfold kbF; rw [cif_f (fun q => c28 (q.1.2.trans hcf.symm))]⟩)
    · exact absurd haf b4
  · refine sx_if_eq X (by decide) (tgt := 31) dX3_kindOfPair_5 (by decide) (fun _ => ?_) (fun h => absurd h (by decide))
    refine lv_iconst (v := (-1)) X.1.1 X.1.2.1 dX3_kindOfPair_31 (by decide) ?_
    rw [hQ]
    exact sx_iret X rfl hs rfl hP dX3_kindOfPair_32 (⟨rfl, by unfold kbF; rw [cif_f (fun q => b2 ((accA_iff (hok e (by omega)).2.1).mpr q.1.1))]⟩)
theorem ys_X3_earlierOf : yX3_earlierOf.cls ≠ "java/lang/invoke/MethodHandle" ∧ yX3_earlierOf.cls ≠ "java/lang/invoke/VarHandle" ∧ (parseMethodDescriptor yX3_earlierOf.desc).map (fun d => d.parameters.length) = some 2 := by decide +kernel
theorem yv_X3_earlierOf : yX3_earlierOf.cls = RX3 ∧ yX3_earlierOf.cls ≠ "java/lang/invoke/MethodHandle" ∧ yX3_earlierOf.cls ≠ "java/lang/invoke/VarHandle" ∧ (parseMethodDescriptor yX3_earlierOf.desc).map (fun d => d.parameters.length) = some 2 := ⟨rfl, ys_X3_earlierOf⟩
abbrev rmX3_earlierOf : Room := { frames := 3, cells := 0, slots := 0, locals := 67 }
set_option maxHeartbeats 800000 in
set_option maxRecDepth 100000 in
theorem mX3_earlierOf {G : sx_G} (l : Launch) {F : Nat → va_E} {v th so wi lo lc : Nat → Int32} {rr : Value} {M : Nat} {f c k : Nat}  (hLV : LV v M th so wi lo lc) (hM : M ≤ 160) (hok : ∀ e, e < M → okE v e) (hf : f < M) (haf : accA v f) (hcf : v (94 + 8 * f) = nI c) (hkc : k < cntE v c 3 f f) (h19 : F (19) = ob 3 ([.int (nI (M)), rf G 20, rf G 21, rf G 22, rf G 23, rf G 24, rf G 26, rf G 27])) (h20 : F (20) = rI G (160) (th)) (h21 : F (21) = rI G (160) (so)) (h22 : F (22) = rI G (160) (wi)) (h23 : F (23) = rI G (160) (lo)) (h24 : F (24) = ob 1 ([rr, rf G 25])) (h25 : F (25) = rI G (640) (lc)) : sx_I G l yX3_earlierOf wsX3_earlierOf rmX3_earlierOf [rf G 19, .int (nI (f)), .int (nI (k))] (97) F (97) (fun r F1 => F = F1 ∧ ∃ e, e < f ∧ ¬ kbF v e f c = -1 ∧ cntE v c 3 f e = k ∧ nI e = r) := by
  refine sx_enter (cc := cX3_earlierOf) (maxL := 5) (ret := some .int) (own := RX3) (nm := "earlierOf") (by decide) rfl rfl rfl (Nat.le_of_ble_eq_true rfl) ?_
  intro pp ee ss mm args below meth kc ls Q hQ X hs hP hl
  have hl : lv_has ls 5 [(0, rf G 19), (1, .int (nI (f))), (2, .int (nI (k)))] := hl
  have hcl := cntE_le (w := v) (c := c) (k := 3) (f := f) f
  refine lv_iload_n X.1.1 X.1.2.1 dX3_earlierOf_0 rfl (lv_at hl 2 rfl) ?_
  refine lv_istore_n (lv' := [(3, .int (nI (k))), (0, rf G 19), (1, .int (nI (f))), (2, .int (nI (k)))]) X.1.1 X.1.2.1 dX3_earlierOf_1 rfl hl (by decide) rfl (fun ls hl => ?_)
  refine lv_iconst (v := nI 0) X.1.1 X.1.2.1 dX3_earlierOf_2 (by decide) ?_
  refine lv_istore (lv' := [(4, .int (nI 0)), (3, .int (nI (k))), (0, rf G 19), (1, .int (nI (f))), (2, .int (nI (k)))]) X.1.1 X.1.2.1 dX3_earlierOf_3 hl (by decide) rfl (fun ls hl => ?_)
  have lo : ∀ (k_lo : Nat) (b : Nat) (e : Nat) (Hv : Heap) (lv : List Loc) (ls : Array Slot), (e + k_lo = f) → (b + cntE v c 3 f e = k) → sx_H G (97) F ss.heap Hv lv → lv_has ls 5 [(0, rf G 19), (1, .int (nI (f))), (2, .int (nI (k))), (3, .int (nI (b))), (4, .int (nI (e)))] → W pp l ee rmX3_earlierOf ss mm args below meth kc Hv lv 0 0 Q (F0 mm 5 ls []) := by
    intro k_lo
    induction k_lo with
    | zero =>
      intro b e Hv lv ls hk hb hP hl
      exact absurd hkc (by rw [show e = f by omega] at hb; omega)
    | succ k_lo ih_lo =>
      intro b e Hv lv ls hk hb hP hl
      refine lv_iload X.1.1 X.1.2.1 dX3_earlierOf_5 (lv_at hl 4 rfl) ?_
      refine lv_iload_n X.1.1 X.1.2.1 dX3_earlierOf_7 rfl (lv_at hl 1 rfl) ?_
      refine sx_icmp_ge X (by omega) (by omega) (tgt := 38) dX3_earlierOf_8 (by decide) (fun c8 => absurd c8 (by omega)) (fun c8 => ?_)
      refine lv_aload_n X.1.1 X.1.2.1 dX3_earlierOf_11 rfl (lv_at hl 0 rfl) ?_
      refine lv_iload X.1.1 X.1.2.1 dX3_earlierOf_12 (lv_at hl 4 rfl) ?_
      refine lv_iload_n X.1.1 X.1.2.1 dX3_earlierOf_14 rfl (lv_at hl 1 rfl) ?_
      refine sx_cvI (As := [.int (nI (e)), .int (nI (f))]) (rest := []) X (mX3_kindOfPair l (e := e) (f := f) (c := c) hLV hM hok (by omega) (by omega) haf hcf h19 h20 h21 h22 h23 h24 h25) gX3_earlierOf_X3_kindOfPair rfl yv_X3_kindOfPair ⟨Nat.le_of_ble_eq_true rfl, Nat.le_of_ble_eq_true rfl⟩ h19 (by decide) rfl rfl hl.1 rfl (Nat.le_of_ble_eq_true rfl) dX3_earlierOf_15 ⟨Nat.le_of_ble_eq_true rfl, Nat.le_of_ble_eq_true rfl⟩ hs rfl hP (fun r1 F1 H1 l1 hp hP => ?_)
      obtain ⟨rfl, rfl⟩ := hp
      refine lv_iconst (v := (-1)) X.1.1 X.1.2.1 dX3_earlierOf_18 (by decide) ?_
      refine lv_icmp_eq X.1.1 X.1.2.1 (tgt := 32) dX3_earlierOf_19 (by decide) (fun c19 => ?_) (fun c19 => ?_)
      · refine lv_iinc (v := (nI (1 + e))) (lv' := [(4, .int (nI (1 + e))), (0, rf G 19), (1, .int (nI (f))), (2, .int (nI (k))), (3, .int (nI (b)))]) X.1.1 X.1.2.1 dX3_earlierOf_32 hl (k := 4) rfl (sx_inc1 (by omega)) (by decide) rfl (fun ls hl => ?_)
        refine lv_goto (tgt := 5) X.1.1 X.1.2.1 dX3_earlierOf_35 (by decide) ?_
        exact ih_lo (b) (1 + e) _ _ _ (by omega) (by rw [cntE_f (fun q => q.1 c19)]; omega)  hP (lv_sub hl [1, 2, 3, 4, 0] rfl)
      · refine lv_iload_n X.1.1 X.1.2.1 dX3_earlierOf_22 rfl (lv_at hl 3 rfl) ?_
        refine sx_if_ne X (by omega) (tgt := 29) dX3_earlierOf_23 (by decide) (fun c23 => ?_) (fun c23 => ?_)
        · refine lv_iinc (v := (nI ((b - 1)))) (lv' := [(3, .int (nI ((b - 1)))), (0, rf G 19), (1, .int (nI (f))), (2, .int (nI (k))), (4, .int (nI (e)))]) X.1.1 X.1.2.1 dX3_earlierOf_29 hl (k := 3) rfl (sx_dec1 (by omega)) (by decide) rfl (fun ls hl => ?_)
          refine lv_iinc (v := (nI (1 + e))) (lv' := [(4, .int (nI (1 + e))), (3, .int (nI ((b - 1)))), (0, rf G 19), (1, .int (nI (f))), (2, .int (nI (k)))]) X.1.1 X.1.2.1 dX3_earlierOf_32 hl (k := 4) rfl (sx_inc1 (by omega)) (by decide) rfl (fun ls hl => ?_)
          refine lv_goto (tgt := 5) X.1.1 X.1.2.1 dX3_earlierOf_35 (by decide) ?_
          exact ih_lo ((b - 1)) (1 + e) _ _ _ (by omega) (by rw [cntE_t ⟨c19, Or.inl rfl⟩]; omega)  hP (lv_sub hl [2, 3, 4, 1, 0] rfl)
        · refine lv_iload X.1.1 X.1.2.1 dX3_earlierOf_26 (lv_at hl 4 rfl) ?_
          rw [hQ]
          exact sx_iret X rfl hs rfl hP dX3_earlierOf_28 (⟨rfl, e, by omega, c19, by omega, rfl⟩)
  exact lo (f) (k) (0) _ _ _ (by omega) (rfl)  hP (lv_sub hl [2, 3, 4, 1, 0] rfl)
theorem ys_X3_partOfRace : yX3_partOfRace.cls ≠ "java/lang/invoke/MethodHandle" ∧ yX3_partOfRace.cls ≠ "java/lang/invoke/VarHandle" ∧ (parseMethodDescriptor yX3_partOfRace.desc).map (fun d => d.parameters.length) = some 3 := by decide +kernel
theorem yv_X3_partOfRace : yX3_partOfRace.cls = RX3 ∧ yX3_partOfRace.cls ≠ "java/lang/invoke/MethodHandle" ∧ yX3_partOfRace.cls ≠ "java/lang/invoke/VarHandle" ∧ (parseMethodDescriptor yX3_partOfRace.desc).map (fun d => d.parameters.length) = some 3 := ⟨rfl, ys_X3_partOfRace⟩
theorem in_X3_partOfRace_X3 : ∀ w ∈ wsX30, w ∈ wsX3_partOfRace := fun _ h => List.mem_cons_of_mem _ (List.mem_append_left _ (List.mem_append_right _ (h)))
theorem lk_X3_partOfRace_fieldLink_RX3_39_RaceWatch_Log_count_I : (.fieldLink RX3 39 "RaceWatch$Log" "count" "I" : Cond) ∈ wsX3_partOfRace := List.mem_cons_of_mem _ (List.mem_append_left _ (List.mem_append_left _ (List.mem_append_left _ (List.mem_of_getElem? (i := 0) rfl))))
theorem lk_X3_partOfRace_fieldLink_RX3_18_RaceWatch_Log_withs_I : (.fieldLink RX3 18 "RaceWatch$Log" "withs" "[I" : Cond) ∈ wsX3_partOfRace := List.mem_cons_of_mem _ (List.mem_append_left _ (List.mem_append_left _ (List.mem_append_left _ (List.mem_of_getElem? (i := 1) rfl))))
theorem lk_X3_partOfRace_fieldLink_RX3_33_RaceWatch_Log_racesBehind_I : (.fieldLink RX3 33 "RaceWatch$Log" "racesBehind" "[I" : Cond) ∈ wsX3_partOfRace := List.mem_cons_of_mem _ (List.mem_append_left _ (List.mem_append_left _ (List.mem_append_left _ (List.mem_of_getElem? (i := 2) rfl))))
abbrev rmX3_partOfRace : Room := { frames := 4, cells := 0, slots := 0, locals := 91 }
set_option maxHeartbeats 800000 in
set_option maxRecDepth 100000 in
theorem mX3_partOfRace {G : sx_G} (l : Launch) {F : Nat → va_E} {v th so wi lo lc : Nat → Int32} {rr : Value} {M : Nat} {rb : Nat → Int32} {c k o : Nat}  (hLV : LV v M th so wi lo lc) (hM : M ≤ 160) (hok : ∀ e, e < M → okE v e) (hc : c < 4) (hk31 : k < 2 ^ 31) (ho : o < 3) (hrb : ∀ f, f < M → accA v f → ∀ c, c < 4 → v (94 + 8 * f) = nI c → rb f = nI (cntE v c 3 f f)) (h19 : F (19) = ob 3 ([.int (nI (M)), rf G 20, rf G 21, rf G 22, rf G 23, rf G 24, rf G 26, rf G 27])) (h20 : F (20) = rI G (160) (th)) (h21 : F (21) = rI G (160) (so)) (h22 : F (22) = rI G (160) (wi)) (h23 : F (23) = rI G (160) (lo)) (h24 : F (24) = ob 1 ([rr, rf G 25])) (h25 : F (25) = rI G (640) (lc)) (h26 : F (26) = rI G (160) (rb)) : sx_I G l yX3_partOfRace wsX3_partOfRace rmX3_partOfRace [rf G 19, .int (nI (c)), .int (nI (k)), .int (nI (o))] (97) F (97) (fun r F1 => F = F1 ∧ raceR v M c k o r) := by
  refine sx_enter (cc := cX3_partOfRace) (maxL := 7) (ret := some .int) (own := RX3) (nm := "partOfRace") (by decide) rfl rfl rfl (Nat.le_of_ble_eq_true rfl) ?_
  intro pp ee ss mm args below meth kc ls Q hQ X hs hP hl
  have hl : lv_has ls 7 [(0, rf G 19), (1, .int (nI (c))), (2, .int (nI (k))), (3, .int (nI (o)))] := hl
  refine lv_iload_n X.1.1 X.1.2.1 dX3_partOfRace_0 rfl (lv_at hl 2 rfl) ?_
  refine lv_istore (lv' := [(4, .int (nI (k))), (0, rf G 19), (1, .int (nI (c))), (2, .int (nI (k))), (3, .int (nI (o)))]) X.1.1 X.1.2.1 dX3_partOfRace_1 hl (by decide) rfl (fun ls hl => ?_)
  refine lv_iconst (v := nI 0) X.1.1 X.1.2.1 dX3_partOfRace_3 (by decide) ?_
  refine lv_istore (lv' := [(5, .int (nI 0)), (4, .int (nI (k))), (0, rf G 19), (1, .int (nI (c))), (2, .int (nI (k))), (3, .int (nI (o)))]) X.1.1 X.1.2.1 dX3_partOfRace_4 hl (by decide) rfl (fun ls hl => ?_)
  have lo : ∀ (k_lo : Nat) (a : Nat) (f : Nat) (Hv : Heap) (lv : List Loc) (ls : Array Slot), (f + k_lo = M) → (a + rcN v c 3 f = k) → sx_H G (97) F ss.heap Hv lv → lv_has ls 7 [(0, rf G 19), (1, .int (nI (c))), (2, .int (nI (k))), (3, .int (nI (o))), (4, .int (nI (a))), (5, .int (nI (f)))] → W pp l ee rmX3_partOfRace ss mm args below meth kc Hv lv 0 0 Q (F0 mm 6 ls []) := by
    intro k_lo
    induction k_lo with
    | zero =>
      intro a f Hv lv ls hk ha hP hl
      refine lv_iload X.1.1 X.1.2.1 dX3_partOfRace_6 (lv_at hl 5 rfl) ?_
      refine lv_aload_n X.1.1 X.1.2.1 dX3_partOfRace_8 rfl (lv_at hl 0 rfl) ?_
      refine sx_get X hP in_X3_partOfRace_X3 h19 (by decide) rfl 0 (by decide) lk_X3_partOfRace_fieldLink_RX3_39_RaceWatch_Log_count_I rfl dX3_partOfRace_9 ?_
      refine sx_icmp_ge X (by omega) (by omega) (tgt := 103) dX3_partOfRace_12 (by decide) (fun c12 => ?_) (fun c12 => absurd c12 (by omega))
      refine lv_iconst (v := (-1)) X.1.1 X.1.2.1 dX3_partOfRace_103 (by decide) ?_
      rw [hQ]
      exact sx_iret X rfl hs rfl hP dX3_partOfRace_104 (⟨rfl, Or.inr ⟨by rw [← show f = M by omega]; omega, rfl⟩⟩)
    | succ k_lo ih_lo =>
      intro a f Hv lv ls hk ha hP hl
      have hwf := (hLV f (by omega)).2.2.1
      refine lv_iload X.1.1 X.1.2.1 dX3_partOfRace_6 (lv_at hl 5 rfl) ?_
      refine lv_aload_n X.1.1 X.1.2.1 dX3_partOfRace_8 rfl (lv_at hl 0 rfl) ?_
      refine sx_get X hP in_X3_partOfRace_X3 h19 (by decide) rfl 0 (by decide) lk_X3_partOfRace_fieldLink_RX3_39_RaceWatch_Log_count_I rfl dX3_partOfRace_9 ?_
      refine sx_icmp_ge X (by omega) (by omega) (tgt := 103) dX3_partOfRace_12 (by decide) (fun c12 => absurd c12 (by omega)) (fun c12 => ?_)
      refine lv_aload_n X.1.1 X.1.2.1 dX3_partOfRace_15 rfl (lv_at hl 0 rfl) ?_
      refine lv_iload X.1.1 X.1.2.1 dX3_partOfRace_16 (lv_at hl 5 rfl) ?_
      refine sx_cvI (As := [.int (nI (f))]) (rest := []) X (mX3_isAccess l (e := f) hLV hM hok (by omega) h19 h20 h21 h22 h23 h24 h25) gX3_partOfRace_X3_isAccess rfl yv_X3_isAccess ⟨Nat.le_of_ble_eq_true rfl, Nat.le_of_ble_eq_true rfl⟩ h19 (by decide) rfl rfl hl.1 rfl (Nat.le_of_ble_eq_true rfl) dX3_partOfRace_18 ⟨Nat.le_of_ble_eq_true rfl, Nat.le_of_ble_eq_true rfl⟩ hs rfl hP (fun r1 F1 H1 l1 hp hP => ?_)
      obtain ⟨rfl, ⟨b2, rfl⟩ | ⟨b2, rfl⟩⟩ := hp
      · refine sx_if_eq X (by decide) (tgt := 97) dX3_partOfRace_21 (by decide) (fun h => absurd h (by decide)) (fun _ => ?_)
        refine lv_aload_n X.1.1 X.1.2.1 dX3_partOfRace_24 rfl (lv_at hl 0 rfl) ?_
        refine sx_get X hP in_X3_partOfRace_X3 h19 (by decide) rfl 3 (by decide) lk_X3_partOfRace_fieldLink_RX3_18_RaceWatch_Log_withs_I rfl dX3_partOfRace_25 ?_
        refine lv_iload X.1.1 X.1.2.1 dX3_partOfRace_28 (lv_at hl 5 rfl) ?_
        refine sx_ald X hP h22 (by decide) (f) (by omega) (by decide) dX3_partOfRace_30 ?_
        rw [hwf]
        refine lv_iload_n X.1.1 X.1.2.1 dX3_partOfRace_31 rfl (lv_at hl 1 rfl) ?_
        refine lv_icmp_ne X.1.1 X.1.2.1 (tgt := 97) dX3_partOfRace_32 (by decide) (fun c32 => ?_) (fun c32 => ?_)
        · refine lv_iinc (v := (nI (1 + f))) (lv' := [(5, .int (nI (1 + f))), (0, rf G 19), (1, .int (nI (c))), (2, .int (nI (k))), (3, .int (nI (o))), (4, .int (nI (a)))]) X.1.1 X.1.2.1 dX3_partOfRace_97 hl (k := 5) rfl (sx_inc1 (by omega)) (by decide) rfl (fun ls hl => ?_)
          refine lv_goto (tgt := 6) X.1.1 X.1.2.1 dX3_partOfRace_100 (by decide) ?_
          exact ih_lo (a) (1 + f) _ _ _ (by omega) (by rw [rcN_f (fun q => c32 q.2)]; exact ha)  hP (lv_sub hl [1, 2, 3, 4, 5, 0] rfl)
        · have hab : accB v f c := ⟨(accA_iff (hok f (by omega)).2.1).mp b2, c32⟩
          have hrbf := hrb f (by omega) b2 c hc c32
          have hcl := cntE_le (w := v) (c := c) (k := 3) (f := f) f
          refine lv_iload X.1.1 X.1.2.1 dX3_partOfRace_35 (lv_at hl 4 rfl) ?_
          refine lv_aload_n X.1.1 X.1.2.1 dX3_partOfRace_37 rfl (lv_at hl 0 rfl) ?_
          refine sx_get X hP in_X3_partOfRace_X3 h19 (by decide) rfl 6 (by decide) lk_X3_partOfRace_fieldLink_RX3_33_RaceWatch_Log_racesBehind_I rfl dX3_partOfRace_38 ?_
          refine lv_iload X.1.1 X.1.2.1 dX3_partOfRace_41 (lv_at hl 5 rfl) ?_
          refine sx_ald X hP h26 (by decide) (f) (by omega) (by decide) dX3_partOfRace_43 ?_
          rw [hrbf]
          refine sx_icmp_ge X (by omega) (by omega) (tgt := 85) dX3_partOfRace_44 (by decide) (fun c44 => ?_) (fun c44 => ?_)
          · refine lv_iload X.1.1 X.1.2.1 dX3_partOfRace_85 (lv_at hl 4 rfl) ?_
            refine lv_aload_n X.1.1 X.1.2.1 dX3_partOfRace_87 rfl (lv_at hl 0 rfl) ?_
            refine sx_get X hP in_X3_partOfRace_X3 h19 (by decide) rfl 6 (by decide) lk_X3_partOfRace_fieldLink_RX3_33_RaceWatch_Log_racesBehind_I rfl dX3_partOfRace_88 ?_
            refine lv_iload X.1.1 X.1.2.1 dX3_partOfRace_91 (lv_at hl 5 rfl) ?_
            refine sx_ald X hP h26 (by decide) (f) (by omega) (by decide) dX3_partOfRace_93 ?_
            rw [hrbf]
            refine sx_subN X ((a - (cntE v c 3 f f))) (by omega) (by omega) dX3_partOfRace_94 ?_
            refine lv_istore (lv' := [(4, .int (nI ((a - (cntE v c 3 f f))))), (0, rf G 19), (1, .int (nI (c))), (2, .int (nI (k))), (3, .int (nI (o))), (5, .int (nI (f)))]) X.1.1 X.1.2.1 dX3_partOfRace_95 hl (by decide) rfl (fun ls hl => ?_)
            refine lv_iinc (v := (nI (1 + f))) (lv' := [(5, .int (nI (1 + f))), (4, .int (nI ((a - (cntE v c 3 f f))))), (0, rf G 19), (1, .int (nI (c))), (2, .int (nI (k))), (3, .int (nI (o)))]) X.1.1 X.1.2.1 dX3_partOfRace_97 hl (k := 5) rfl (sx_inc1 (by omega)) (by decide) rfl (fun ls hl => ?_)
            refine lv_goto (tgt := 6) X.1.1 X.1.2.1 dX3_partOfRace_100 (by decide) ?_
            exact ih_lo ((a - (cntE v c 3 f f))) (1 + f) _ _ _ (by omega) (by rw [rcN_t (e := f) rfl (Or.inr hab)]; omega)  hP (lv_sub hl [2, 3, 4, 5, 1, 0] rfl)
          · refine lv_aload_n X.1.1 X.1.2.1 dX3_partOfRace_47 rfl (lv_at hl 0 rfl) ?_
            refine lv_iload X.1.1 X.1.2.1 dX3_partOfRace_48 (lv_at hl 5 rfl) ?_
            refine lv_iload X.1.1 X.1.2.1 dX3_partOfRace_50 (lv_at hl 4 rfl) ?_
            refine sx_cvI (As := [.int (nI (f)), .int (nI (a))]) (rest := []) X (mX3_earlierOf l (f := f) (c := c) (k := a) hLV hM hok (by omega) b2 c32 (by omega) h19 h20 h21 h22 h23 h24 h25) gX3_partOfRace_X3_earlierOf rfl yv_X3_earlierOf ⟨Nat.le_of_ble_eq_true rfl, Nat.le_of_ble_eq_true rfl⟩ h19 (by decide) rfl rfl hl.1 rfl (Nat.le_of_ble_eq_true rfl) dX3_partOfRace_52 ⟨Nat.le_of_ble_eq_true rfl, Nat.le_of_ble_eq_true rfl⟩ hs rfl hP (fun r3 F3 H3 l3 hp hP => ?_)
            obtain ⟨rfl, e, hef, hke, hce, rfl⟩ := hp
            refine lv_istore (lv' := [(6, .int (nI (e))), (0, rf G 19), (1, .int (nI (c))), (2, .int (nI (k))), (3, .int (nI (o))), (4, .int (nI (a))), (5, .int (nI (f)))]) X.1.1 X.1.2.1 dX3_partOfRace_55 hl (by decide) rfl (fun ls hl => ?_)
            refine lv_iload_n X.1.1 X.1.2.1 dX3_partOfRace_57 rfl (lv_at hl 4 rfl) ?_
            refine sx_if_ne X (by omega) (tgt := 66) dX3_partOfRace_58 (by decide) (fun c58 => ?_) (fun c58 => ?_)
            · refine lv_iload_n X.1.1 X.1.2.1 dX3_partOfRace_66 rfl (lv_at hl 4 rfl) ?_
              refine lv_iconst (v := nI 1) X.1.1 X.1.2.1 dX3_partOfRace_67 (by decide) ?_
              refine sx_icmp_ne X (by omega) (by decide) (tgt := 76) dX3_partOfRace_68 (by decide) (fun c68 => ?_) (fun c68 => ?_)
              · refine lv_aload_n X.1.1 X.1.2.1 dX3_partOfRace_76 rfl (lv_at hl 1 rfl) ?_
                refine lv_iload X.1.1 X.1.2.1 dX3_partOfRace_77 (lv_at hl 0 rfl) ?_
                refine lv_iload X.1.1 X.1.2.1 dX3_partOfRace_79 (lv_at hl 6 rfl) ?_
                refine sx_cvI (As := [.int (nI (e)), .int (nI (f))]) (rest := []) X (mX3_kindOfPair l (e := e) (f := f) (c := c) hLV hM hok (by omega) (by omega) b2 c32 h19 h20 h21 h22 h23 h24 h25) gX3_partOfRace_X3_kindOfPair rfl yv_X3_kindOfPair ⟨Nat.le_of_ble_eq_true rfl, Nat.le_of_ble_eq_true rfl⟩ h19 (by decide) rfl rfl hl.1 rfl (Nat.le_of_ble_eq_true rfl) dX3_partOfRace_81 ⟨Nat.le_of_ble_eq_true rfl, Nat.le_of_ble_eq_true rfl⟩ hs rfl hP (fun r4 F4 H4 l4 hp hP => ?_)
                obtain ⟨rfl, rfl⟩ := hp
                rw [hQ]
                exact sx_iret X rfl hs rfl hP dX3_partOfRace_84 (⟨rfl, Or.inl ⟨f, e, by omega, hef, hab, hke, by omega, by rw [if_neg (by omega), if_neg (by omega)]⟩⟩)
              · refine lv_iload X.1.1 X.1.2.1 dX3_partOfRace_71 (lv_at hl 6 rfl) ?_
                refine lv_goto (tgt := 84) X.1.1 X.1.2.1 dX3_partOfRace_73 (by decide) ?_
                rw [hQ]
                exact sx_iret X rfl hs rfl hP dX3_partOfRace_84 (⟨rfl, Or.inl ⟨f, e, by omega, hef, hab, hke, by omega, by rw [if_neg (by omega), if_pos (by omega)]⟩⟩)
            · refine lv_iload X.1.1 X.1.2.1 dX3_partOfRace_61 (lv_at hl 0 rfl) ?_
              refine lv_goto (tgt := 84) X.1.1 X.1.2.1 dX3_partOfRace_63 (by decide) ?_
              rw [hQ]
              exact sx_iret X rfl hs rfl hP dX3_partOfRace_84 (⟨rfl, Or.inl ⟨f, e, by omega, hef, hab, hke, by omega, by rw [if_pos (by omega)]⟩⟩)
      · refine sx_if_eq X (by decide) (tgt := 97) dX3_partOfRace_21 (by decide) (fun _ => ?_) (fun h => absurd h (by decide))
        refine lv_iinc (v := (nI (1 + f))) (lv' := [(5, .int (nI (1 + f))), (0, rf G 19), (1, .int (nI (c))), (2, .int (nI (k))), (3, .int (nI (o))), (4, .int (nI (a)))]) X.1.1 X.1.2.1 dX3_partOfRace_97 hl (k := 5) rfl (sx_inc1 (by omega)) (by decide) rfl (fun ls hl => ?_)
        refine lv_goto (tgt := 6) X.1.1 X.1.2.1 dX3_partOfRace_100 (by decide) ?_
        exact ih_lo (a) (1 + f) _ _ _ (by omega) (by rw [rcN_f (fun q => b2 ((accA_iff (hok f (by omega)).2.1).mpr q.1))]; exact ha)  hP (lv_sub hl [1, 2, 3, 4, 5, 0] rfl)
  exact lo (M) (k) (0) _ _ _ (by omega) (rfl)  hP (lv_sub hl [2, 3, 4, 5, 1, 0] rfl)
theorem ys_X3_racesOfCell : yX3_racesOfCell.cls ≠ "java/lang/invoke/MethodHandle" ∧ yX3_racesOfCell.cls ≠ "java/lang/invoke/VarHandle" ∧ (parseMethodDescriptor yX3_racesOfCell.desc).map (fun d => d.parameters.length) = some 1 := by decide +kernel
theorem yv_X3_racesOfCell : yX3_racesOfCell.cls = RX3 ∧ yX3_racesOfCell.cls ≠ "java/lang/invoke/MethodHandle" ∧ yX3_racesOfCell.cls ≠ "java/lang/invoke/VarHandle" ∧ (parseMethodDescriptor yX3_racesOfCell.desc).map (fun d => d.parameters.length) = some 1 := ⟨rfl, ys_X3_racesOfCell⟩
theorem in_X3_racesOfCell_X3 : ∀ w ∈ wsX30, w ∈ wsX3_racesOfCell := fun _ h => List.mem_cons_of_mem _ (List.mem_append_right _ (h))
theorem lk_X3_racesOfCell_fieldLink_RX3_36_RaceWatch_Log_raceCounts_I : (.fieldLink RX3 36 "RaceWatch$Log" "raceCounts" "[I" : Cond) ∈ wsX3_racesOfCell := List.mem_cons_of_mem _ (List.mem_append_left _ (List.mem_of_getElem? (i := 0) rfl))
abbrev rmX3_racesOfCell : Room := { frames := 0, cells := 0, slots := 0, locals := 0 }
set_option maxHeartbeats 800000 in
set_option maxRecDepth 100000 in
theorem mX3_racesOfCell {G : sx_G} (l : Launch) {F : Nat → va_E} {v rc : Nat → Int32} {M : Nat} {c : Nat}  (hc : c < 4) (hM : M ≤ 160) (hrc : ∀ c, c < 4 → ∀ k, k < 3 → rc (3 * c + k) = nI (rcN v c k M)) (h19 : F (19) = ob 3 ([.int (nI (M)), rf G 20, rf G 21, rf G 22, rf G 23, rf G 24, rf G 26, rf G 27])) (h27 : F (27) = rI G (12) (rc)) : sx_I G l yX3_racesOfCell wsX3_racesOfCell rmX3_racesOfCell [rf G 19, .int (nI (c))] (97) F (97) (fun r F1 => F = F1 ∧ nI (rcN v c 3 M) = r) := by
  refine sx_enter (cc := cX3_racesOfCell) (maxL := 4) (ret := some .int) (own := RX3) (nm := "racesOfCell") (by decide) rfl rfl rfl (Nat.le_of_ble_eq_true rfl) ?_
  intro pp ee ss mm args below meth kc ls Q hQ X hs hP hl
  have hl : lv_has ls 4 [(0, rf G 19), (1, .int (nI (c)))] := hl
  have hrc0 : rc (3 * c) = nI (rcN v c 0 M) := (congrArg rc (by omega)).trans (hrc c hc 0 (by decide))
  have hrc1 : rc (1 + 3 * c) = nI (rcN v c 1 M) := (congrArg rc (by omega)).trans (hrc c hc 1 (by decide))
  have hrc2 : rc (2 + 3 * c) = nI (rcN v c 2 M) := (congrArg rc (by omega)).trans (hrc c hc 2 (by decide))
  refine lv_iconst (v := nI 0) X.1.1 X.1.2.1 dX3_racesOfCell_0 (by decide) ?_
  refine lv_istore_n (lv' := [(2, .int (nI 0)), (0, rf G 19), (1, .int (nI (c)))]) X.1.1 X.1.2.1 dX3_racesOfCell_1 rfl hl (by decide) rfl (fun ls hl => ?_)
  refine lv_iconst (v := nI 0) X.1.1 X.1.2.1 dX3_racesOfCell_2 (by decide) ?_
  refine lv_istore_n (lv' := [(3, .int (nI 0)), (2, .int (nI 0)), (0, rf G 19), (1, .int (nI (c)))]) X.1.1 X.1.2.1 dX3_racesOfCell_3 rfl hl (by decide) rfl (fun ls hl => ?_)
  refine lv_iload_n X.1.1 X.1.2.1 dX3_racesOfCell_4 rfl (lv_at hl 0 rfl) ?_
  refine lv_iconst (v := nI 3) X.1.1 X.1.2.1 dX3_racesOfCell_5 (by decide) ?_
  refine sx_icmp_ge X (by decide) (by decide) (tgt := 28) dX3_racesOfCell_6 (by decide) (fun h => absurd h (by decide)) (fun _ => ?_)
  refine lv_iload_n X.1.1 X.1.2.1 dX3_racesOfCell_9 rfl (lv_at hl 1 rfl) ?_
  refine lv_aload_n X.1.1 X.1.2.1 dX3_racesOfCell_10 rfl (lv_at hl 2 rfl) ?_
  refine sx_get X hP in_X3_racesOfCell_X3 h19 (by decide) rfl 7 (by decide) lk_X3_racesOfCell_fieldLink_RX3_36_RaceWatch_Log_raceCounts_I rfl dX3_racesOfCell_11 ?_
  refine lv_iload_n X.1.1 X.1.2.1 dX3_racesOfCell_14 rfl (lv_at hl 3 rfl) ?_
  refine lv_iconst (v := nI 3) X.1.1 X.1.2.1 dX3_racesOfCell_15 (by decide) ?_
  refine sx_mulN X (3 * c) (by omega) dX3_racesOfCell_16 ?_
  refine lv_iload_n X.1.1 X.1.2.1 dX3_racesOfCell_17 rfl (lv_at hl 0 rfl) ?_
  refine sx_addN X (3 * c) (by omega) dX3_racesOfCell_18 ?_
  refine sx_ald X hP h27 (by decide) (3 * c) (by omega) (by decide) dX3_racesOfCell_19 ?_
  rw [hrc0]
  refine sx_addN X (rcN v c 0 M) (by omega) dX3_racesOfCell_20 ?_
  refine lv_istore_n (lv' := [(2, .int (nI (rcN v c 0 M))), (3, .int (nI 0)), (0, rf G 19), (1, .int (nI (c)))]) X.1.1 X.1.2.1 dX3_racesOfCell_21 rfl hl (by decide) rfl (fun ls hl => ?_)
  refine lv_iinc (v := (nI (1))) (lv' := [(3, .int (nI 1)), (2, .int (nI (rcN v c 0 M))), (0, rf G 19), (1, .int (nI (c)))]) X.1.1 X.1.2.1 dX3_racesOfCell_22 hl (k := 1) rfl (by decide) (by decide) rfl (fun ls hl => ?_)
  refine lv_goto (tgt := 4) X.1.1 X.1.2.1 dX3_racesOfCell_25 (by decide) ?_
  refine lv_iload_n X.1.1 X.1.2.1 dX3_racesOfCell_4 rfl (lv_at hl 0 rfl) ?_
  refine lv_iconst (v := nI 3) X.1.1 X.1.2.1 dX3_racesOfCell_5 (by decide) ?_
  refine sx_icmp_ge X (by decide) (by decide) (tgt := 28) dX3_racesOfCell_6 (by decide) (fun h => absurd h (by decide)) (fun _ => ?_)
  refine lv_iload_n X.1.1 X.1.2.1 dX3_racesOfCell_9 rfl (lv_at hl 1 rfl) ?_
  refine lv_aload_n X.1.1 X.1.2.1 dX3_racesOfCell_10 rfl (lv_at hl 2 rfl) ?_
  refine sx_get X hP in_X3_racesOfCell_X3 h19 (by decide) rfl 7 (by decide) lk_X3_racesOfCell_fieldLink_RX3_36_RaceWatch_Log_raceCounts_I rfl dX3_racesOfCell_11 ?_
  refine lv_iload_n X.1.1 X.1.2.1 dX3_racesOfCell_14 rfl (lv_at hl 3 rfl) ?_
  refine lv_iconst (v := nI 3) X.1.1 X.1.2.1 dX3_racesOfCell_15 (by decide) ?_
  refine sx_mulN X (3 * c) (by omega) dX3_racesOfCell_16 ?_
  refine lv_iload_n X.1.1 X.1.2.1 dX3_racesOfCell_17 rfl (lv_at hl 0 rfl) ?_
  refine sx_addN X (1 + 3 * c) (by omega) dX3_racesOfCell_18 ?_
  refine sx_ald X hP h27 (by decide) (1 + 3 * c) (by omega) (by decide) dX3_racesOfCell_19 ?_
  rw [hrc1]
  refine sx_addN X (rcN v c 0 M + rcN v c 1 M) (by omega) dX3_racesOfCell_20 ?_
  refine lv_istore_n (lv' := [(2, .int (nI (rcN v c 0 M + rcN v c 1 M))), (3, .int (nI 1)), (0, rf G 19), (1, .int (nI (c)))]) X.1.1 X.1.2.1 dX3_racesOfCell_21 rfl hl (by decide) rfl (fun ls hl => ?_)
  refine lv_iinc (v := (nI (2))) (lv' := [(3, .int (nI 2)), (2, .int (nI (rcN v c 0 M + rcN v c 1 M))), (0, rf G 19), (1, .int (nI (c)))]) X.1.1 X.1.2.1 dX3_racesOfCell_22 hl (k := 1) rfl (by decide) (by decide) rfl (fun ls hl => ?_)
  refine lv_goto (tgt := 4) X.1.1 X.1.2.1 dX3_racesOfCell_25 (by decide) ?_
  refine lv_iload_n X.1.1 X.1.2.1 dX3_racesOfCell_4 rfl (lv_at hl 0 rfl) ?_
  refine lv_iconst (v := nI 3) X.1.1 X.1.2.1 dX3_racesOfCell_5 (by decide) ?_
  refine sx_icmp_ge X (by decide) (by decide) (tgt := 28) dX3_racesOfCell_6 (by decide) (fun h => absurd h (by decide)) (fun _ => ?_)
  refine lv_iload_n X.1.1 X.1.2.1 dX3_racesOfCell_9 rfl (lv_at hl 1 rfl) ?_
  refine lv_aload_n X.1.1 X.1.2.1 dX3_racesOfCell_10 rfl (lv_at hl 2 rfl) ?_
  refine sx_get X hP in_X3_racesOfCell_X3 h19 (by decide) rfl 7 (by decide) lk_X3_racesOfCell_fieldLink_RX3_36_RaceWatch_Log_raceCounts_I rfl dX3_racesOfCell_11 ?_
  refine lv_iload_n X.1.1 X.1.2.1 dX3_racesOfCell_14 rfl (lv_at hl 3 rfl) ?_
  refine lv_iconst (v := nI 3) X.1.1 X.1.2.1 dX3_racesOfCell_15 (by decide) ?_
  refine sx_mulN X (3 * c) (by omega) dX3_racesOfCell_16 ?_
  refine lv_iload_n X.1.1 X.1.2.1 dX3_racesOfCell_17 rfl (lv_at hl 0 rfl) ?_
  refine sx_addN X (2 + 3 * c) (by omega) dX3_racesOfCell_18 ?_
  refine sx_ald X hP h27 (by decide) (2 + 3 * c) (by omega) (by decide) dX3_racesOfCell_19 ?_
  rw [hrc2]
  refine sx_addN X (rcN v c 0 M + rcN v c 1 M + rcN v c 2 M) (by omega) dX3_racesOfCell_20 ?_
  refine lv_istore_n (lv' := [(2, .int (nI (rcN v c 0 M + rcN v c 1 M + rcN v c 2 M))), (3, .int (nI 2)), (0, rf G 19), (1, .int (nI (c)))]) X.1.1 X.1.2.1 dX3_racesOfCell_21 rfl hl (by decide) rfl (fun ls hl => ?_)
  refine lv_iinc (v := (nI (3))) (lv' := [(3, .int (nI 3)), (2, .int (nI (rcN v c 0 M + rcN v c 1 M + rcN v c 2 M))), (0, rf G 19), (1, .int (nI (c)))]) X.1.1 X.1.2.1 dX3_racesOfCell_22 hl (k := 1) rfl (by decide) (by decide) rfl (fun ls hl => ?_)
  refine lv_goto (tgt := 4) X.1.1 X.1.2.1 dX3_racesOfCell_25 (by decide) ?_
  refine lv_iload_n X.1.1 X.1.2.1 dX3_racesOfCell_4 rfl (lv_at hl 0 rfl) ?_
  refine lv_iconst (v := nI 3) X.1.1 X.1.2.1 dX3_racesOfCell_5 (by decide) ?_
  refine sx_icmp_ge X (by decide) (by decide) (tgt := 28) dX3_racesOfCell_6 (by decide) (fun _ => ?_) (fun h => absurd h (by decide))
  refine lv_iload_n X.1.1 X.1.2.1 dX3_racesOfCell_28 rfl (lv_at hl 1 rfl) ?_
  rw [hQ]
  exact sx_iret X rfl hs rfl hP dX3_racesOfCell_29 (⟨rfl, congrArg nI (by have := rcN_sum (v := v) (c := c) M; omega)⟩)
theorem ys_X3_racesOfAll : yX3_racesOfAll.cls ≠ "java/lang/invoke/MethodHandle" ∧ yX3_racesOfAll.cls ≠ "java/lang/invoke/VarHandle" ∧ (parseMethodDescriptor yX3_racesOfAll.desc).map (fun d => d.parameters.length) = some 0 := by decide +kernel
theorem yv_X3_racesOfAll : yX3_racesOfAll.cls = RX3 ∧ yX3_racesOfAll.cls ≠ "java/lang/invoke/MethodHandle" ∧ yX3_racesOfAll.cls ≠ "java/lang/invoke/VarHandle" ∧ (parseMethodDescriptor yX3_racesOfAll.desc).map (fun d => d.parameters.length) = some 0 := ⟨rfl, ys_X3_racesOfAll⟩
abbrev rmX3_racesOfAll : Room := { frames := 1, cells := 0, slots := 0, locals := 23 }
set_option maxHeartbeats 800000 in
set_option maxRecDepth 100000 in
theorem mX3_racesOfAll {G : sx_G} (l : Launch) {F : Nat → va_E} {v rc : Nat → Int32} {M : Nat}  (hM : M ≤ 160) (hrc : ∀ c, c < 4 → ∀ k, k < 3 → rc (3 * c + k) = nI (rcN v c k M)) (h19 : F (19) = ob 3 ([.int (nI (M)), rf G 20, rf G 21, rf G 22, rf G 23, rf G 24, rf G 26, rf G 27])) (h27 : F (27) = rI G (12) (rc)) : sx_I G l yX3_racesOfAll wsX3_racesOfAll rmX3_racesOfAll [rf G 19] (97) F (97) (fun r F1 => F = F1 ∧ nI (rcN v 0 3 M + rcN v 1 3 M + rcN v 2 3 M + rcN v 3 3 M) = r) := by
  refine sx_enter (cc := cX3_racesOfAll) (maxL := 3) (ret := some .int) (own := RX3) (nm := "racesOfAll") (by decide) rfl rfl rfl (Nat.le_of_ble_eq_true rfl) ?_
  intro pp ee ss mm args below meth kc ls Q hQ X hs hP hl
  have hl : lv_has ls 3 [(0, rf G 19)] := hl
  refine lv_iconst (v := nI 0) X.1.1 X.1.2.1 dX3_racesOfAll_0 (by decide) ?_
  refine lv_istore_n (lv' := [(1, .int (nI 0)), (0, rf G 19)]) X.1.1 X.1.2.1 dX3_racesOfAll_1 rfl hl (by decide) rfl (fun ls hl => ?_)
  refine lv_iconst (v := nI 0) X.1.1 X.1.2.1 dX3_racesOfAll_2 (by decide) ?_
  refine lv_istore_n (lv' := [(2, .int (nI 0)), (1, .int (nI 0)), (0, rf G 19)]) X.1.1 X.1.2.1 dX3_racesOfAll_3 rfl hl (by decide) rfl (fun ls hl => ?_)
  refine lv_iload_n X.1.1 X.1.2.1 dX3_racesOfAll_4 rfl (lv_at hl 0 rfl) ?_
  refine lv_iconst (v := nI 4) X.1.1 X.1.2.1 dX3_racesOfAll_5 (by decide) ?_
  refine sx_icmp_ge X (by decide) (by decide) (tgt := 23) dX3_racesOfAll_6 (by decide) (fun h => absurd h (by decide)) (fun _ => ?_)
  refine lv_iload_n X.1.1 X.1.2.1 dX3_racesOfAll_9 rfl (lv_at hl 1 rfl) ?_
  refine lv_aload_n X.1.1 X.1.2.1 dX3_racesOfAll_10 rfl (lv_at hl 2 rfl) ?_
  refine lv_iload_n X.1.1 X.1.2.1 dX3_racesOfAll_11 rfl (lv_at hl 0 rfl) ?_
  refine sx_cvI (As := [.int (nI 0)]) (rest := .int (nI 0) :: []) X (mX3_racesOfCell l (v := v) (c := 0) (by omega) hM hrc h19 h27) gX3_racesOfAll_X3_racesOfCell rfl yv_X3_racesOfCell ⟨Nat.le_of_ble_eq_true rfl, Nat.le_of_ble_eq_true rfl⟩ h19 (by decide) rfl rfl hl.1 rfl (Nat.le_of_ble_eq_true rfl) dX3_racesOfAll_12 ⟨Nat.le_of_ble_eq_true rfl, Nat.le_of_ble_eq_true rfl⟩ hs rfl hP (fun r1 F1 H1 l1 hp hP => ?_)
  obtain ⟨rfl, rfl⟩ := hp
  refine sx_addN X (rcN v 0 3 M) (by omega) dX3_racesOfAll_15 ?_
  refine lv_istore_n (lv' := [(1, .int (nI (rcN v 0 3 M))), (2, .int (nI 0)), (0, rf G 19)]) X.1.1 X.1.2.1 dX3_racesOfAll_16 rfl hl (by decide) rfl (fun ls hl => ?_)
  refine lv_iinc (v := (nI (1))) (lv' := [(2, .int (nI 1)), (1, .int (nI (rcN v 0 3 M))), (0, rf G 19)]) X.1.1 X.1.2.1 dX3_racesOfAll_17 hl (k := 1) rfl (by decide) (by decide) rfl (fun ls hl => ?_)
  refine lv_goto (tgt := 4) X.1.1 X.1.2.1 dX3_racesOfAll_20 (by decide) ?_
  refine lv_iload_n X.1.1 X.1.2.1 dX3_racesOfAll_4 rfl (lv_at hl 0 rfl) ?_
  refine lv_iconst (v := nI 4) X.1.1 X.1.2.1 dX3_racesOfAll_5 (by decide) ?_
  refine sx_icmp_ge X (by decide) (by decide) (tgt := 23) dX3_racesOfAll_6 (by decide) (fun h => absurd h (by decide)) (fun _ => ?_)
  refine lv_iload_n X.1.1 X.1.2.1 dX3_racesOfAll_9 rfl (lv_at hl 1 rfl) ?_
  refine lv_aload_n X.1.1 X.1.2.1 dX3_racesOfAll_10 rfl (lv_at hl 2 rfl) ?_
  refine lv_iload_n X.1.1 X.1.2.1 dX3_racesOfAll_11 rfl (lv_at hl 0 rfl) ?_
  refine sx_cvI (As := [.int (nI 1)]) (rest := .int (nI (rcN v 0 3 M)) :: []) X (mX3_racesOfCell l (v := v) (c := 1) (by omega) hM hrc h19 h27) gX3_racesOfAll_X3_racesOfCell rfl yv_X3_racesOfCell ⟨Nat.le_of_ble_eq_true rfl, Nat.le_of_ble_eq_true rfl⟩ h19 (by decide) rfl rfl hl.1 rfl (Nat.le_of_ble_eq_true rfl) dX3_racesOfAll_12 ⟨Nat.le_of_ble_eq_true rfl, Nat.le_of_ble_eq_true rfl⟩ hs rfl hP (fun r2 F2 H2 l2 hp hP => ?_)
  obtain ⟨rfl, rfl⟩ := hp
  refine sx_addN X (rcN v 0 3 M + rcN v 1 3 M) (by omega) dX3_racesOfAll_15 ?_
  refine lv_istore_n (lv' := [(1, .int (nI (rcN v 0 3 M + rcN v 1 3 M))), (2, .int (nI 1)), (0, rf G 19)]) X.1.1 X.1.2.1 dX3_racesOfAll_16 rfl hl (by decide) rfl (fun ls hl => ?_)
  refine lv_iinc (v := (nI (2))) (lv' := [(2, .int (nI 2)), (1, .int (nI (rcN v 0 3 M + rcN v 1 3 M))), (0, rf G 19)]) X.1.1 X.1.2.1 dX3_racesOfAll_17 hl (k := 1) rfl (by decide) (by decide) rfl (fun ls hl => ?_)
  refine lv_goto (tgt := 4) X.1.1 X.1.2.1 dX3_racesOfAll_20 (by decide) ?_
  refine lv_iload_n X.1.1 X.1.2.1 dX3_racesOfAll_4 rfl (lv_at hl 0 rfl) ?_
  refine lv_iconst (v := nI 4) X.1.1 X.1.2.1 dX3_racesOfAll_5 (by decide) ?_
  refine sx_icmp_ge X (by decide) (by decide) (tgt := 23) dX3_racesOfAll_6 (by decide) (fun h => absurd h (by decide)) (fun _ => ?_)
  refine lv_iload_n X.1.1 X.1.2.1 dX3_racesOfAll_9 rfl (lv_at hl 1 rfl) ?_
  refine lv_aload_n X.1.1 X.1.2.1 dX3_racesOfAll_10 rfl (lv_at hl 2 rfl) ?_
  refine lv_iload_n X.1.1 X.1.2.1 dX3_racesOfAll_11 rfl (lv_at hl 0 rfl) ?_
  refine sx_cvI (As := [.int (nI 2)]) (rest := .int (nI (rcN v 0 3 M + rcN v 1 3 M)) :: []) X (mX3_racesOfCell l (v := v) (c := 2) (by omega) hM hrc h19 h27) gX3_racesOfAll_X3_racesOfCell rfl yv_X3_racesOfCell ⟨Nat.le_of_ble_eq_true rfl, Nat.le_of_ble_eq_true rfl⟩ h19 (by decide) rfl rfl hl.1 rfl (Nat.le_of_ble_eq_true rfl) dX3_racesOfAll_12 ⟨Nat.le_of_ble_eq_true rfl, Nat.le_of_ble_eq_true rfl⟩ hs rfl hP (fun r3 F3 H3 l3 hp hP => ?_)
  obtain ⟨rfl, rfl⟩ := hp
  refine sx_addN X (rcN v 0 3 M + rcN v 1 3 M + rcN v 2 3 M) (by omega) dX3_racesOfAll_15 ?_
  refine lv_istore_n (lv' := [(1, .int (nI (rcN v 0 3 M + rcN v 1 3 M + rcN v 2 3 M))), (2, .int (nI 2)), (0, rf G 19)]) X.1.1 X.1.2.1 dX3_racesOfAll_16 rfl hl (by decide) rfl (fun ls hl => ?_)
  refine lv_iinc (v := (nI (3))) (lv' := [(2, .int (nI 3)), (1, .int (nI (rcN v 0 3 M + rcN v 1 3 M + rcN v 2 3 M))), (0, rf G 19)]) X.1.1 X.1.2.1 dX3_racesOfAll_17 hl (k := 1) rfl (by decide) (by decide) rfl (fun ls hl => ?_)
  refine lv_goto (tgt := 4) X.1.1 X.1.2.1 dX3_racesOfAll_20 (by decide) ?_
  refine lv_iload_n X.1.1 X.1.2.1 dX3_racesOfAll_4 rfl (lv_at hl 0 rfl) ?_
  refine lv_iconst (v := nI 4) X.1.1 X.1.2.1 dX3_racesOfAll_5 (by decide) ?_
  refine sx_icmp_ge X (by decide) (by decide) (tgt := 23) dX3_racesOfAll_6 (by decide) (fun h => absurd h (by decide)) (fun _ => ?_)
  refine lv_iload_n X.1.1 X.1.2.1 dX3_racesOfAll_9 rfl (lv_at hl 1 rfl) ?_
  refine lv_aload_n X.1.1 X.1.2.1 dX3_racesOfAll_10 rfl (lv_at hl 2 rfl) ?_
  refine lv_iload_n X.1.1 X.1.2.1 dX3_racesOfAll_11 rfl (lv_at hl 0 rfl) ?_
  refine sx_cvI (As := [.int (nI 3)]) (rest := .int (nI (rcN v 0 3 M + rcN v 1 3 M + rcN v 2 3 M)) :: []) X (mX3_racesOfCell l (v := v) (c := 3) (by omega) hM hrc h19 h27) gX3_racesOfAll_X3_racesOfCell rfl yv_X3_racesOfCell ⟨Nat.le_of_ble_eq_true rfl, Nat.le_of_ble_eq_true rfl⟩ h19 (by decide) rfl rfl hl.1 rfl (Nat.le_of_ble_eq_true rfl) dX3_racesOfAll_12 ⟨Nat.le_of_ble_eq_true rfl, Nat.le_of_ble_eq_true rfl⟩ hs rfl hP (fun r4 F4 H4 l4 hp hP => ?_)
  obtain ⟨rfl, rfl⟩ := hp
  refine sx_addN X (rcN v 0 3 M + rcN v 1 3 M + rcN v 2 3 M + rcN v 3 3 M) (by omega) dX3_racesOfAll_15 ?_
  refine lv_istore_n (lv' := [(1, .int (nI (rcN v 0 3 M + rcN v 1 3 M + rcN v 2 3 M + rcN v 3 3 M))), (2, .int (nI 3)), (0, rf G 19)]) X.1.1 X.1.2.1 dX3_racesOfAll_16 rfl hl (by decide) rfl (fun ls hl => ?_)
  refine lv_iinc (v := (nI (4))) (lv' := [(2, .int (nI 4)), (1, .int (nI (rcN v 0 3 M + rcN v 1 3 M + rcN v 2 3 M + rcN v 3 3 M))), (0, rf G 19)]) X.1.1 X.1.2.1 dX3_racesOfAll_17 hl (k := 1) rfl (by decide) (by decide) rfl (fun ls hl => ?_)
  refine lv_goto (tgt := 4) X.1.1 X.1.2.1 dX3_racesOfAll_20 (by decide) ?_
  refine lv_iload_n X.1.1 X.1.2.1 dX3_racesOfAll_4 rfl (lv_at hl 0 rfl) ?_
  refine lv_iconst (v := nI 4) X.1.1 X.1.2.1 dX3_racesOfAll_5 (by decide) ?_
  refine sx_icmp_ge X (by decide) (by decide) (tgt := 23) dX3_racesOfAll_6 (by decide) (fun _ => ?_) (fun h => absurd h (by decide))
  refine lv_iload_n X.1.1 X.1.2.1 dX3_racesOfAll_23 rfl (lv_at hl 1 rfl) ?_
  rw [hQ]
  exact sx_iret X rfl hs rfl hP dX3_racesOfAll_24 (⟨rfl, by first | rfl | (congr 1; omega)⟩)
theorem ys_X3_cellsWithRace : yX3_cellsWithRace.cls ≠ "java/lang/invoke/MethodHandle" ∧ yX3_cellsWithRace.cls ≠ "java/lang/invoke/VarHandle" ∧ (parseMethodDescriptor yX3_cellsWithRace.desc).map (fun d => d.parameters.length) = some 0 := by decide +kernel
theorem yv_X3_cellsWithRace : yX3_cellsWithRace.cls = RX3 ∧ yX3_cellsWithRace.cls ≠ "java/lang/invoke/MethodHandle" ∧ yX3_cellsWithRace.cls ≠ "java/lang/invoke/VarHandle" ∧ (parseMethodDescriptor yX3_cellsWithRace.desc).map (fun d => d.parameters.length) = some 0 := ⟨rfl, ys_X3_cellsWithRace⟩
abbrev rmX3_cellsWithRace : Room := { frames := 1, cells := 0, slots := 0, locals := 23 }
set_option maxHeartbeats 800000 in
set_option maxRecDepth 100000 in
theorem mX3_cellsWithRace {G : sx_G} (l : Launch) {F : Nat → va_E} {v rc : Nat → Int32} {M : Nat}  (hM : M ≤ 160) (hrc : ∀ c, c < 4 → ∀ k, k < 3 → rc (3 * c + k) = nI (rcN v c k M)) (h19 : F (19) = ob 3 ([.int (nI (M)), rf G 20, rf G 21, rf G 22, rf G 23, rf G 24, rf G 26, rf G 27])) (h27 : F (27) = rI G (12) (rc)) : sx_I G l yX3_cellsWithRace wsX3_cellsWithRace rmX3_cellsWithRace [rf G 19] (97) F (97) (fun r F1 => F = F1 ∧ rSetF v M = r) := by
  refine sx_enter (cc := cX3_cellsWithRace) (maxL := 3) (ret := some .int) (own := RX3) (nm := "cellsWithRace") (by decide) rfl rfl rfl (Nat.le_of_ble_eq_true rfl) ?_
  intro pp ee ss mm args below meth kc ls Q hQ X hs hP hl
  have hl : lv_has ls 3 [(0, rf G 19)] := hl
  refine lv_iconst (v := nI 0) X.1.1 X.1.2.1 dX3_cellsWithRace_0 (by decide) ?_
  refine lv_istore_n (lv' := [(1, .int (nI 0)), (0, rf G 19)]) X.1.1 X.1.2.1 dX3_cellsWithRace_1 rfl hl (by decide) rfl (fun ls hl => ?_)
  refine lv_iconst (v := nI 0) X.1.1 X.1.2.1 dX3_cellsWithRace_2 (by decide) ?_
  refine lv_istore_n (lv' := [(2, .int (nI 0)), (1, .int (nI 0)), (0, rf G 19)]) X.1.1 X.1.2.1 dX3_cellsWithRace_3 rfl hl (by decide) rfl (fun ls hl => ?_)
  refine lv_iload_n X.1.1 X.1.2.1 dX3_cellsWithRace_4 rfl (lv_at hl 0 rfl) ?_
  refine lv_iconst (v := nI 4) X.1.1 X.1.2.1 dX3_cellsWithRace_5 (by decide) ?_
  refine sx_icmp_ge X (by decide) (by decide) (tgt := 29) dX3_cellsWithRace_6 (by decide) (fun h => absurd h (by decide)) (fun _ => ?_)
  refine lv_aload_n X.1.1 X.1.2.1 dX3_cellsWithRace_9 rfl (lv_at hl 2 rfl) ?_
  refine lv_iload_n X.1.1 X.1.2.1 dX3_cellsWithRace_10 rfl (lv_at hl 0 rfl) ?_
  refine sx_cvI (As := [.int (nI 0)]) (rest := []) X (mX3_racesOfCell l (v := v) (c := 0) (by omega) hM hrc h19 h27) gX3_cellsWithRace_X3_racesOfCell rfl yv_X3_racesOfCell ⟨Nat.le_of_ble_eq_true rfl, Nat.le_of_ble_eq_true rfl⟩ h19 (by decide) rfl rfl hl.1 rfl (Nat.le_of_ble_eq_true rfl) dX3_cellsWithRace_11 ⟨Nat.le_of_ble_eq_true rfl, Nat.le_of_ble_eq_true rfl⟩ hs rfl hP (fun r1 F1 H1 l1 hp hP => ?_)
  obtain ⟨rfl, rfl⟩ := hp
  refine sx_if_le X (Nat.lt_of_lt_of_le (rcN_lt hM) (by decide)) (tgt := 23) dX3_cellsWithRace_14 (by decide) (fun c14 => ?_) (fun c14 => ?_)
  · refine lv_iinc (v := (nI (1))) (lv' := [(2, .int (nI 1)), (1, .int (nI 0)), (0, rf G 19)]) X.1.1 X.1.2.1 dX3_cellsWithRace_23 hl (k := 0) rfl (by decide) (by decide) rfl (fun ls hl => ?_)
    refine lv_goto (tgt := 4) X.1.1 X.1.2.1 dX3_cellsWithRace_26 (by decide) ?_
    refine lv_iload_n X.1.1 X.1.2.1 dX3_cellsWithRace_4 rfl (lv_at hl 0 rfl) ?_
    refine lv_iconst (v := nI 4) X.1.1 X.1.2.1 dX3_cellsWithRace_5 (by decide) ?_
    refine sx_icmp_ge X (by decide) (by decide) (tgt := 29) dX3_cellsWithRace_6 (by decide) (fun h => absurd h (by decide)) (fun _ => ?_)
    refine lv_aload_n X.1.1 X.1.2.1 dX3_cellsWithRace_9 rfl (lv_at hl 2 rfl) ?_
    refine lv_iload_n X.1.1 X.1.2.1 dX3_cellsWithRace_10 rfl (lv_at hl 0 rfl) ?_
    refine sx_cvI (As := [.int (nI 1)]) (rest := []) X (mX3_racesOfCell l (v := v) (c := 1) (by omega) hM hrc h19 h27) gX3_cellsWithRace_X3_racesOfCell rfl yv_X3_racesOfCell ⟨Nat.le_of_ble_eq_true rfl, Nat.le_of_ble_eq_true rfl⟩ h19 (by decide) rfl rfl hl.1 rfl (Nat.le_of_ble_eq_true rfl) dX3_cellsWithRace_11 ⟨Nat.le_of_ble_eq_true rfl, Nat.le_of_ble_eq_true rfl⟩ hs rfl hP (fun r2 F2 H2 l2 hp hP => ?_)
    obtain ⟨rfl, rfl⟩ := hp
    refine sx_if_le X (Nat.lt_of_lt_of_le (rcN_lt hM) (by decide)) (tgt := 23) dX3_cellsWithRace_14 (by decide) (fun c14_3 => ?_) (fun c14_3 => ?_)
    · refine lv_iinc (v := (nI (2))) (lv' := [(2, .int (nI 2)), (1, .int (nI 0)), (0, rf G 19)]) X.1.1 X.1.2.1 dX3_cellsWithRace_23 hl (k := 0) rfl (by decide) (by decide) rfl (fun ls hl => ?_)
      refine lv_goto (tgt := 4) X.1.1 X.1.2.1 dX3_cellsWithRace_26 (by decide) ?_
      refine lv_iload_n X.1.1 X.1.2.1 dX3_cellsWithRace_4 rfl (lv_at hl 0 rfl) ?_
      refine lv_iconst (v := nI 4) X.1.1 X.1.2.1 dX3_cellsWithRace_5 (by decide) ?_
      refine sx_icmp_ge X (by decide) (by decide) (tgt := 29) dX3_cellsWithRace_6 (by decide) (fun h => absurd h (by decide)) (fun _ => ?_)
      refine lv_aload_n X.1.1 X.1.2.1 dX3_cellsWithRace_9 rfl (lv_at hl 2 rfl) ?_
      refine lv_iload_n X.1.1 X.1.2.1 dX3_cellsWithRace_10 rfl (lv_at hl 0 rfl) ?_
      refine sx_cvI (As := [.int (nI 2)]) (rest := []) X (mX3_racesOfCell l (v := v) (c := 2) (by omega) hM hrc h19 h27) gX3_cellsWithRace_X3_racesOfCell rfl yv_X3_racesOfCell ⟨Nat.le_of_ble_eq_true rfl, Nat.le_of_ble_eq_true rfl⟩ h19 (by decide) rfl rfl hl.1 rfl (Nat.le_of_ble_eq_true rfl) dX3_cellsWithRace_11 ⟨Nat.le_of_ble_eq_true rfl, Nat.le_of_ble_eq_true rfl⟩ hs rfl hP (fun r4 F4 H4 l4 hp hP => ?_)
      obtain ⟨rfl, rfl⟩ := hp
      refine sx_if_le X (Nat.lt_of_lt_of_le (rcN_lt hM) (by decide)) (tgt := 23) dX3_cellsWithRace_14 (by decide) (fun c14_5 => ?_) (fun c14_5 => ?_)
      · refine lv_iinc (v := (nI (3))) (lv' := [(2, .int (nI 3)), (1, .int (nI 0)), (0, rf G 19)]) X.1.1 X.1.2.1 dX3_cellsWithRace_23 hl (k := 0) rfl (by decide) (by decide) rfl (fun ls hl => ?_)
        refine lv_goto (tgt := 4) X.1.1 X.1.2.1 dX3_cellsWithRace_26 (by decide) ?_
        refine lv_iload_n X.1.1 X.1.2.1 dX3_cellsWithRace_4 rfl (lv_at hl 0 rfl) ?_
        refine lv_iconst (v := nI 4) X.1.1 X.1.2.1 dX3_cellsWithRace_5 (by decide) ?_
        refine sx_icmp_ge X (by decide) (by decide) (tgt := 29) dX3_cellsWithRace_6 (by decide) (fun h => absurd h (by decide)) (fun _ => ?_)
        refine lv_aload_n X.1.1 X.1.2.1 dX3_cellsWithRace_9 rfl (lv_at hl 2 rfl) ?_
        refine lv_iload_n X.1.1 X.1.2.1 dX3_cellsWithRace_10 rfl (lv_at hl 0 rfl) ?_
        refine sx_cvI (As := [.int (nI 3)]) (rest := []) X (mX3_racesOfCell l (v := v) (c := 3) (by omega) hM hrc h19 h27) gX3_cellsWithRace_X3_racesOfCell rfl yv_X3_racesOfCell ⟨Nat.le_of_ble_eq_true rfl, Nat.le_of_ble_eq_true rfl⟩ h19 (by decide) rfl rfl hl.1 rfl (Nat.le_of_ble_eq_true rfl) dX3_cellsWithRace_11 ⟨Nat.le_of_ble_eq_true rfl, Nat.le_of_ble_eq_true rfl⟩ hs rfl hP (fun r6 F6 H6 l6 hp hP => ?_)
        obtain ⟨rfl, rfl⟩ := hp
        refine sx_if_le X (Nat.lt_of_lt_of_le (rcN_lt hM) (by decide)) (tgt := 23) dX3_cellsWithRace_14 (by decide) (fun c14_7 => ?_) (fun c14_7 => ?_)
        · refine lv_iinc (v := (nI (4))) (lv' := [(2, .int (nI 4)), (1, .int (nI 0)), (0, rf G 19)]) X.1.1 X.1.2.1 dX3_cellsWithRace_23 hl (k := 0) rfl (by decide) (by decide) rfl (fun ls hl => ?_)
          refine lv_goto (tgt := 4) X.1.1 X.1.2.1 dX3_cellsWithRace_26 (by decide) ?_
          refine lv_iload_n X.1.1 X.1.2.1 dX3_cellsWithRace_4 rfl (lv_at hl 0 rfl) ?_
          refine lv_iconst (v := nI 4) X.1.1 X.1.2.1 dX3_cellsWithRace_5 (by decide) ?_
          refine sx_icmp_ge X (by decide) (by decide) (tgt := 29) dX3_cellsWithRace_6 (by decide) (fun _ => ?_) (fun h => absurd h (by decide))
          refine lv_iload_n X.1.1 X.1.2.1 dX3_cellsWithRace_29 rfl (lv_at hl 1 rfl) ?_
          rw [hQ]
          exact sx_iret X rfl hs rfl hP dX3_cellsWithRace_30 (⟨rfl, by simp only [rSetF]; (repeat' split) <;> first | rfl | (exfalso; omega) | (simp_all; done)⟩)
        · refine lv_iload_n X.1.1 X.1.2.1 dX3_cellsWithRace_17 rfl (lv_at hl 1 rfl) ?_
          refine lv_iconst (v := nI 1) X.1.1 X.1.2.1 dX3_cellsWithRace_18 (by decide) ?_
          refine lv_iload_n X.1.1 X.1.2.1 dX3_cellsWithRace_19 rfl (lv_at hl 0 rfl) ?_
          refine lv_ishl X.1.1 X.1.2.1 dX3_cellsWithRace_20 ?_
          refine lv_ior X.1.1 X.1.2.1 dX3_cellsWithRace_21 ?_
          refine lv_istore_n (lv' := [(1, .int ((nI (0)) ||| ((nI (1)) <<< ((nI (3)) &&& 31)))), (2, .int (nI 3)), (0, rf G 19)]) X.1.1 X.1.2.1 dX3_cellsWithRace_22 rfl hl (by decide) rfl (fun ls hl => ?_)
          refine lv_iinc (v := (nI (4))) (lv' := [(2, .int (nI 4)), (1, .int ((nI (0)) ||| ((nI (1)) <<< ((nI (3)) &&& 31)))), (0, rf G 19)]) X.1.1 X.1.2.1 dX3_cellsWithRace_23 hl (k := 1) rfl (by decide) (by decide) rfl (fun ls hl => ?_)
          refine lv_goto (tgt := 4) X.1.1 X.1.2.1 dX3_cellsWithRace_26 (by decide) ?_
          refine lv_iload_n X.1.1 X.1.2.1 dX3_cellsWithRace_4 rfl (lv_at hl 0 rfl) ?_
          refine lv_iconst (v := nI 4) X.1.1 X.1.2.1 dX3_cellsWithRace_5 (by decide) ?_
          refine sx_icmp_ge X (by decide) (by decide) (tgt := 29) dX3_cellsWithRace_6 (by decide) (fun _ => ?_) (fun h => absurd h (by decide))
          refine lv_iload_n X.1.1 X.1.2.1 dX3_cellsWithRace_29 rfl (lv_at hl 1 rfl) ?_
          rw [hQ]
          exact sx_iret X rfl hs rfl hP dX3_cellsWithRace_30 (⟨rfl, by simp only [rSetF]; (repeat' split) <;> first | rfl | (exfalso; omega) | (simp_all; done)⟩)
      · refine lv_iload_n X.1.1 X.1.2.1 dX3_cellsWithRace_17 rfl (lv_at hl 1 rfl) ?_
        refine lv_iconst (v := nI 1) X.1.1 X.1.2.1 dX3_cellsWithRace_18 (by decide) ?_
        refine lv_iload_n X.1.1 X.1.2.1 dX3_cellsWithRace_19 rfl (lv_at hl 0 rfl) ?_
        refine lv_ishl X.1.1 X.1.2.1 dX3_cellsWithRace_20 ?_
        refine lv_ior X.1.1 X.1.2.1 dX3_cellsWithRace_21 ?_
        refine lv_istore_n (lv' := [(1, .int ((nI (0)) ||| ((nI (1)) <<< ((nI (2)) &&& 31)))), (2, .int (nI 2)), (0, rf G 19)]) X.1.1 X.1.2.1 dX3_cellsWithRace_22 rfl hl (by decide) rfl (fun ls hl => ?_)
        refine lv_iinc (v := (nI (3))) (lv' := [(2, .int (nI 3)), (1, .int ((nI (0)) ||| ((nI (1)) <<< ((nI (2)) &&& 31)))), (0, rf G 19)]) X.1.1 X.1.2.1 dX3_cellsWithRace_23 hl (k := 1) rfl (by decide) (by decide) rfl (fun ls hl => ?_)
        refine lv_goto (tgt := 4) X.1.1 X.1.2.1 dX3_cellsWithRace_26 (by decide) ?_
        refine lv_iload_n X.1.1 X.1.2.1 dX3_cellsWithRace_4 rfl (lv_at hl 0 rfl) ?_
        refine lv_iconst (v := nI 4) X.1.1 X.1.2.1 dX3_cellsWithRace_5 (by decide) ?_
        refine sx_icmp_ge X (by decide) (by decide) (tgt := 29) dX3_cellsWithRace_6 (by decide) (fun h => absurd h (by decide)) (fun _ => ?_)
        refine lv_aload_n X.1.1 X.1.2.1 dX3_cellsWithRace_9 rfl (lv_at hl 2 rfl) ?_
        refine lv_iload_n X.1.1 X.1.2.1 dX3_cellsWithRace_10 rfl (lv_at hl 0 rfl) ?_
        refine sx_cvI (As := [.int (nI 3)]) (rest := []) X (mX3_racesOfCell l (v := v) (c := 3) (by omega) hM hrc h19 h27) gX3_cellsWithRace_X3_racesOfCell rfl yv_X3_racesOfCell ⟨Nat.le_of_ble_eq_true rfl, Nat.le_of_ble_eq_true rfl⟩ h19 (by decide) rfl rfl hl.1 rfl (Nat.le_of_ble_eq_true rfl) dX3_cellsWithRace_11 ⟨Nat.le_of_ble_eq_true rfl, Nat.le_of_ble_eq_true rfl⟩ hs rfl hP (fun r8 F8 H8 l8 hp hP => ?_)
        obtain ⟨rfl, rfl⟩ := hp
        refine sx_if_le X (Nat.lt_of_lt_of_le (rcN_lt hM) (by decide)) (tgt := 23) dX3_cellsWithRace_14 (by decide) (fun c14_9 => ?_) (fun c14_9 => ?_)
        · refine lv_iinc (v := (nI (4))) (lv' := [(2, .int (nI 4)), (1, .int ((nI (0)) ||| ((nI (1)) <<< ((nI (2)) &&& 31)))), (0, rf G 19)]) X.1.1 X.1.2.1 dX3_cellsWithRace_23 hl (k := 0) rfl (by decide) (by decide) rfl (fun ls hl => ?_)
          refine lv_goto (tgt := 4) X.1.1 X.1.2.1 dX3_cellsWithRace_26 (by decide) ?_
          refine lv_iload_n X.1.1 X.1.2.1 dX3_cellsWithRace_4 rfl (lv_at hl 0 rfl) ?_
          refine lv_iconst (v := nI 4) X.1.1 X.1.2.1 dX3_cellsWithRace_5 (by decide) ?_
          refine sx_icmp_ge X (by decide) (by decide) (tgt := 29) dX3_cellsWithRace_6 (by decide) (fun _ => ?_) (fun h => absurd h (by decide))
          refine lv_iload_n X.1.1 X.1.2.1 dX3_cellsWithRace_29 rfl (lv_at hl 1 rfl) ?_
          rw [hQ]
          exact sx_iret X rfl hs rfl hP dX3_cellsWithRace_30 (⟨rfl, by simp only [rSetF]; (repeat' split) <;> first | rfl | (exfalso; omega) | (simp_all; done)⟩)
        · refine lv_iload_n X.1.1 X.1.2.1 dX3_cellsWithRace_17 rfl (lv_at hl 1 rfl) ?_
          refine lv_iconst (v := nI 1) X.1.1 X.1.2.1 dX3_cellsWithRace_18 (by decide) ?_
          refine lv_iload_n X.1.1 X.1.2.1 dX3_cellsWithRace_19 rfl (lv_at hl 0 rfl) ?_
          refine lv_ishl X.1.1 X.1.2.1 dX3_cellsWithRace_20 ?_
          refine lv_ior X.1.1 X.1.2.1 dX3_cellsWithRace_21 ?_
          refine lv_istore_n (lv' := [(1, .int (((nI (0)) ||| ((nI (1)) <<< ((nI (2)) &&& 31))) ||| ((nI (1)) <<< ((nI (3)) &&& 31)))), (2, .int (nI 3)), (0, rf G 19)]) X.1.1 X.1.2.1 dX3_cellsWithRace_22 rfl hl (by decide) rfl (fun ls hl => ?_)
          refine lv_iinc (v := (nI (4))) (lv' := [(2, .int (nI 4)), (1, .int (((nI (0)) ||| ((nI (1)) <<< ((nI (2)) &&& 31))) ||| ((nI (1)) <<< ((nI (3)) &&& 31)))), (0, rf G 19)]) X.1.1 X.1.2.1 dX3_cellsWithRace_23 hl (k := 1) rfl (by decide) (by decide) rfl (fun ls hl => ?_)
          refine lv_goto (tgt := 4) X.1.1 X.1.2.1 dX3_cellsWithRace_26 (by decide) ?_
          refine lv_iload_n X.1.1 X.1.2.1 dX3_cellsWithRace_4 rfl (lv_at hl 0 rfl) ?_
          refine lv_iconst (v := nI 4) X.1.1 X.1.2.1 dX3_cellsWithRace_5 (by decide) ?_
          refine sx_icmp_ge X (by decide) (by decide) (tgt := 29) dX3_cellsWithRace_6 (by decide) (fun _ => ?_) (fun h => absurd h (by decide))
          refine lv_iload_n X.1.1 X.1.2.1 dX3_cellsWithRace_29 rfl (lv_at hl 1 rfl) ?_
          rw [hQ]
          exact sx_iret X rfl hs rfl hP dX3_cellsWithRace_30 (⟨rfl, by simp only [rSetF]; (repeat' split) <;> first | rfl | (exfalso; omega) | (simp_all; done)⟩)
    · refine lv_iload_n X.1.1 X.1.2.1 dX3_cellsWithRace_17 rfl (lv_at hl 1 rfl) ?_
      refine lv_iconst (v := nI 1) X.1.1 X.1.2.1 dX3_cellsWithRace_18 (by decide) ?_
      refine lv_iload_n X.1.1 X.1.2.1 dX3_cellsWithRace_19 rfl (lv_at hl 0 rfl) ?_
      refine lv_ishl X.1.1 X.1.2.1 dX3_cellsWithRace_20 ?_
      refine lv_ior X.1.1 X.1.2.1 dX3_cellsWithRace_21 ?_
      refine lv_istore_n (lv' := [(1, .int ((nI (0)) ||| ((nI (1)) <<< ((nI (1)) &&& 31)))), (2, .int (nI 1)), (0, rf G 19)]) X.1.1 X.1.2.1 dX3_cellsWithRace_22 rfl hl (by decide) rfl (fun ls hl => ?_)
      refine lv_iinc (v := (nI (2))) (lv' := [(2, .int (nI 2)), (1, .int ((nI (0)) ||| ((nI (1)) <<< ((nI (1)) &&& 31)))), (0, rf G 19)]) X.1.1 X.1.2.1 dX3_cellsWithRace_23 hl (k := 1) rfl (by decide) (by decide) rfl (fun ls hl => ?_)
      refine lv_goto (tgt := 4) X.1.1 X.1.2.1 dX3_cellsWithRace_26 (by decide) ?_
      refine lv_iload_n X.1.1 X.1.2.1 dX3_cellsWithRace_4 rfl (lv_at hl 0 rfl) ?_
      refine lv_iconst (v := nI 4) X.1.1 X.1.2.1 dX3_cellsWithRace_5 (by decide) ?_
      refine sx_icmp_ge X (by decide) (by decide) (tgt := 29) dX3_cellsWithRace_6 (by decide) (fun h => absurd h (by decide)) (fun _ => ?_)
      refine lv_aload_n X.1.1 X.1.2.1 dX3_cellsWithRace_9 rfl (lv_at hl 2 rfl) ?_
      refine lv_iload_n X.1.1 X.1.2.1 dX3_cellsWithRace_10 rfl (lv_at hl 0 rfl) ?_
      refine sx_cvI (As := [.int (nI 2)]) (rest := []) X (mX3_racesOfCell l (v := v) (c := 2) (by omega) hM hrc h19 h27) gX3_cellsWithRace_X3_racesOfCell rfl yv_X3_racesOfCell ⟨Nat.le_of_ble_eq_true rfl, Nat.le_of_ble_eq_true rfl⟩ h19 (by decide) rfl rfl hl.1 rfl (Nat.le_of_ble_eq_true rfl) dX3_cellsWithRace_11 ⟨Nat.le_of_ble_eq_true rfl, Nat.le_of_ble_eq_true rfl⟩ hs rfl hP (fun r10 F10 H10 l10 hp hP => ?_)
      obtain ⟨rfl, rfl⟩ := hp
      refine sx_if_le X (Nat.lt_of_lt_of_le (rcN_lt hM) (by decide)) (tgt := 23) dX3_cellsWithRace_14 (by decide) (fun c14_11 => ?_) (fun c14_11 => ?_)
      · refine lv_iinc (v := (nI (3))) (lv' := [(2, .int (nI 3)), (1, .int ((nI (0)) ||| ((nI (1)) <<< ((nI (1)) &&& 31)))), (0, rf G 19)]) X.1.1 X.1.2.1 dX3_cellsWithRace_23 hl (k := 0) rfl (by decide) (by decide) rfl (fun ls hl => ?_)
        refine lv_goto (tgt := 4) X.1.1 X.1.2.1 dX3_cellsWithRace_26 (by decide) ?_
        refine lv_iload_n X.1.1 X.1.2.1 dX3_cellsWithRace_4 rfl (lv_at hl 0 rfl) ?_
        refine lv_iconst (v := nI 4) X.1.1 X.1.2.1 dX3_cellsWithRace_5 (by decide) ?_
        refine sx_icmp_ge X (by decide) (by decide) (tgt := 29) dX3_cellsWithRace_6 (by decide) (fun h => absurd h (by decide)) (fun _ => ?_)
        refine lv_aload_n X.1.1 X.1.2.1 dX3_cellsWithRace_9 rfl (lv_at hl 2 rfl) ?_
        refine lv_iload_n X.1.1 X.1.2.1 dX3_cellsWithRace_10 rfl (lv_at hl 0 rfl) ?_
        refine sx_cvI (As := [.int (nI 3)]) (rest := []) X (mX3_racesOfCell l (v := v) (c := 3) (by omega) hM hrc h19 h27) gX3_cellsWithRace_X3_racesOfCell rfl yv_X3_racesOfCell ⟨Nat.le_of_ble_eq_true rfl, Nat.le_of_ble_eq_true rfl⟩ h19 (by decide) rfl rfl hl.1 rfl (Nat.le_of_ble_eq_true rfl) dX3_cellsWithRace_11 ⟨Nat.le_of_ble_eq_true rfl, Nat.le_of_ble_eq_true rfl⟩ hs rfl hP (fun r12 F12 H12 l12 hp hP => ?_)
        obtain ⟨rfl, rfl⟩ := hp
        refine sx_if_le X (Nat.lt_of_lt_of_le (rcN_lt hM) (by decide)) (tgt := 23) dX3_cellsWithRace_14 (by decide) (fun c14_13 => ?_) (fun c14_13 => ?_)
        · refine lv_iinc (v := (nI (4))) (lv' := [(2, .int (nI 4)), (1, .int ((nI (0)) ||| ((nI (1)) <<< ((nI (1)) &&& 31)))), (0, rf G 19)]) X.1.1 X.1.2.1 dX3_cellsWithRace_23 hl (k := 0) rfl (by decide) (by decide) rfl (fun ls hl => ?_)
          refine lv_goto (tgt := 4) X.1.1 X.1.2.1 dX3_cellsWithRace_26 (by decide) ?_
          refine lv_iload_n X.1.1 X.1.2.1 dX3_cellsWithRace_4 rfl (lv_at hl 0 rfl) ?_
          refine lv_iconst (v := nI 4) X.1.1 X.1.2.1 dX3_cellsWithRace_5 (by decide) ?_
          refine sx_icmp_ge X (by decide) (by decide) (tgt := 29) dX3_cellsWithRace_6 (by decide) (fun _ => ?_) (fun h => absurd h (by decide))
          refine lv_iload_n X.1.1 X.1.2.1 dX3_cellsWithRace_29 rfl (lv_at hl 1 rfl) ?_
          rw [hQ]
          exact sx_iret X rfl hs rfl hP dX3_cellsWithRace_30 (⟨rfl, by simp only [rSetF]; (repeat' split) <;> first | rfl | (exfalso; omega) | (simp_all; done)⟩)
        · refine lv_iload_n X.1.1 X.1.2.1 dX3_cellsWithRace_17 rfl (lv_at hl 1 rfl) ?_
          refine lv_iconst (v := nI 1) X.1.1 X.1.2.1 dX3_cellsWithRace_18 (by decide) ?_
          refine lv_iload_n X.1.1 X.1.2.1 dX3_cellsWithRace_19 rfl (lv_at hl 0 rfl) ?_
          refine lv_ishl X.1.1 X.1.2.1 dX3_cellsWithRace_20 ?_
          refine lv_ior X.1.1 X.1.2.1 dX3_cellsWithRace_21 ?_
          refine lv_istore_n (lv' := [(1, .int (((nI (0)) ||| ((nI (1)) <<< ((nI (1)) &&& 31))) ||| ((nI (1)) <<< ((nI (3)) &&& 31)))), (2, .int (nI 3)), (0, rf G 19)]) X.1.1 X.1.2.1 dX3_cellsWithRace_22 rfl hl (by decide) rfl (fun ls hl => ?_)
          refine lv_iinc (v := (nI (4))) (lv' := [(2, .int (nI 4)), (1, .int (((nI (0)) ||| ((nI (1)) <<< ((nI (1)) &&& 31))) ||| ((nI (1)) <<< ((nI (3)) &&& 31)))), (0, rf G 19)]) X.1.1 X.1.2.1 dX3_cellsWithRace_23 hl (k := 1) rfl (by decide) (by decide) rfl (fun ls hl => ?_)
          refine lv_goto (tgt := 4) X.1.1 X.1.2.1 dX3_cellsWithRace_26 (by decide) ?_
          refine lv_iload_n X.1.1 X.1.2.1 dX3_cellsWithRace_4 rfl (lv_at hl 0 rfl) ?_
          refine lv_iconst (v := nI 4) X.1.1 X.1.2.1 dX3_cellsWithRace_5 (by decide) ?_
          refine sx_icmp_ge X (by decide) (by decide) (tgt := 29) dX3_cellsWithRace_6 (by decide) (fun _ => ?_) (fun h => absurd h (by decide))
          refine lv_iload_n X.1.1 X.1.2.1 dX3_cellsWithRace_29 rfl (lv_at hl 1 rfl) ?_
          rw [hQ]
          exact sx_iret X rfl hs rfl hP dX3_cellsWithRace_30 (⟨rfl, by simp only [rSetF]; (repeat' split) <;> first | rfl | (exfalso; omega) | (simp_all; done)⟩)
      · refine lv_iload_n X.1.1 X.1.2.1 dX3_cellsWithRace_17 rfl (lv_at hl 1 rfl) ?_
        refine lv_iconst (v := nI 1) X.1.1 X.1.2.1 dX3_cellsWithRace_18 (by decide) ?_
        refine lv_iload_n X.1.1 X.1.2.1 dX3_cellsWithRace_19 rfl (lv_at hl 0 rfl) ?_
        refine lv_ishl X.1.1 X.1.2.1 dX3_cellsWithRace_20 ?_
        refine lv_ior X.1.1 X.1.2.1 dX3_cellsWithRace_21 ?_
        refine lv_istore_n (lv' := [(1, .int (((nI (0)) ||| ((nI (1)) <<< ((nI (1)) &&& 31))) ||| ((nI (1)) <<< ((nI (2)) &&& 31)))), (2, .int (nI 2)), (0, rf G 19)]) X.1.1 X.1.2.1 dX3_cellsWithRace_22 rfl hl (by decide) rfl (fun ls hl => ?_)
        refine lv_iinc (v := (nI (3))) (lv' := [(2, .int (nI 3)), (1, .int (((nI (0)) ||| ((nI (1)) <<< ((nI (1)) &&& 31))) ||| ((nI (1)) <<< ((nI (2)) &&& 31)))), (0, rf G 19)]) X.1.1 X.1.2.1 dX3_cellsWithRace_23 hl (k := 1) rfl (by decide) (by decide) rfl (fun ls hl => ?_)
        refine lv_goto (tgt := 4) X.1.1 X.1.2.1 dX3_cellsWithRace_26 (by decide) ?_
        refine lv_iload_n X.1.1 X.1.2.1 dX3_cellsWithRace_4 rfl (lv_at hl 0 rfl) ?_
        refine lv_iconst (v := nI 4) X.1.1 X.1.2.1 dX3_cellsWithRace_5 (by decide) ?_
        refine sx_icmp_ge X (by decide) (by decide) (tgt := 29) dX3_cellsWithRace_6 (by decide) (fun h => absurd h (by decide)) (fun _ => ?_)
        refine lv_aload_n X.1.1 X.1.2.1 dX3_cellsWithRace_9 rfl (lv_at hl 2 rfl) ?_
        refine lv_iload_n X.1.1 X.1.2.1 dX3_cellsWithRace_10 rfl (lv_at hl 0 rfl) ?_
        refine sx_cvI (As := [.int (nI 3)]) (rest := []) X (mX3_racesOfCell l (v := v) (c := 3) (by omega) hM hrc h19 h27) gX3_cellsWithRace_X3_racesOfCell rfl yv_X3_racesOfCell ⟨Nat.le_of_ble_eq_true rfl, Nat.le_of_ble_eq_true rfl⟩ h19 (by decide) rfl rfl hl.1 rfl (Nat.le_of_ble_eq_true rfl) dX3_cellsWithRace_11 ⟨Nat.le_of_ble_eq_true rfl, Nat.le_of_ble_eq_true rfl⟩ hs rfl hP (fun r14 F14 H14 l14 hp hP => ?_)
        obtain ⟨rfl, rfl⟩ := hp
        refine sx_if_le X (Nat.lt_of_lt_of_le (rcN_lt hM) (by decide)) (tgt := 23) dX3_cellsWithRace_14 (by decide) (fun c14_15 => ?_) (fun c14_15 => ?_)
        · refine lv_iinc (v := (nI (4))) (lv' := [(2, .int (nI 4)), (1, .int (((nI (0)) ||| ((nI (1)) <<< ((nI (1)) &&& 31))) ||| ((nI (1)) <<< ((nI (2)) &&& 31)))), (0, rf G 19)]) X.1.1 X.1.2.1 dX3_cellsWithRace_23 hl (k := 0) rfl (by decide) (by decide) rfl (fun ls hl => ?_)
          refine lv_goto (tgt := 4) X.1.1 X.1.2.1 dX3_cellsWithRace_26 (by decide) ?_
          refine lv_iload_n X.1.1 X.1.2.1 dX3_cellsWithRace_4 rfl (lv_at hl 0 rfl) ?_
          refine lv_iconst (v := nI 4) X.1.1 X.1.2.1 dX3_cellsWithRace_5 (by decide) ?_
          refine sx_icmp_ge X (by decide) (by decide) (tgt := 29) dX3_cellsWithRace_6 (by decide) (fun _ => ?_) (fun h => absurd h (by decide))
          refine lv_iload_n X.1.1 X.1.2.1 dX3_cellsWithRace_29 rfl (lv_at hl 1 rfl) ?_
          rw [hQ]
          exact sx_iret X rfl hs rfl hP dX3_cellsWithRace_30 (⟨rfl, by simp only [rSetF]; (repeat' split) <;> first | rfl | (exfalso; omega) | (simp_all; done)⟩)
        · refine lv_iload_n X.1.1 X.1.2.1 dX3_cellsWithRace_17 rfl (lv_at hl 1 rfl) ?_
          refine lv_iconst (v := nI 1) X.1.1 X.1.2.1 dX3_cellsWithRace_18 (by decide) ?_
          refine lv_iload_n X.1.1 X.1.2.1 dX3_cellsWithRace_19 rfl (lv_at hl 0 rfl) ?_
          refine lv_ishl X.1.1 X.1.2.1 dX3_cellsWithRace_20 ?_
          refine lv_ior X.1.1 X.1.2.1 dX3_cellsWithRace_21 ?_
          refine lv_istore_n (lv' := [(1, .int ((((nI (0)) ||| ((nI (1)) <<< ((nI (1)) &&& 31))) ||| ((nI (1)) <<< ((nI (2)) &&& 31))) ||| ((nI (1)) <<< ((nI (3)) &&& 31)))), (2, .int (nI 3)), (0, rf G 19)]) X.1.1 X.1.2.1 dX3_cellsWithRace_22 rfl hl (by decide) rfl (fun ls hl => ?_)
          refine lv_iinc (v := (nI (4))) (lv' := [(2, .int (nI 4)), (1, .int ((((nI (0)) ||| ((nI (1)) <<< ((nI (1)) &&& 31))) ||| ((nI (1)) <<< ((nI (2)) &&& 31))) ||| ((nI (1)) <<< ((nI (3)) &&& 31)))), (0, rf G 19)]) X.1.1 X.1.2.1 dX3_cellsWithRace_23 hl (k := 1) rfl (by decide) (by decide) rfl (fun ls hl => ?_)
          refine lv_goto (tgt := 4) X.1.1 X.1.2.1 dX3_cellsWithRace_26 (by decide) ?_
          refine lv_iload_n X.1.1 X.1.2.1 dX3_cellsWithRace_4 rfl (lv_at hl 0 rfl) ?_
          refine lv_iconst (v := nI 4) X.1.1 X.1.2.1 dX3_cellsWithRace_5 (by decide) ?_
          refine sx_icmp_ge X (by decide) (by decide) (tgt := 29) dX3_cellsWithRace_6 (by decide) (fun _ => ?_) (fun h => absurd h (by decide))
          refine lv_iload_n X.1.1 X.1.2.1 dX3_cellsWithRace_29 rfl (lv_at hl 1 rfl) ?_
          rw [hQ]
          exact sx_iret X rfl hs rfl hP dX3_cellsWithRace_30 (⟨rfl, by simp only [rSetF]; (repeat' split) <;> first | rfl | (exfalso; omega) | (simp_all; done)⟩)
  · refine lv_iload_n X.1.1 X.1.2.1 dX3_cellsWithRace_17 rfl (lv_at hl 1 rfl) ?_
    refine lv_iconst (v := nI 1) X.1.1 X.1.2.1 dX3_cellsWithRace_18 (by decide) ?_
    refine lv_iload_n X.1.1 X.1.2.1 dX3_cellsWithRace_19 rfl (lv_at hl 0 rfl) ?_
    refine lv_ishl X.1.1 X.1.2.1 dX3_cellsWithRace_20 ?_
    refine lv_ior X.1.1 X.1.2.1 dX3_cellsWithRace_21 ?_
    refine lv_istore_n (lv' := [(1, .int ((nI (0)) ||| ((nI (1)) <<< ((nI (0)) &&& 31)))), (2, .int (nI 0)), (0, rf G 19)]) X.1.1 X.1.2.1 dX3_cellsWithRace_22 rfl hl (by decide) rfl (fun ls hl => ?_)
    refine lv_iinc (v := (nI (1))) (lv' := [(2, .int (nI 1)), (1, .int ((nI (0)) ||| ((nI (1)) <<< ((nI (0)) &&& 31)))), (0, rf G 19)]) X.1.1 X.1.2.1 dX3_cellsWithRace_23 hl (k := 1) rfl (by decide) (by decide) rfl (fun ls hl => ?_)
    refine lv_goto (tgt := 4) X.1.1 X.1.2.1 dX3_cellsWithRace_26 (by decide) ?_
    refine lv_iload_n X.1.1 X.1.2.1 dX3_cellsWithRace_4 rfl (lv_at hl 0 rfl) ?_
    refine lv_iconst (v := nI 4) X.1.1 X.1.2.1 dX3_cellsWithRace_5 (by decide) ?_
    refine sx_icmp_ge X (by decide) (by decide) (tgt := 29) dX3_cellsWithRace_6 (by decide) (fun h => absurd h (by decide)) (fun _ => ?_)
    refine lv_aload_n X.1.1 X.1.2.1 dX3_cellsWithRace_9 rfl (lv_at hl 2 rfl) ?_
    refine lv_iload_n X.1.1 X.1.2.1 dX3_cellsWithRace_10 rfl (lv_at hl 0 rfl) ?_
    refine sx_cvI (As := [.int (nI 1)]) (rest := []) X (mX3_racesOfCell l (v := v) (c := 1) (by omega) hM hrc h19 h27) gX3_cellsWithRace_X3_racesOfCell rfl yv_X3_racesOfCell ⟨Nat.le_of_ble_eq_true rfl, Nat.le_of_ble_eq_true rfl⟩ h19 (by decide) rfl rfl hl.1 rfl (Nat.le_of_ble_eq_true rfl) dX3_cellsWithRace_11 ⟨Nat.le_of_ble_eq_true rfl, Nat.le_of_ble_eq_true rfl⟩ hs rfl hP (fun r16 F16 H16 l16 hp hP => ?_)
    obtain ⟨rfl, rfl⟩ := hp
    refine sx_if_le X (Nat.lt_of_lt_of_le (rcN_lt hM) (by decide)) (tgt := 23) dX3_cellsWithRace_14 (by decide) (fun c14_17 => ?_) (fun c14_17 => ?_)
    · refine lv_iinc (v := (nI (2))) (lv' := [(2, .int (nI 2)), (1, .int ((nI (0)) ||| ((nI (1)) <<< ((nI (0)) &&& 31)))), (0, rf G 19)]) X.1.1 X.1.2.1 dX3_cellsWithRace_23 hl (k := 0) rfl (by decide) (by decide) rfl (fun ls hl => ?_)
      refine lv_goto (tgt := 4) X.1.1 X.1.2.1 dX3_cellsWithRace_26 (by decide) ?_
      refine lv_iload_n X.1.1 X.1.2.1 dX3_cellsWithRace_4 rfl (lv_at hl 0 rfl) ?_
      refine lv_iconst (v := nI 4) X.1.1 X.1.2.1 dX3_cellsWithRace_5 (by decide) ?_
      refine sx_icmp_ge X (by decide) (by decide) (tgt := 29) dX3_cellsWithRace_6 (by decide) (fun h => absurd h (by decide)) (fun _ => ?_)
      refine lv_aload_n X.1.1 X.1.2.1 dX3_cellsWithRace_9 rfl (lv_at hl 2 rfl) ?_
      refine lv_iload_n X.1.1 X.1.2.1 dX3_cellsWithRace_10 rfl (lv_at hl 0 rfl) ?_
      refine sx_cvI (As := [.int (nI 2)]) (rest := []) X (mX3_racesOfCell l (v := v) (c := 2) (by omega) hM hrc h19 h27) gX3_cellsWithRace_X3_racesOfCell rfl yv_X3_racesOfCell ⟨Nat.le_of_ble_eq_true rfl, Nat.le_of_ble_eq_true rfl⟩ h19 (by decide) rfl rfl hl.1 rfl (Nat.le_of_ble_eq_true rfl) dX3_cellsWithRace_11 ⟨Nat.le_of_ble_eq_true rfl, Nat.le_of_ble_eq_true rfl⟩ hs rfl hP (fun r18 F18 H18 l18 hp hP => ?_)
      obtain ⟨rfl, rfl⟩ := hp
      refine sx_if_le X (Nat.lt_of_lt_of_le (rcN_lt hM) (by decide)) (tgt := 23) dX3_cellsWithRace_14 (by decide) (fun c14_19 => ?_) (fun c14_19 => ?_)
      · refine lv_iinc (v := (nI (3))) (lv' := [(2, .int (nI 3)), (1, .int ((nI (0)) ||| ((nI (1)) <<< ((nI (0)) &&& 31)))), (0, rf G 19)]) X.1.1 X.1.2.1 dX3_cellsWithRace_23 hl (k := 0) rfl (by decide) (by decide) rfl (fun ls hl => ?_)
        refine lv_goto (tgt := 4) X.1.1 X.1.2.1 dX3_cellsWithRace_26 (by decide) ?_
        refine lv_iload_n X.1.1 X.1.2.1 dX3_cellsWithRace_4 rfl (lv_at hl 0 rfl) ?_
        refine lv_iconst (v := nI 4) X.1.1 X.1.2.1 dX3_cellsWithRace_5 (by decide) ?_
        refine sx_icmp_ge X (by decide) (by decide) (tgt := 29) dX3_cellsWithRace_6 (by decide) (fun h => absurd h (by decide)) (fun _ => ?_)
        refine lv_aload_n X.1.1 X.1.2.1 dX3_cellsWithRace_9 rfl (lv_at hl 2 rfl) ?_
        refine lv_iload_n X.1.1 X.1.2.1 dX3_cellsWithRace_10 rfl (lv_at hl 0 rfl) ?_
        refine sx_cvI (As := [.int (nI 3)]) (rest := []) X (mX3_racesOfCell l (v := v) (c := 3) (by omega) hM hrc h19 h27) gX3_cellsWithRace_X3_racesOfCell rfl yv_X3_racesOfCell ⟨Nat.le_of_ble_eq_true rfl, Nat.le_of_ble_eq_true rfl⟩ h19 (by decide) rfl rfl hl.1 rfl (Nat.le_of_ble_eq_true rfl) dX3_cellsWithRace_11 ⟨Nat.le_of_ble_eq_true rfl, Nat.le_of_ble_eq_true rfl⟩ hs rfl hP (fun r20 F20 H20 l20 hp hP => ?_)
        obtain ⟨rfl, rfl⟩ := hp
        refine sx_if_le X (Nat.lt_of_lt_of_le (rcN_lt hM) (by decide)) (tgt := 23) dX3_cellsWithRace_14 (by decide) (fun c14_21 => ?_) (fun c14_21 => ?_)
        · refine lv_iinc (v := (nI (4))) (lv' := [(2, .int (nI 4)), (1, .int ((nI (0)) ||| ((nI (1)) <<< ((nI (0)) &&& 31)))), (0, rf G 19)]) X.1.1 X.1.2.1 dX3_cellsWithRace_23 hl (k := 0) rfl (by decide) (by decide) rfl (fun ls hl => ?_)
          refine lv_goto (tgt := 4) X.1.1 X.1.2.1 dX3_cellsWithRace_26 (by decide) ?_
          refine lv_iload_n X.1.1 X.1.2.1 dX3_cellsWithRace_4 rfl (lv_at hl 0 rfl) ?_
          refine lv_iconst (v := nI 4) X.1.1 X.1.2.1 dX3_cellsWithRace_5 (by decide) ?_
          refine sx_icmp_ge X (by decide) (by decide) (tgt := 29) dX3_cellsWithRace_6 (by decide) (fun _ => ?_) (fun h => absurd h (by decide))
          refine lv_iload_n X.1.1 X.1.2.1 dX3_cellsWithRace_29 rfl (lv_at hl 1 rfl) ?_
          rw [hQ]
          exact sx_iret X rfl hs rfl hP dX3_cellsWithRace_30 (⟨rfl, by simp only [rSetF]; (repeat' split) <;> first | rfl | (exfalso; omega) | (simp_all; done)⟩)
        · refine lv_iload_n X.1.1 X.1.2.1 dX3_cellsWithRace_17 rfl (lv_at hl 1 rfl) ?_
          refine lv_iconst (v := nI 1) X.1.1 X.1.2.1 dX3_cellsWithRace_18 (by decide) ?_
          refine lv_iload_n X.1.1 X.1.2.1 dX3_cellsWithRace_19 rfl (lv_at hl 0 rfl) ?_
          refine lv_ishl X.1.1 X.1.2.1 dX3_cellsWithRace_20 ?_
          refine lv_ior X.1.1 X.1.2.1 dX3_cellsWithRace_21 ?_
          refine lv_istore_n (lv' := [(1, .int (((nI (0)) ||| ((nI (1)) <<< ((nI (0)) &&& 31))) ||| ((nI (1)) <<< ((nI (3)) &&& 31)))), (2, .int (nI 3)), (0, rf G 19)]) X.1.1 X.1.2.1 dX3_cellsWithRace_22 rfl hl (by decide) rfl (fun ls hl => ?_)
          refine lv_iinc (v := (nI (4))) (lv' := [(2, .int (nI 4)), (1, .int (((nI (0)) ||| ((nI (1)) <<< ((nI (0)) &&& 31))) ||| ((nI (1)) <<< ((nI (3)) &&& 31)))), (0, rf G 19)]) X.1.1 X.1.2.1 dX3_cellsWithRace_23 hl (k := 1) rfl (by decide) (by decide) rfl (fun ls hl => ?_)
          refine lv_goto (tgt := 4) X.1.1 X.1.2.1 dX3_cellsWithRace_26 (by decide) ?_
          refine lv_iload_n X.1.1 X.1.2.1 dX3_cellsWithRace_4 rfl (lv_at hl 0 rfl) ?_
          refine lv_iconst (v := nI 4) X.1.1 X.1.2.1 dX3_cellsWithRace_5 (by decide) ?_
          refine sx_icmp_ge X (by decide) (by decide) (tgt := 29) dX3_cellsWithRace_6 (by decide) (fun _ => ?_) (fun h => absurd h (by decide))
          refine lv_iload_n X.1.1 X.1.2.1 dX3_cellsWithRace_29 rfl (lv_at hl 1 rfl) ?_
          rw [hQ]
          exact sx_iret X rfl hs rfl hP dX3_cellsWithRace_30 (⟨rfl, by simp only [rSetF]; (repeat' split) <;> first | rfl | (exfalso; omega) | (simp_all; done)⟩)
      · refine lv_iload_n X.1.1 X.1.2.1 dX3_cellsWithRace_17 rfl (lv_at hl 1 rfl) ?_
        refine lv_iconst (v := nI 1) X.1.1 X.1.2.1 dX3_cellsWithRace_18 (by decide) ?_
        refine lv_iload_n X.1.1 X.1.2.1 dX3_cellsWithRace_19 rfl (lv_at hl 0 rfl) ?_
        refine lv_ishl X.1.1 X.1.2.1 dX3_cellsWithRace_20 ?_
        refine lv_ior X.1.1 X.1.2.1 dX3_cellsWithRace_21 ?_
        refine lv_istore_n (lv' := [(1, .int (((nI (0)) ||| ((nI (1)) <<< ((nI (0)) &&& 31))) ||| ((nI (1)) <<< ((nI (2)) &&& 31)))), (2, .int (nI 2)), (0, rf G 19)]) X.1.1 X.1.2.1 dX3_cellsWithRace_22 rfl hl (by decide) rfl (fun ls hl => ?_)
        refine lv_iinc (v := (nI (3))) (lv' := [(2, .int (nI 3)), (1, .int (((nI (0)) ||| ((nI (1)) <<< ((nI (0)) &&& 31))) ||| ((nI (1)) <<< ((nI (2)) &&& 31)))), (0, rf G 19)]) X.1.1 X.1.2.1 dX3_cellsWithRace_23 hl (k := 1) rfl (by decide) (by decide) rfl (fun ls hl => ?_)
        refine lv_goto (tgt := 4) X.1.1 X.1.2.1 dX3_cellsWithRace_26 (by decide) ?_
        refine lv_iload_n X.1.1 X.1.2.1 dX3_cellsWithRace_4 rfl (lv_at hl 0 rfl) ?_
        refine lv_iconst (v := nI 4) X.1.1 X.1.2.1 dX3_cellsWithRace_5 (by decide) ?_
        refine sx_icmp_ge X (by decide) (by decide) (tgt := 29) dX3_cellsWithRace_6 (by decide) (fun h => absurd h (by decide)) (fun _ => ?_)
        refine lv_aload_n X.1.1 X.1.2.1 dX3_cellsWithRace_9 rfl (lv_at hl 2 rfl) ?_
        refine lv_iload_n X.1.1 X.1.2.1 dX3_cellsWithRace_10 rfl (lv_at hl 0 rfl) ?_
        refine sx_cvI (As := [.int (nI 3)]) (rest := []) X (mX3_racesOfCell l (v := v) (c := 3) (by omega) hM hrc h19 h27) gX3_cellsWithRace_X3_racesOfCell rfl yv_X3_racesOfCell ⟨Nat.le_of_ble_eq_true rfl, Nat.le_of_ble_eq_true rfl⟩ h19 (by decide) rfl rfl hl.1 rfl (Nat.le_of_ble_eq_true rfl) dX3_cellsWithRace_11 ⟨Nat.le_of_ble_eq_true rfl, Nat.le_of_ble_eq_true rfl⟩ hs rfl hP (fun r22 F22 H22 l22 hp hP => ?_)
        obtain ⟨rfl, rfl⟩ := hp
        refine sx_if_le X (Nat.lt_of_lt_of_le (rcN_lt hM) (by decide)) (tgt := 23) dX3_cellsWithRace_14 (by decide) (fun c14_23 => ?_) (fun c14_23 => ?_)
        · refine lv_iinc (v := (nI (4))) (lv' := [(2, .int (nI 4)), (1, .int (((nI (0)) ||| ((nI (1)) <<< ((nI (0)) &&& 31))) ||| ((nI (1)) <<< ((nI (2)) &&& 31)))), (0, rf G 19)]) X.1.1 X.1.2.1 dX3_cellsWithRace_23 hl (k := 0) rfl (by decide) (by decide) rfl (fun ls hl => ?_)
          refine lv_goto (tgt := 4) X.1.1 X.1.2.1 dX3_cellsWithRace_26 (by decide) ?_
          refine lv_iload_n X.1.1 X.1.2.1 dX3_cellsWithRace_4 rfl (lv_at hl 0 rfl) ?_
          refine lv_iconst (v := nI 4) X.1.1 X.1.2.1 dX3_cellsWithRace_5 (by decide) ?_
          refine sx_icmp_ge X (by decide) (by decide) (tgt := 29) dX3_cellsWithRace_6 (by decide) (fun _ => ?_) (fun h => absurd h (by decide))
          refine lv_iload_n X.1.1 X.1.2.1 dX3_cellsWithRace_29 rfl (lv_at hl 1 rfl) ?_
          rw [hQ]
          exact sx_iret X rfl hs rfl hP dX3_cellsWithRace_30 (⟨rfl, by simp only [rSetF]; (repeat' split) <;> first | rfl | (exfalso; omega) | (simp_all; done)⟩)
        · refine lv_iload_n X.1.1 X.1.2.1 dX3_cellsWithRace_17 rfl (lv_at hl 1 rfl) ?_
          refine lv_iconst (v := nI 1) X.1.1 X.1.2.1 dX3_cellsWithRace_18 (by decide) ?_
          refine lv_iload_n X.1.1 X.1.2.1 dX3_cellsWithRace_19 rfl (lv_at hl 0 rfl) ?_
          refine lv_ishl X.1.1 X.1.2.1 dX3_cellsWithRace_20 ?_
          refine lv_ior X.1.1 X.1.2.1 dX3_cellsWithRace_21 ?_
          refine lv_istore_n (lv' := [(1, .int ((((nI (0)) ||| ((nI (1)) <<< ((nI (0)) &&& 31))) ||| ((nI (1)) <<< ((nI (2)) &&& 31))) ||| ((nI (1)) <<< ((nI (3)) &&& 31)))), (2, .int (nI 3)), (0, rf G 19)]) X.1.1 X.1.2.1 dX3_cellsWithRace_22 rfl hl (by decide) rfl (fun ls hl => ?_)
          refine lv_iinc (v := (nI (4))) (lv' := [(2, .int (nI 4)), (1, .int ((((nI (0)) ||| ((nI (1)) <<< ((nI (0)) &&& 31))) ||| ((nI (1)) <<< ((nI (2)) &&& 31))) ||| ((nI (1)) <<< ((nI (3)) &&& 31)))), (0, rf G 19)]) X.1.1 X.1.2.1 dX3_cellsWithRace_23 hl (k := 1) rfl (by decide) (by decide) rfl (fun ls hl => ?_)
          refine lv_goto (tgt := 4) X.1.1 X.1.2.1 dX3_cellsWithRace_26 (by decide) ?_
          refine lv_iload_n X.1.1 X.1.2.1 dX3_cellsWithRace_4 rfl (lv_at hl 0 rfl) ?_
          refine lv_iconst (v := nI 4) X.1.1 X.1.2.1 dX3_cellsWithRace_5 (by decide) ?_
          refine sx_icmp_ge X (by decide) (by decide) (tgt := 29) dX3_cellsWithRace_6 (by decide) (fun _ => ?_) (fun h => absurd h (by decide))
          refine lv_iload_n X.1.1 X.1.2.1 dX3_cellsWithRace_29 rfl (lv_at hl 1 rfl) ?_
          rw [hQ]
          exact sx_iret X rfl hs rfl hP dX3_cellsWithRace_30 (⟨rfl, by simp only [rSetF]; (repeat' split) <;> first | rfl | (exfalso; omega) | (simp_all; done)⟩)
    · refine lv_iload_n X.1.1 X.1.2.1 dX3_cellsWithRace_17 rfl (lv_at hl 1 rfl) ?_
      refine lv_iconst (v := nI 1) X.1.1 X.1.2.1 dX3_cellsWithRace_18 (by decide) ?_
      refine lv_iload_n X.1.1 X.1.2.1 dX3_cellsWithRace_19 rfl (lv_at hl 0 rfl) ?_
      refine lv_ishl X.1.1 X.1.2.1 dX3_cellsWithRace_20 ?_
      refine lv_ior X.1.1 X.1.2.1 dX3_cellsWithRace_21 ?_
      refine lv_istore_n (lv' := [(1, .int (((nI (0)) ||| ((nI (1)) <<< ((nI (0)) &&& 31))) ||| ((nI (1)) <<< ((nI (1)) &&& 31)))), (2, .int (nI 1)), (0, rf G 19)]) X.1.1 X.1.2.1 dX3_cellsWithRace_22 rfl hl (by decide) rfl (fun ls hl => ?_)
      refine lv_iinc (v := (nI (2))) (lv' := [(2, .int (nI 2)), (1, .int (((nI (0)) ||| ((nI (1)) <<< ((nI (0)) &&& 31))) ||| ((nI (1)) <<< ((nI (1)) &&& 31)))), (0, rf G 19)]) X.1.1 X.1.2.1 dX3_cellsWithRace_23 hl (k := 1) rfl (by decide) (by decide) rfl (fun ls hl => ?_)
      refine lv_goto (tgt := 4) X.1.1 X.1.2.1 dX3_cellsWithRace_26 (by decide) ?_
      refine lv_iload_n X.1.1 X.1.2.1 dX3_cellsWithRace_4 rfl (lv_at hl 0 rfl) ?_
      refine lv_iconst (v := nI 4) X.1.1 X.1.2.1 dX3_cellsWithRace_5 (by decide) ?_
      refine sx_icmp_ge X (by decide) (by decide) (tgt := 29) dX3_cellsWithRace_6 (by decide) (fun h => absurd h (by decide)) (fun _ => ?_)
      refine lv_aload_n X.1.1 X.1.2.1 dX3_cellsWithRace_9 rfl (lv_at hl 2 rfl) ?_
      refine lv_iload_n X.1.1 X.1.2.1 dX3_cellsWithRace_10 rfl (lv_at hl 0 rfl) ?_
      refine sx_cvI (As := [.int (nI 2)]) (rest := []) X (mX3_racesOfCell l (v := v) (c := 2) (by omega) hM hrc h19 h27) gX3_cellsWithRace_X3_racesOfCell rfl yv_X3_racesOfCell ⟨Nat.le_of_ble_eq_true rfl, Nat.le_of_ble_eq_true rfl⟩ h19 (by decide) rfl rfl hl.1 rfl (Nat.le_of_ble_eq_true rfl) dX3_cellsWithRace_11 ⟨Nat.le_of_ble_eq_true rfl, Nat.le_of_ble_eq_true rfl⟩ hs rfl hP (fun r24 F24 H24 l24 hp hP => ?_)
      obtain ⟨rfl, rfl⟩ := hp
      refine sx_if_le X (Nat.lt_of_lt_of_le (rcN_lt hM) (by decide)) (tgt := 23) dX3_cellsWithRace_14 (by decide) (fun c14_25 => ?_) (fun c14_25 => ?_)
      · refine lv_iinc (v := (nI (3))) (lv' := [(2, .int (nI 3)), (1, .int (((nI (0)) ||| ((nI (1)) <<< ((nI (0)) &&& 31))) ||| ((nI (1)) <<< ((nI (1)) &&& 31)))), (0, rf G 19)]) X.1.1 X.1.2.1 dX3_cellsWithRace_23 hl (k := 0) rfl (by decide) (by decide) rfl (fun ls hl => ?_)
        refine lv_goto (tgt := 4) X.1.1 X.1.2.1 dX3_cellsWithRace_26 (by decide) ?_
        refine lv_iload_n X.1.1 X.1.2.1 dX3_cellsWithRace_4 rfl (lv_at hl 0 rfl) ?_
        refine lv_iconst (v := nI 4) X.1.1 X.1.2.1 dX3_cellsWithRace_5 (by decide) ?_
        refine sx_icmp_ge X (by decide) (by decide) (tgt := 29) dX3_cellsWithRace_6 (by decide) (fun h => absurd h (by decide)) (fun _ => ?_)
        refine lv_aload_n X.1.1 X.1.2.1 dX3_cellsWithRace_9 rfl (lv_at hl 2 rfl) ?_
        refine lv_iload_n X.1.1 X.1.2.1 dX3_cellsWithRace_10 rfl (lv_at hl 0 rfl) ?_
        refine sx_cvI (As := [.int (nI 3)]) (rest := []) X (mX3_racesOfCell l (v := v) (c := 3) (by omega) hM hrc h19 h27) gX3_cellsWithRace_X3_racesOfCell rfl yv_X3_racesOfCell ⟨Nat.le_of_ble_eq_true rfl, Nat.le_of_ble_eq_true rfl⟩ h19 (by decide) rfl rfl hl.1 rfl (Nat.le_of_ble_eq_true rfl) dX3_cellsWithRace_11 ⟨Nat.le_of_ble_eq_true rfl, Nat.le_of_ble_eq_true rfl⟩ hs rfl hP (fun r26 F26 H26 l26 hp hP => ?_)
        obtain ⟨rfl, rfl⟩ := hp
        refine sx_if_le X (Nat.lt_of_lt_of_le (rcN_lt hM) (by decide)) (tgt := 23) dX3_cellsWithRace_14 (by decide) (fun c14_27 => ?_) (fun c14_27 => ?_)
        · refine lv_iinc (v := (nI (4))) (lv' := [(2, .int (nI 4)), (1, .int (((nI (0)) ||| ((nI (1)) <<< ((nI (0)) &&& 31))) ||| ((nI (1)) <<< ((nI (1)) &&& 31)))), (0, rf G 19)]) X.1.1 X.1.2.1 dX3_cellsWithRace_23 hl (k := 0) rfl (by decide) (by decide) rfl (fun ls hl => ?_)
          refine lv_goto (tgt := 4) X.1.1 X.1.2.1 dX3_cellsWithRace_26 (by decide) ?_
          refine lv_iload_n X.1.1 X.1.2.1 dX3_cellsWithRace_4 rfl (lv_at hl 0 rfl) ?_
          refine lv_iconst (v := nI 4) X.1.1 X.1.2.1 dX3_cellsWithRace_5 (by decide) ?_
          refine sx_icmp_ge X (by decide) (by decide) (tgt := 29) dX3_cellsWithRace_6 (by decide) (fun _ => ?_) (fun h => absurd h (by decide))
          refine lv_iload_n X.1.1 X.1.2.1 dX3_cellsWithRace_29 rfl (lv_at hl 1 rfl) ?_
          rw [hQ]
          exact sx_iret X rfl hs rfl hP dX3_cellsWithRace_30 (⟨rfl, by simp only [rSetF]; (repeat' split) <;> first | rfl | (exfalso; omega) | (simp_all; done)⟩)
        · refine lv_iload_n X.1.1 X.1.2.1 dX3_cellsWithRace_17 rfl (lv_at hl 1 rfl) ?_
          refine lv_iconst (v := nI 1) X.1.1 X.1.2.1 dX3_cellsWithRace_18 (by decide) ?_
          refine lv_iload_n X.1.1 X.1.2.1 dX3_cellsWithRace_19 rfl (lv_at hl 0 rfl) ?_
          refine lv_ishl X.1.1 X.1.2.1 dX3_cellsWithRace_20 ?_
          refine lv_ior X.1.1 X.1.2.1 dX3_cellsWithRace_21 ?_
          refine lv_istore_n (lv' := [(1, .int ((((nI (0)) ||| ((nI (1)) <<< ((nI (0)) &&& 31))) ||| ((nI (1)) <<< ((nI (1)) &&& 31))) ||| ((nI (1)) <<< ((nI (3)) &&& 31)))), (2, .int (nI 3)), (0, rf G 19)]) X.1.1 X.1.2.1 dX3_cellsWithRace_22 rfl hl (by decide) rfl (fun ls hl => ?_)
          refine lv_iinc (v := (nI (4))) (lv' := [(2, .int (nI 4)), (1, .int ((((nI (0)) ||| ((nI (1)) <<< ((nI (0)) &&& 31))) ||| ((nI (1)) <<< ((nI (1)) &&& 31))) ||| ((nI (1)) <<< ((nI (3)) &&& 31)))), (0, rf G 19)]) X.1.1 X.1.2.1 dX3_cellsWithRace_23 hl (k := 1) rfl (by decide) (by decide) rfl (fun ls hl => ?_)
          refine lv_goto (tgt := 4) X.1.1 X.1.2.1 dX3_cellsWithRace_26 (by decide) ?_
          refine lv_iload_n X.1.1 X.1.2.1 dX3_cellsWithRace_4 rfl (lv_at hl 0 rfl) ?_
          refine lv_iconst (v := nI 4) X.1.1 X.1.2.1 dX3_cellsWithRace_5 (by decide) ?_
          refine sx_icmp_ge X (by decide) (by decide) (tgt := 29) dX3_cellsWithRace_6 (by decide) (fun _ => ?_) (fun h => absurd h (by decide))
          refine lv_iload_n X.1.1 X.1.2.1 dX3_cellsWithRace_29 rfl (lv_at hl 1 rfl) ?_
          rw [hQ]
          exact sx_iret X rfl hs rfl hP dX3_cellsWithRace_30 (⟨rfl, by simp only [rSetF]; (repeat' split) <;> first | rfl | (exfalso; omega) | (simp_all; done)⟩)
      · refine lv_iload_n X.1.1 X.1.2.1 dX3_cellsWithRace_17 rfl (lv_at hl 1 rfl) ?_
        refine lv_iconst (v := nI 1) X.1.1 X.1.2.1 dX3_cellsWithRace_18 (by decide) ?_
        refine lv_iload_n X.1.1 X.1.2.1 dX3_cellsWithRace_19 rfl (lv_at hl 0 rfl) ?_
        refine lv_ishl X.1.1 X.1.2.1 dX3_cellsWithRace_20 ?_
        refine lv_ior X.1.1 X.1.2.1 dX3_cellsWithRace_21 ?_
        refine lv_istore_n (lv' := [(1, .int ((((nI (0)) ||| ((nI (1)) <<< ((nI (0)) &&& 31))) ||| ((nI (1)) <<< ((nI (1)) &&& 31))) ||| ((nI (1)) <<< ((nI (2)) &&& 31)))), (2, .int (nI 2)), (0, rf G 19)]) X.1.1 X.1.2.1 dX3_cellsWithRace_22 rfl hl (by decide) rfl (fun ls hl => ?_)
        refine lv_iinc (v := (nI (3))) (lv' := [(2, .int (nI 3)), (1, .int ((((nI (0)) ||| ((nI (1)) <<< ((nI (0)) &&& 31))) ||| ((nI (1)) <<< ((nI (1)) &&& 31))) ||| ((nI (1)) <<< ((nI (2)) &&& 31)))), (0, rf G 19)]) X.1.1 X.1.2.1 dX3_cellsWithRace_23 hl (k := 1) rfl (by decide) (by decide) rfl (fun ls hl => ?_)
        refine lv_goto (tgt := 4) X.1.1 X.1.2.1 dX3_cellsWithRace_26 (by decide) ?_
        refine lv_iload_n X.1.1 X.1.2.1 dX3_cellsWithRace_4 rfl (lv_at hl 0 rfl) ?_
        refine lv_iconst (v := nI 4) X.1.1 X.1.2.1 dX3_cellsWithRace_5 (by decide) ?_
        refine sx_icmp_ge X (by decide) (by decide) (tgt := 29) dX3_cellsWithRace_6 (by decide) (fun h => absurd h (by decide)) (fun _ => ?_)
        refine lv_aload_n X.1.1 X.1.2.1 dX3_cellsWithRace_9 rfl (lv_at hl 2 rfl) ?_
        refine lv_iload_n X.1.1 X.1.2.1 dX3_cellsWithRace_10 rfl (lv_at hl 0 rfl) ?_
        refine sx_cvI (As := [.int (nI 3)]) (rest := []) X (mX3_racesOfCell l (v := v) (c := 3) (by omega) hM hrc h19 h27) gX3_cellsWithRace_X3_racesOfCell rfl yv_X3_racesOfCell ⟨Nat.le_of_ble_eq_true rfl, Nat.le_of_ble_eq_true rfl⟩ h19 (by decide) rfl rfl hl.1 rfl (Nat.le_of_ble_eq_true rfl) dX3_cellsWithRace_11 ⟨Nat.le_of_ble_eq_true rfl, Nat.le_of_ble_eq_true rfl⟩ hs rfl hP (fun r28 F28 H28 l28 hp hP => ?_)
        obtain ⟨rfl, rfl⟩ := hp
        refine sx_if_le X (Nat.lt_of_lt_of_le (rcN_lt hM) (by decide)) (tgt := 23) dX3_cellsWithRace_14 (by decide) (fun c14_29 => ?_) (fun c14_29 => ?_)
        · refine lv_iinc (v := (nI (4))) (lv' := [(2, .int (nI 4)), (1, .int ((((nI (0)) ||| ((nI (1)) <<< ((nI (0)) &&& 31))) ||| ((nI (1)) <<< ((nI (1)) &&& 31))) ||| ((nI (1)) <<< ((nI (2)) &&& 31)))), (0, rf G 19)]) X.1.1 X.1.2.1 dX3_cellsWithRace_23 hl (k := 0) rfl (by decide) (by decide) rfl (fun ls hl => ?_)
          refine lv_goto (tgt := 4) X.1.1 X.1.2.1 dX3_cellsWithRace_26 (by decide) ?_
          refine lv_iload_n X.1.1 X.1.2.1 dX3_cellsWithRace_4 rfl (lv_at hl 0 rfl) ?_
          refine lv_iconst (v := nI 4) X.1.1 X.1.2.1 dX3_cellsWithRace_5 (by decide) ?_
          refine sx_icmp_ge X (by decide) (by decide) (tgt := 29) dX3_cellsWithRace_6 (by decide) (fun _ => ?_) (fun h => absurd h (by decide))
          refine lv_iload_n X.1.1 X.1.2.1 dX3_cellsWithRace_29 rfl (lv_at hl 1 rfl) ?_
          rw [hQ]
          exact sx_iret X rfl hs rfl hP dX3_cellsWithRace_30 (⟨rfl, by simp only [rSetF]; (repeat' split) <;> first | rfl | (exfalso; omega) | (simp_all; done)⟩)
        · refine lv_iload_n X.1.1 X.1.2.1 dX3_cellsWithRace_17 rfl (lv_at hl 1 rfl) ?_
          refine lv_iconst (v := nI 1) X.1.1 X.1.2.1 dX3_cellsWithRace_18 (by decide) ?_
          refine lv_iload_n X.1.1 X.1.2.1 dX3_cellsWithRace_19 rfl (lv_at hl 0 rfl) ?_
          refine lv_ishl X.1.1 X.1.2.1 dX3_cellsWithRace_20 ?_
          refine lv_ior X.1.1 X.1.2.1 dX3_cellsWithRace_21 ?_
          refine lv_istore_n (lv' := [(1, .int (((((nI (0)) ||| ((nI (1)) <<< ((nI (0)) &&& 31))) ||| ((nI (1)) <<< ((nI (1)) &&& 31))) ||| ((nI (1)) <<< ((nI (2)) &&& 31))) ||| ((nI (1)) <<< ((nI (3)) &&& 31)))), (2, .int (nI 3)), (0, rf G 19)]) X.1.1 X.1.2.1 dX3_cellsWithRace_22 rfl hl (by decide) rfl (fun ls hl => ?_)
          refine lv_iinc (v := (nI (4))) (lv' := [(2, .int (nI 4)), (1, .int (((((nI (0)) ||| ((nI (1)) <<< ((nI (0)) &&& 31))) ||| ((nI (1)) <<< ((nI (1)) &&& 31))) ||| ((nI (1)) <<< ((nI (2)) &&& 31))) ||| ((nI (1)) <<< ((nI (3)) &&& 31)))), (0, rf G 19)]) X.1.1 X.1.2.1 dX3_cellsWithRace_23 hl (k := 1) rfl (by decide) (by decide) rfl (fun ls hl => ?_)
          refine lv_goto (tgt := 4) X.1.1 X.1.2.1 dX3_cellsWithRace_26 (by decide) ?_
          refine lv_iload_n X.1.1 X.1.2.1 dX3_cellsWithRace_4 rfl (lv_at hl 0 rfl) ?_
          refine lv_iconst (v := nI 4) X.1.1 X.1.2.1 dX3_cellsWithRace_5 (by decide) ?_
          refine sx_icmp_ge X (by decide) (by decide) (tgt := 29) dX3_cellsWithRace_6 (by decide) (fun _ => ?_) (fun h => absurd h (by decide))
          refine lv_iload_n X.1.1 X.1.2.1 dX3_cellsWithRace_29 rfl (lv_at hl 1 rfl) ?_
          rw [hQ]
          exact sx_iret X rfl hs rfl hP dX3_cellsWithRace_30 (⟨rfl, by simp only [rSetF]; (repeat' split) <;> first | rfl | (exfalso; omega) | (simp_all; done)⟩)
