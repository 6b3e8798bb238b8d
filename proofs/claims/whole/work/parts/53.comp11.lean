theorem ys_X6_ahead : yX6_ahead.cls ≠ "java/lang/invoke/MethodHandle" ∧ yX6_ahead.cls ≠ "java/lang/invoke/VarHandle" ∧ (parseMethodDescriptor yX6_ahead.desc).map (fun d => d.parameters.length) = some 2 := by decide +kernel
theorem yv_X6_ahead : yX6_ahead.cls = RX6 ∧ yX6_ahead.cls ≠ "java/lang/invoke/MethodHandle" ∧ yX6_ahead.cls ≠ "java/lang/invoke/VarHandle" ∧ (parseMethodDescriptor yX6_ahead.desc).map (fun d => d.parameters.length) = some 2 := ⟨rfl, ys_X6_ahead⟩
theorem in_X6_ahead_X6 : ∀ w ∈ wsX60, w ∈ wsX6_ahead := fun _ h => List.mem_cons_of_mem _ (List.mem_append_left _ (List.mem_append_left _ (List.mem_append_left _ (List.mem_append_right _ (h)))))
theorem lk_X6_ahead_fieldLink_RX6_10_RaceWatch_world_LRaceWatch_World : (.fieldLink RX6 10 "RaceWatch" "world" "LRaceWatch$World;" : Cond) ∈ wsX6_ahead := List.mem_cons_of_mem _ (List.mem_append_left _ (List.mem_append_left _ (List.mem_append_left _ (List.mem_append_left _ (List.mem_of_getElem? (i := 0) rfl)))))
theorem in_X6_ahead_X5 : ∀ w ∈ wsX50, w ∈ wsX6_ahead := fun _ h => List.mem_cons_of_mem _ (List.mem_append_left _ (List.mem_append_left _ (List.mem_append_right _ (h))))
theorem lk_X6_ahead_fieldLink_RX6_31_RaceWatch_World_log_LRaceWatch_Log : (.fieldLink RX6 31 "RaceWatch$World" "log" "LRaceWatch$Log;" : Cond) ∈ wsX6_ahead := List.mem_cons_of_mem _ (List.mem_append_left _ (List.mem_append_left _ (List.mem_append_left _ (List.mem_append_left _ (List.mem_of_getElem? (i := 1) rfl)))))
theorem in_X6_ahead_X3 : ∀ w ∈ wsX30, w ∈ wsX6_ahead := fun _ h => List.mem_cons_of_mem _ (List.mem_append_left _ (List.mem_append_right _ (h)))
theorem lk_X6_ahead_fieldLink_RX6_35_RaceWatch_Log_count_I : (.fieldLink RX6 35 "RaceWatch$Log" "count" "I" : Cond) ∈ wsX6_ahead := List.mem_cons_of_mem _ (List.mem_append_left _ (List.mem_append_left _ (List.mem_append_left _ (List.mem_append_left _ (List.mem_of_getElem? (i := 2) rfl)))))
theorem lk_X6_ahead_constant_RX6_67_1000000001 : (.constant RX6 67 (-1000000001) : Cond) ∈ wsX6_ahead := List.mem_cons_of_mem _ (List.mem_append_left _ (List.mem_append_left _ (List.mem_append_left _ (List.mem_append_left _ (List.mem_of_getElem? (i := 3) rfl)))))
abbrev rmX6_ahead : Room := { frames := 2, cells := 0, slots := 0, locals := 45 }
set_option maxHeartbeats 800000 in
set_option maxRecDepth 100000 in
theorem mX6_ahead {G : sx_G} (l : Launch) {F : Nat → va_E} {w : Nat → Int32} {M : Nat} {x y : Int32}  (hW : WV G F w M 1) (hwf : WFw w M) (h0 : F (0) = ob 6 ([rf G 1, rf G 28, rf G 83, rf G 84])) : sx_I G l yX6_ahead wsX6_ahead rmX6_ahead [rf G 0, .int (x), .int (y)] (97) F (97) (fun r F1 => F = F1 ∧ aheadF w M x y = r) := by
  refine sx_enter (cc := cX6_ahead) (maxL := 4) (ret := some .int) (own := RX6) (nm := "ahead") (by decide) rfl rfl rfl (Nat.le_of_ble_eq_true rfl) ?_
  intro pp ee ss mm args below meth kc ls Q hQ X hs hP hl
  have hl : lv_has ls 4 [(0, rf G 0), (1, .int (x)), (2, .int (y))] := hl
  obtain ⟨st, ho, ct, cl, cs, kr, r4, r6, r8, h1, h2, h3, h4, h5, h6, h7, h8, h9, h10, hkr, hRV, hKV, hLg, hRw⟩ := hW
  obtain ⟨th, so, wi, lo, lc, rb, rc, rr, h19, h20, h21, h22, h23, h24, h25, h26, h27, hLV, hRB, hRC⟩ := hLg
  have h1 : F 1 = ob 5 ([rf G 2, rf G 3, rf G 4, rf G 6, rf G 8, rf G 10, rf G 19]) := h1
  have h2 : F 2 = rI G (4) (st) := h2
  have h3 : F 3 = rI G (3) (ho) := h3
  have h4 : F 4 = ob 1 ([r4, rf G 5]) := h4
  have h5 : F 5 = rI G (16) (ct) := h5
  have h6 : F 6 = ob 1 ([r6, rf G 7]) := h6
  have h7 : F 7 = rI G (12) (cl) := h7
  have h8 : F 8 = ob 1 ([r8, rf G 9]) := h8
  have h9 : F 9 = rI G (8) (cs) := h9
  have h10 : F 10 = rK G (4) (kr) := h10
  have h19 : F 19 = ob 3 ([.int (nI (M)), rf G 20, rf G 21, rf G 22, rf G 23, rf G 24, rf G 26, rf G 27]) := h19
  have h20 : F 20 = rI G (160) (th) := h20
  have h21 : F 21 = rI G (160) (so) := h21
  have h22 : F 22 = rI G (160) (wi) := h22
  have h23 : F 23 = rI G (160) (lo) := h23
  have h24 : F 24 = ob 1 ([rr, rf G 25]) := h24
  have h25 : F 25 = rI G (640) (lc) := h25
  have h26 : F 26 = rI G (160) (rb) := h26
  have h27 : F 27 = rI G (12) (rc) := h27
  have hkr : ∀ j, j < 4 → kr j = some (sx_b G + (11 + 2 * j)) := hkr
  have hM := hwf.2.1
  have hok := hwf.2.2.1
  refine lv_aload_n X.1.1 X.1.2.1 dX6_ahead_0 rfl (lv_at hl 0 rfl) ?_
  refine sx_get X hP in_X6_ahead_X6 h0 (by decide) rfl 0 (by decide) lk_X6_ahead_fieldLink_RX6_10_RaceWatch_world_LRaceWatch_World rfl dX6_ahead_1 ?_
  refine sx_get X hP in_X6_ahead_X5 h1 (by decide) rfl 6 (by decide) lk_X6_ahead_fieldLink_RX6_31_RaceWatch_World_log_LRaceWatch_Log rfl dX6_ahead_4 ?_
  refine lv_astore_n (lv' := [(3, rf G 19), (0, rf G 0), (1, .int (x)), (2, .int (y))]) X.1.1 X.1.2.1 dX6_ahead_7 rfl hl (by decide) rfl (fun ls hl => ?_)
  refine lv_iload_n X.1.1 X.1.2.1 dX6_ahead_8 rfl (lv_at hl 2 rfl) ?_
  refine lv_aload_n X.1.1 X.1.2.1 dX6_ahead_9 rfl (lv_at hl 0 rfl) ?_
  refine sx_get X hP in_X6_ahead_X3 h19 (by decide) rfl 0 (by decide) lk_X6_ahead_fieldLink_RX6_35_RaceWatch_Log_count_I rfl dX6_ahead_10 ?_
  refine sx_csI (As := [.int (x), .int (nI (M))]) (rest := []) X (mX6_isIn l (x := (x)) (k := M) (by omega)) gX6_ahead_X6_isIn rfl ys_X6_isIn ⟨Nat.le_of_ble_eq_true rfl, Nat.le_of_ble_eq_true rfl⟩ hl.1 rfl (Nat.le_of_ble_eq_true rfl) dX6_ahead_13 ⟨Nat.le_of_ble_eq_true rfl, Nat.le_of_ble_eq_true rfl⟩ hs rfl hP (fun r1 F1 H1 l1 hp hP => ?_)
  obtain ⟨rfl, ⟨b2, rfl⟩ | ⟨b2, rfl⟩⟩ := hp
  · obtain ⟨e, he, rfl⟩ := b2
    refine sx_if_eq X (by decide) (tgt := 35) dX6_ahead_16 (by decide) (fun h => absurd h (by decide)) (fun _ => ?_)
    refine lv_iload_n X.1.1 X.1.2.1 dX6_ahead_19 rfl (lv_at hl 3 rfl) ?_
    refine lv_aload_n X.1.1 X.1.2.1 dX6_ahead_20 rfl (lv_at hl 0 rfl) ?_
    refine sx_get X hP in_X6_ahead_X3 h19 (by decide) rfl 0 (by decide) lk_X6_ahead_fieldLink_RX6_35_RaceWatch_Log_count_I rfl dX6_ahead_21 ?_
    refine sx_csI (As := [.int (y), .int (nI (M))]) (rest := []) X (mX6_isIn l (x := (y)) (k := M) (by omega)) gX6_ahead_X6_isIn rfl ys_X6_isIn ⟨Nat.le_of_ble_eq_true rfl, Nat.le_of_ble_eq_true rfl⟩ hl.1 rfl (Nat.le_of_ble_eq_true rfl) dX6_ahead_24 ⟨Nat.le_of_ble_eq_true rfl, Nat.le_of_ble_eq_true rfl⟩ hs rfl hP (fun r3 F3 H3 l3 hp hP => ?_)
    obtain ⟨rfl, ⟨b4, rfl⟩ | ⟨b4, rfl⟩⟩ := hp
    · obtain ⟨f, hf, rfl⟩ := b4
      refine sx_if_eq X (by decide) (tgt := 35) dX6_ahead_27 (by decide) (fun h => absurd h (by decide)) (fun _ => ?_)
      refine lv_iload_n X.1.1 X.1.2.1 dX6_ahead_30 rfl (lv_at hl 2 rfl) ?_
      refine lv_iload_n X.1.1 X.1.2.1 dX6_ahead_31 rfl (lv_at hl 3 rfl) ?_
      refine sx_icmp_ne X (by omega) (by omega) (tgt := 38) dX6_ahead_32 (by decide) (fun c32 => ?_) (fun c32 => ?_)
      · refine lv_aload_n X.1.1 X.1.2.1 dX6_ahead_38 rfl (lv_at hl 0 rfl) ?_
        refine lv_iload_n X.1.1 X.1.2.1 dX6_ahead_39 rfl (lv_at hl 2 rfl) ?_
        refine lv_iload_n X.1.1 X.1.2.1 dX6_ahead_40 rfl (lv_at hl 3 rfl) ?_
        refine sx_cvI (As := [.int (nI (e)), .int (nI (f))]) (rest := []) X (mX3_isAhead l (e := e) (f := f) hLV hM hok (by omega) (by omega) h19 h20 h21 h22 h23 h24 h25) gX6_ahead_X3_isAhead rfl yv_X3_isAhead ⟨Nat.le_of_ble_eq_true rfl, Nat.le_of_ble_eq_true rfl⟩ h19 (by decide) rfl rfl hl.1 rfl (Nat.le_of_ble_eq_true rfl) dX6_ahead_41 ⟨Nat.le_of_ble_eq_true rfl, Nat.le_of_ble_eq_true rfl⟩ hs rfl hP (fun r5 F5 H5 l5 hp hP => ?_)
        obtain ⟨rfl, ⟨b6, rfl⟩ | ⟨b6, rfl⟩⟩ := hp
        · refine sx_if_eq X (by decide) (tgt := 51) dX6_ahead_44 (by decide) (fun h => absurd h (by decide)) (fun _ => ?_)
          refine lv_iconst (v := nI 1) X.1.1 X.1.2.1 dX6_ahead_47 (by decide) ?_
          refine lv_goto (tgt := 52) X.1.1 X.1.2.1 dX6_ahead_48 (by decide) ?_
          rw [hQ]
          exact sx_iret X rfl hs rfl hP dX6_ahead_52 (⟨rfl, by unfold aheadF; rw [cif_f (fun q => q.elim (fun q => q ⟨e, he, rfl⟩) (fun q => q.elim (fun q => q ⟨f, hf, rfl⟩) (fun q => c32 ((nI_eq (by omega) (by omega)).mp q)))), nI_clamp (n := e) (by omega), nI_clamp (n := f) (by omega), cif_t b6]⟩)
        · refine sx_if_eq X (by decide) (tgt := 51) dX6_ahead_44 (by decide) (fun _ => ?_) (fun h => absurd h (by decide))
          refine lv_iconst (v := nI 0) X.1.1 X.1.2.1 dX6_ahead_51 (by decide) ?_
          rw [hQ]
          exact sx_iret X rfl hs rfl hP dX6_ahead_52 (⟨rfl, by unfold aheadF; rw [cif_f (fun q => q.elim (fun q => q ⟨e, he, rfl⟩) (fun q => q.elim (fun q => q ⟨f, hf, rfl⟩) (fun q => c32 ((nI_eq (by omega) (by omega)).mp q)))), nI_clamp (n := e) (by omega), nI_clamp (n := f) (by omega), cif_f b6]⟩)
      · refine lv_ldc (v := -1000000001) X.1.1 X.1.2.1 X.1.2.2.2.1 (X.1.2.2.2.2 _ lk_X6_ahead_constant_RX6_67_1000000001) dX6_ahead_35 ?_
        rw [hQ]
        exact sx_iret X rfl hs rfl hP dX6_ahead_37 (⟨rfl, by unfold aheadF; rw [cif_t (Or.inr (Or.inr (congrArg nI c32)))]⟩)
    · refine sx_if_eq X (by decide) (tgt := 35) dX6_ahead_27 (by decide) (fun _ => ?_) (fun h => absurd h (by decide))
      refine lv_ldc (v := -1000000001) X.1.1 X.1.2.1 X.1.2.2.2.1 (X.1.2.2.2.2 _ lk_X6_ahead_constant_RX6_67_1000000001) dX6_ahead_35 ?_
      rw [hQ]
      exact sx_iret X rfl hs rfl hP dX6_ahead_37 (⟨rfl, by unfold aheadF; rw [cif_t (Or.inr (Or.inl b4))]⟩)
  · refine sx_if_eq X (by decide) (tgt := 35) dX6_ahead_16 (by decide) (fun _ => ?_) (fun h => absurd h (by decide))
    refine lv_ldc (v := -1000000001) X.1.1 X.1.2.1 X.1.2.2.2.1 (X.1.2.2.2.2 _ lk_X6_ahead_constant_RX6_67_1000000001) dX6_ahead_35 ?_
    rw [hQ]
    exact sx_iret X rfl hs rfl hP dX6_ahead_37 (⟨rfl, by unfold aheadF; rw [cif_t (Or.inl b2)]⟩)
theorem ys_X6_races : yX6_races.cls ≠ "java/lang/invoke/MethodHandle" ∧ yX6_races.cls ≠ "java/lang/invoke/VarHandle" ∧ (parseMethodDescriptor yX6_races.desc).map (fun d => d.parameters.length) = some 2 := by decide +kernel
theorem yv_X6_races : yX6_races.cls = RX6 ∧ yX6_races.cls ≠ "java/lang/invoke/MethodHandle" ∧ yX6_races.cls ≠ "java/lang/invoke/VarHandle" ∧ (parseMethodDescriptor yX6_races.desc).map (fun d => d.parameters.length) = some 2 := ⟨rfl, ys_X6_races⟩
theorem in_X6_races_X6 : ∀ w ∈ wsX60, w ∈ wsX6_races := fun _ h => List.mem_cons_of_mem _ (List.mem_append_left _ (List.mem_append_left _ (List.mem_append_right _ (h))))
theorem lk_X6_races_fieldLink_RX6_10_RaceWatch_world_LRaceWatch_World : (.fieldLink RX6 10 "RaceWatch" "world" "LRaceWatch$World;" : Cond) ∈ wsX6_races := List.mem_cons_of_mem _ (List.mem_append_left _ (List.mem_append_left _ (List.mem_append_left _ (List.mem_of_getElem? (i := 2) rfl))))
theorem in_X6_races_X5 : ∀ w ∈ wsX50, w ∈ wsX6_races := fun _ h => List.mem_cons_of_mem _ (List.mem_append_left _ (List.mem_append_right _ (h)))
theorem lk_X6_races_fieldLink_RX6_31_RaceWatch_World_log_LRaceWatch_Log : (.fieldLink RX6 31 "RaceWatch$World" "log" "LRaceWatch$Log;" : Cond) ∈ wsX6_races := List.mem_cons_of_mem _ (List.mem_append_left _ (List.mem_append_left _ (List.mem_append_left _ (List.mem_of_getElem? (i := 3) rfl))))
theorem in_X6_races_X3 : ∀ w ∈ wsX30, w ∈ wsX6_races := fun _ h => List.mem_cons_of_mem _ (List.mem_append_right _ (h))
theorem lk_X6_races_fieldLink_RX6_165_RaceWatch_Log_raceCounts_I : (.fieldLink RX6 165 "RaceWatch$Log" "raceCounts" "[I" : Cond) ∈ wsX6_races := List.mem_cons_of_mem _ (List.mem_append_left _ (List.mem_append_left _ (List.mem_append_left _ (List.mem_of_getElem? (i := 4) rfl))))
theorem lk_X6_races_constant_RX6_44_1000000002 : (.constant RX6 44 (-1000000002) : Cond) ∈ wsX6_races := List.mem_cons_of_mem _ (List.mem_append_left _ (List.mem_append_left _ (List.mem_append_left _ (List.mem_of_getElem? (i := 1) rfl))))
theorem lk_X6_races_constant_RX6_67_1000000001 : (.constant RX6 67 (-1000000001) : Cond) ∈ wsX6_races := List.mem_cons_of_mem _ (List.mem_append_left _ (List.mem_append_left _ (List.mem_append_left _ (List.mem_of_getElem? (i := 0) rfl))))
abbrev rmX6_races : Room := { frames := 1, cells := 0, slots := 0, locals := 23 }
set_option maxHeartbeats 800000 in
set_option maxRecDepth 100000 in
theorem mX6_races {G : sx_G} (l : Launch) {F : Nat → va_E} {w : Nat → Int32} {M : Nat} {x o : Int32}  (hW : WV G F w M 1) (hwf : WFw w M) (h0 : F (0) = ob 6 ([rf G 1, rf G 28, rf G 83, rf G 84])) : sx_I G l yX6_races wsX6_races rmX6_races [rf G 0, .int (x), .int (o)] (97) F (97) (fun r F1 => F = F1 ∧ racesF w M x o = r) := by
  refine sx_enter (cc := cX6_races) (maxL := 3) (ret := some .int) (own := RX6) (nm := "races") (by decide) rfl rfl rfl (Nat.le_of_ble_eq_true rfl) ?_
  intro pp ee ss mm args below meth kc ls Q hQ X hs hP hl
  have hl : lv_has ls 3 [(0, rf G 0), (1, .int (x)), (2, .int (o))] := hl
  obtain ⟨st, ho, ct, cl, cs, kr, r4, r6, r8, h1, h2, h3, h4, h5, h6, h7, h8, h9, h10, hkr, hRV, hKV, hLg, hRw⟩ := hW
  obtain ⟨th, so, wi, lo, lc, rb, rc, rr, h19, h20, h21, h22, h23, h24, h25, h26, h27, hLV, hRB, hRC⟩ := hLg
  have h1 : F 1 = ob 5 ([rf G 2, rf G 3, rf G 4, rf G 6, rf G 8, rf G 10, rf G 19]) := h1
  have h2 : F 2 = rI G (4) (st) := h2
  have h3 : F 3 = rI G (3) (ho) := h3
  have h4 : F 4 = ob 1 ([r4, rf G 5]) := h4
  have h5 : F 5 = rI G (16) (ct) := h5
  have h6 : F 6 = ob 1 ([r6, rf G 7]) := h6
  have h7 : F 7 = rI G (12) (cl) := h7
  have h8 : F 8 = ob 1 ([r8, rf G 9]) := h8
  have h9 : F 9 = rI G (8) (cs) := h9
  have h10 : F 10 = rK G (4) (kr) := h10
  have h19 : F 19 = ob 3 ([.int (nI (M)), rf G 20, rf G 21, rf G 22, rf G 23, rf G 24, rf G 26, rf G 27]) := h19
  have h20 : F 20 = rI G (160) (th) := h20
  have h21 : F 21 = rI G (160) (so) := h21
  have h22 : F 22 = rI G (160) (wi) := h22
  have h23 : F 23 = rI G (160) (lo) := h23
  have h24 : F 24 = ob 1 ([rr, rf G 25]) := h24
  have h25 : F 25 = rI G (640) (lc) := h25
  have h26 : F 26 = rI G (160) (rb) := h26
  have h27 : F 27 = rI G (12) (rc) := h27
  have hkr : ∀ j, j < 4 → kr j = some (sx_b G + (11 + 2 * j)) := hkr
  have hM := hwf.2.1
  have hok := hwf.2.2.1
  refine lv_iload_n X.1.1 X.1.2.1 dX6_races_0 rfl (lv_at hl 1 rfl) ?_
  refine lv_iconst (v := nI 4) X.1.1 X.1.2.1 dX6_races_1 (by decide) ?_
  refine sx_csI (As := [.int (x), .int (nI 4)]) (rest := []) X (mX6_isIn l (x := (x)) (k := 4) (by omega)) gX6_races_X6_isIn rfl ys_X6_isIn ⟨Nat.le_of_ble_eq_true rfl, Nat.le_of_ble_eq_true rfl⟩ hl.1 rfl (Nat.le_of_ble_eq_true rfl) dX6_races_2 ⟨Nat.le_of_ble_eq_true rfl, Nat.le_of_ble_eq_true rfl⟩ hs rfl hP (fun r1 F1 H1 l1 hp hP => ?_)
  obtain ⟨rfl, ⟨b2, rfl⟩ | ⟨b2, rfl⟩⟩ := hp
  · obtain ⟨c, hc, rfl⟩ := b2
    refine sx_if_ne X (by decide) (tgt := 11) dX6_races_5 (by decide) (fun _ => ?_) (fun h => absurd h (by decide))
    refine lv_iload_n X.1.1 X.1.2.1 dX6_races_11 rfl (lv_at hl 2 rfl) ?_
    refine lv_iconst (v := nI 4) X.1.1 X.1.2.1 dX6_races_12 (by decide) ?_
    refine sx_csI (As := [.int (o), .int (nI 4)]) (rest := []) X (mX6_isIn l (x := (o)) (k := 4) (by omega)) gX6_races_X6_isIn rfl ys_X6_isIn ⟨Nat.le_of_ble_eq_true rfl, Nat.le_of_ble_eq_true rfl⟩ hl.1 rfl (Nat.le_of_ble_eq_true rfl) dX6_races_13 ⟨Nat.le_of_ble_eq_true rfl, Nat.le_of_ble_eq_true rfl⟩ hs rfl hP (fun r3 F3 H3 l3 hp hP => ?_)
    obtain ⟨rfl, ⟨b4, rfl⟩ | ⟨b4, rfl⟩⟩ := hp
    · obtain ⟨k, hk, rfl⟩ := b4
      refine sx_if_ne X (by decide) (tgt := 22) dX6_races_16 (by decide) (fun _ => ?_) (fun h => absurd h (by decide))
      refine lv_iload_n X.1.1 X.1.2.1 dX6_races_22 rfl (lv_at hl 2 rfl) ?_
      refine lv_iconst (v := nI 3) X.1.1 X.1.2.1 dX6_races_23 (by decide) ?_
      refine sx_icmp_ne X (by omega) (by decide) (tgt := 41) dX6_races_24 (by decide) (fun c24 => ?_) (fun c24 => ?_)
      · refine lv_aload_n X.1.1 X.1.2.1 dX6_races_41 rfl (lv_at hl 0 rfl) ?_
        refine sx_get X hP in_X6_races_X6 h0 (by decide) rfl 0 (by decide) lk_X6_races_fieldLink_RX6_10_RaceWatch_world_LRaceWatch_World rfl dX6_races_42 ?_
        refine sx_get X hP in_X6_races_X5 h1 (by decide) rfl 6 (by decide) lk_X6_races_fieldLink_RX6_31_RaceWatch_World_log_LRaceWatch_Log rfl dX6_races_45 ?_
        refine sx_get X hP in_X6_races_X3 h19 (by decide) rfl 7 (by decide) lk_X6_races_fieldLink_RX6_165_RaceWatch_Log_raceCounts_I rfl dX6_races_48 ?_
        refine lv_iload_n X.1.1 X.1.2.1 dX6_races_51 rfl (lv_at hl 1 rfl) ?_
        refine lv_iconst (v := nI 3) X.1.1 X.1.2.1 dX6_races_52 (by decide) ?_
        refine sx_mulN X (3 * c) (by omega) dX6_races_53 ?_
        refine lv_iload_n X.1.1 X.1.2.1 dX6_races_54 rfl (lv_at hl 2 rfl) ?_
        refine sx_addN X (3 * c + k) (by omega) dX6_races_55 ?_
        refine sx_ald X hP h27 (by decide) (3 * c + k) (by omega) (by decide) dX6_races_56 ?_
        rw [hQ]
        exact sx_iret X rfl hs rfl hP dX6_races_57 (⟨rfl, by unfold racesF; rw [cif_f (fun q => q ⟨c, hc, rfl⟩), cif_f (fun q => q ⟨k, hk, rfl⟩), nI_clamp (n := c) (by omega), nI_clamp (n := k) (by omega)]; exact (hRC c hc k (by omega)).symm⟩)
      · refine lv_aload_n X.1.1 X.1.2.1 dX6_races_27 rfl (lv_at hl 0 rfl) ?_
        refine sx_get X hP in_X6_races_X6 h0 (by decide) rfl 0 (by decide) lk_X6_races_fieldLink_RX6_10_RaceWatch_world_LRaceWatch_World rfl dX6_races_28 ?_
        refine sx_get X hP in_X6_races_X5 h1 (by decide) rfl 6 (by decide) lk_X6_races_fieldLink_RX6_31_RaceWatch_World_log_LRaceWatch_Log rfl dX6_races_31 ?_
        refine lv_iload_n X.1.1 X.1.2.1 dX6_races_34 rfl (lv_at hl 1 rfl) ?_
        refine sx_cvI (As := [.int (nI (c))]) (rest := []) X (mX3_racesOfCell l (v := w) (c := c) (by omega) hM hRC h19 h27) gX6_races_X3_racesOfCell rfl yv_X3_racesOfCell ⟨Nat.le_of_ble_eq_true rfl, Nat.le_of_ble_eq_true rfl⟩ h19 (by decide) rfl rfl hl.1 rfl (Nat.le_of_ble_eq_true rfl) dX6_races_35 ⟨Nat.le_of_ble_eq_true rfl, Nat.le_of_ble_eq_true rfl⟩ hs rfl hP (fun r5 F5 H5 l5 hp hP => ?_)
        obtain ⟨rfl, rfl⟩ := hp
        refine lv_goto (tgt := 57) X.1.1 X.1.2.1 dX6_races_38 (by decide) ?_
        rw [hQ]
        exact sx_iret X rfl hs rfl hP dX6_races_57 (⟨rfl, by unfold racesF; rw [cif_f (fun q => q ⟨c, hc, rfl⟩), cif_f (fun q => q ⟨k, hk, rfl⟩), nI_clamp (n := c) (by omega), nI_clamp (n := k) (by omega)]; rw [c24]⟩)
    · refine sx_if_ne X (by decide) (tgt := 22) dX6_races_16 (by decide) (fun h => absurd h (by decide)) (fun _ => ?_)
      refine lv_ldc (v := -1000000002) X.1.1 X.1.2.1 X.1.2.2.2.1 (X.1.2.2.2.2 _ lk_X6_races_constant_RX6_44_1000000002) dX6_races_19 ?_
      rw [hQ]
      exact sx_iret X rfl hs rfl hP dX6_races_21 (⟨rfl, by unfold racesF; rw [cif_f (fun q => q ⟨c, hc, rfl⟩), cif_t b4]⟩)
  · refine sx_if_ne X (by decide) (tgt := 11) dX6_races_5 (by decide) (fun h => absurd h (by decide)) (fun _ => ?_)
    refine lv_ldc (v := -1000000001) X.1.1 X.1.2.1 X.1.2.2.2.1 (X.1.2.2.2.2 _ lk_X6_races_constant_RX6_67_1000000001) dX6_races_8 ?_
    rw [hQ]
    exact sx_iret X rfl hs rfl hP dX6_races_10 (⟨rfl, by unfold racesF; rw [cif_t b2]⟩)
theorem ys_X6_shared : yX6_shared.cls ≠ "java/lang/invoke/MethodHandle" ∧ yX6_shared.cls ≠ "java/lang/invoke/VarHandle" ∧ (parseMethodDescriptor yX6_shared.desc).map (fun d => d.parameters.length) = some 2 := by decide +kernel
theorem yv_X6_shared : yX6_shared.cls = RX6 ∧ yX6_shared.cls ≠ "java/lang/invoke/MethodHandle" ∧ yX6_shared.cls ≠ "java/lang/invoke/VarHandle" ∧ (parseMethodDescriptor yX6_shared.desc).map (fun d => d.parameters.length) = some 2 := ⟨rfl, ys_X6_shared⟩
theorem in_X6_shared_X6 : ∀ w ∈ wsX60, w ∈ wsX6_shared := fun _ h => List.mem_cons_of_mem _ (List.mem_append_left _ (List.mem_append_left _ (List.mem_append_right _ (h))))
theorem lk_X6_shared_fieldLink_RX6_10_RaceWatch_world_LRaceWatch_World : (.fieldLink RX6 10 "RaceWatch" "world" "LRaceWatch$World;" : Cond) ∈ wsX6_shared := List.mem_cons_of_mem _ (List.mem_append_left _ (List.mem_append_left _ (List.mem_append_left _ (List.mem_of_getElem? (i := 1) rfl))))
theorem in_X6_shared_X5 : ∀ w ∈ wsX50, w ∈ wsX6_shared := fun _ h => List.mem_cons_of_mem _ (List.mem_append_left _ (List.mem_append_right _ (h)))
theorem lk_X6_shared_fieldLink_RX6_171_RaceWatch_World_cells_LRaceWatch_Kept : (.fieldLink RX6 171 "RaceWatch$World" "cells" "[LRaceWatch$Kept;" : Cond) ∈ wsX6_shared := List.mem_cons_of_mem _ (List.mem_append_left _ (List.mem_append_left _ (List.mem_append_left _ (List.mem_of_getElem? (i := 2) rfl))))
theorem in_X6_shared_X2 : ∀ w ∈ wsX20, w ∈ wsX6_shared := fun _ h => List.mem_cons_of_mem _ (List.mem_append_right _ (h))
theorem lk_X6_shared_fieldLink_RX6_202_RaceWatch_Kept_readNumbers_I : (.fieldLink RX6 202 "RaceWatch$Kept" "readNumbers" "[I" : Cond) ∈ wsX6_shared := List.mem_cons_of_mem _ (List.mem_append_left _ (List.mem_append_left _ (List.mem_append_left _ (List.mem_of_getElem? (i := 3) rfl))))
theorem lk_X6_shared_constant_RX6_67_1000000001 : (.constant RX6 67 (-1000000001) : Cond) ∈ wsX6_shared := List.mem_cons_of_mem _ (List.mem_append_left _ (List.mem_append_left _ (List.mem_append_left _ (List.mem_of_getElem? (i := 0) rfl))))
abbrev rmX6_shared : Room := { frames := 1, cells := 0, slots := 0, locals := 21 }
set_option maxHeartbeats 800000 in
set_option maxRecDepth 100000 in
theorem mX6_shared {G : sx_G} (l : Launch) {F : Nat → va_E} {w : Nat → Int32} {M : Nat} {x xt : Int32}  (hW : WV G F w M 1) (hwf : WFw w M) (h0 : F (0) = ob 6 ([rf G 1, rf G 28, rf G 83, rf G 84])) : sx_I G l yX6_shared wsX6_shared rmX6_shared [rf G 0, .int (x), .int (xt)] (97) F (97) (fun r F1 => F = F1 ∧ sharF w x xt = r) := by
  refine sx_enter (cc := cX6_shared) (maxL := 3) (ret := some .int) (own := RX6) (nm := "shared") (by decide) rfl rfl rfl (Nat.le_of_ble_eq_true rfl) ?_
  intro pp ee ss mm args below meth kc ls Q hQ X hs hP hl
  have hl : lv_has ls 3 [(0, rf G 0), (1, .int (x)), (2, .int (xt))] := hl
  obtain ⟨st, ho, ct, cl, cs, kr, r4, r6, r8, h1, h2, h3, h4, h5, h6, h7, h8, h9, h10, hkr, hRV, hKV, hLg, hRw⟩ := hW
  obtain ⟨th, so, wi, lo, lc, rb, rc, rr, h19, h20, h21, h22, h23, h24, h25, h26, h27, hLV, hRB, hRC⟩ := hLg
  have h1 : F 1 = ob 5 ([rf G 2, rf G 3, rf G 4, rf G 6, rf G 8, rf G 10, rf G 19]) := h1
  have h2 : F 2 = rI G (4) (st) := h2
  have h3 : F 3 = rI G (3) (ho) := h3
  have h4 : F 4 = ob 1 ([r4, rf G 5]) := h4
  have h5 : F 5 = rI G (16) (ct) := h5
  have h6 : F 6 = ob 1 ([r6, rf G 7]) := h6
  have h7 : F 7 = rI G (12) (cl) := h7
  have h8 : F 8 = ob 1 ([r8, rf G 9]) := h8
  have h9 : F 9 = rI G (8) (cs) := h9
  have h10 : F 10 = rK G (4) (kr) := h10
  have h19 : F 19 = ob 3 ([.int (nI (M)), rf G 20, rf G 21, rf G 22, rf G 23, rf G 24, rf G 26, rf G 27]) := h19
  have h20 : F 20 = rI G (160) (th) := h20
  have h21 : F 21 = rI G (160) (so) := h21
  have h22 : F 22 = rI G (160) (wi) := h22
  have h23 : F 23 = rI G (160) (lo) := h23
  have h24 : F 24 = ob 1 ([rr, rf G 25]) := h24
  have h25 : F 25 = rI G (640) (lc) := h25
  have h26 : F 26 = rI G (160) (rb) := h26
  have h27 : F 27 = rI G (12) (rc) := h27
  have hkr : ∀ j, j < 4 → kr j = some (sx_b G + (11 + 2 * j)) := hkr
  refine lv_iload_n X.1.1 X.1.2.1 dX6_shared_0 rfl (lv_at hl 1 rfl) ?_
  refine lv_iconst (v := nI 4) X.1.1 X.1.2.1 dX6_shared_1 (by decide) ?_
  refine sx_csI (As := [.int (x), .int (nI 4)]) (rest := []) X (mX6_isIn l (x := (x)) (k := 4) (by omega)) gX6_shared_X6_isIn rfl ys_X6_isIn ⟨Nat.le_of_ble_eq_true rfl, Nat.le_of_ble_eq_true rfl⟩ hl.1 rfl (Nat.le_of_ble_eq_true rfl) dX6_shared_2 ⟨Nat.le_of_ble_eq_true rfl, Nat.le_of_ble_eq_true rfl⟩ hs rfl hP (fun r1 F1 H1 l1 hp hP => ?_)
  obtain ⟨rfl, ⟨b2, rfl⟩ | ⟨b2, rfl⟩⟩ := hp
  · obtain ⟨c, hc, rfl⟩ := b2
    obtain ⟨hKx, nrx, hNx, hnr⟩ := hKV c hc
    have h11___2___c : F (11 + 2 * c) = ob 2 ([.int (w (43 + 12 * c)), .int (w (44 + 12 * c)), .int (w (45 + 12 * c)), .int (w (46 + 12 * c)), .int (w (47 + 12 * c)), rf G (12 + 2 * c), .int (w (52 + 12 * c)), .int (w (53 + 12 * c)), .int (w (54 + 12 * c)), .int (gdF w c M)]) := hKx
    have h12___2___c : F (12 + 2 * c) = rI G 4 nrx := hNx
    refine sx_if_eq X (by decide) (tgt := 16) dX6_shared_5 (by decide) (fun h => absurd h (by decide)) (fun _ => ?_)
    refine lv_iload_n X.1.1 X.1.2.1 dX6_shared_8 rfl (lv_at hl 2 rfl) ?_
    refine lv_iconst (v := nI 4) X.1.1 X.1.2.1 dX6_shared_9 (by decide) ?_
    refine sx_csI (As := [.int (xt), .int (nI 4)]) (rest := []) X (mX6_isIn l (x := (xt)) (k := 4) (by omega)) gX6_shared_X6_isIn rfl ys_X6_isIn ⟨Nat.le_of_ble_eq_true rfl, Nat.le_of_ble_eq_true rfl⟩ hl.1 rfl (Nat.le_of_ble_eq_true rfl) dX6_shared_10 ⟨Nat.le_of_ble_eq_true rfl, Nat.le_of_ble_eq_true rfl⟩ hs rfl hP (fun r3 F3 H3 l3 hp hP => ?_)
    obtain ⟨rfl, ⟨b4, rfl⟩ | ⟨b4, rfl⟩⟩ := hp
    · obtain ⟨t, ht, rfl⟩ := b4
      refine sx_if_ne X (by decide) (tgt := 19) dX6_shared_13 (by decide) (fun _ => ?_) (fun h => absurd h (by decide))
      refine lv_aload_n X.1.1 X.1.2.1 dX6_shared_19 rfl (lv_at hl 0 rfl) ?_
      refine sx_get X hP in_X6_shared_X6 h0 (by decide) rfl 0 (by decide) lk_X6_shared_fieldLink_RX6_10_RaceWatch_world_LRaceWatch_World rfl dX6_shared_20 ?_
      refine sx_get X hP in_X6_shared_X5 h1 (by decide) rfl 5 (by decide) lk_X6_shared_fieldLink_RX6_171_RaceWatch_World_cells_LRaceWatch_Kept rfl dX6_shared_23 ?_
      refine lv_iload_n X.1.1 X.1.2.1 dX6_shared_26 rfl (lv_at hl 1 rfl) ?_
      refine sx_kald X hP h10 (by decide) (c) (by omega) (by decide) (q := 11 + 2 * c) ((hkr _ (by omega)).trans (congrArg some (by omega))) dX6_shared_27 ?_
      refine sx_get X hP in_X6_shared_X2 h11___2___c (by omega) rfl 5 (by decide) lk_X6_shared_fieldLink_RX6_202_RaceWatch_Kept_readNumbers_I rfl dX6_shared_28 ?_
      refine lv_iload_n X.1.1 X.1.2.1 dX6_shared_31 rfl (lv_at hl 2 rfl) ?_
      refine sx_ald X hP h12___2___c (by omega) (t) (by omega) (by decide) dX6_shared_32 ?_
      rw [hQ]
      exact sx_iret X rfl hs rfl hP dX6_shared_33 (⟨rfl, by unfold sharF; rw [cif_t ⟨⟨c, hc, rfl⟩, ⟨t, ht, rfl⟩⟩, nI_clamp (n := c) (by omega), nI_clamp (n := t) (by omega)]; exact (hnr t ht).symm⟩)
    · refine sx_if_ne X (by decide) (tgt := 19) dX6_shared_13 (by decide) (fun h => absurd h (by decide)) (fun _ => ?_)
      refine lv_ldc (v := -1000000001) X.1.1 X.1.2.1 X.1.2.2.2.1 (X.1.2.2.2.2 _ lk_X6_shared_constant_RX6_67_1000000001) dX6_shared_16 ?_
      rw [hQ]
      exact sx_iret X rfl hs rfl hP dX6_shared_18 (⟨rfl, by unfold sharF; rw [cif_f (fun q => b4 q.2)]⟩)
  · refine sx_if_eq X (by decide) (tgt := 16) dX6_shared_5 (by decide) (fun _ => ?_) (fun h => absurd h (by decide))
    refine lv_ldc (v := -1000000001) X.1.1 X.1.2.1 X.1.2.2.2.1 (X.1.2.2.2.2 _ lk_X6_shared_constant_RX6_67_1000000001) dX6_shared_16 ?_
    rw [hQ]
    exact sx_iret X rfl hs rfl hP dX6_shared_18 (⟨rfl, by unfold sharF; rw [cif_f (fun q => b2 q.1)]⟩)
theorem ys_X6_would : yX6_would.cls ≠ "java/lang/invoke/MethodHandle" ∧ yX6_would.cls ≠ "java/lang/invoke/VarHandle" ∧ (parseMethodDescriptor yX6_would.desc).map (fun d => d.parameters.length) = some 3 := by decide +kernel
theorem yv_X6_would : yX6_would.cls = RX6 ∧ yX6_would.cls ≠ "java/lang/invoke/MethodHandle" ∧ yX6_would.cls ≠ "java/lang/invoke/VarHandle" ∧ (parseMethodDescriptor yX6_would.desc).map (fun d => d.parameters.length) = some 3 := ⟨rfl, ys_X6_would⟩
theorem in_X6_would_X6 : ∀ w ∈ wsX60, w ∈ wsX6_would := fun _ h => List.mem_cons_of_mem _ (List.mem_append_left _ (List.mem_append_left _ (List.mem_append_left _ (List.mem_append_right _ (h)))))
theorem lk_X6_would_fieldLink_RX6_10_RaceWatch_world_LRaceWatch_World : (.fieldLink RX6 10 "RaceWatch" "world" "LRaceWatch$World;" : Cond) ∈ wsX6_would := List.mem_cons_of_mem _ (List.mem_append_left _ (List.mem_append_left _ (List.mem_append_left _ (List.mem_append_left _ (List.mem_append_left _ (List.mem_of_getElem? (i := 1) rfl))))))
theorem in_X6_would_X5 : ∀ w ∈ wsX50, w ∈ wsX6_would := fun _ h => List.mem_cons_of_mem _ (List.mem_append_left _ (List.mem_append_left _ (List.mem_append_right _ (h))))
theorem lk_X6_would_fieldLink_RX6_171_RaceWatch_World_cells_LRaceWatch_Kept : (.fieldLink RX6 171 "RaceWatch$World" "cells" "[LRaceWatch$Kept;" : Cond) ∈ wsX6_would := List.mem_cons_of_mem _ (List.mem_append_left _ (List.mem_append_left _ (List.mem_append_left _ (List.mem_append_left _ (List.mem_append_left _ (List.mem_of_getElem? (i := 3) rfl))))))
theorem lk_X6_would_fieldLink_RX6_73_RaceWatch_World_ofThreads_LRaceWatch_Clocks : (.fieldLink RX6 73 "RaceWatch$World" "ofThreads" "LRaceWatch$Clocks;" : Cond) ∈ wsX6_would := List.mem_cons_of_mem _ (List.mem_append_left _ (List.mem_append_left _ (List.mem_append_left _ (List.mem_append_left _ (List.mem_append_left _ (List.mem_of_getElem? (i := 4) rfl))))))
theorem lk_X6_would_constant_RX6_72_1000000003 : (.constant RX6 72 (-1000000003) : Cond) ∈ wsX6_would := List.mem_cons_of_mem _ (List.mem_append_left _ (List.mem_append_left _ (List.mem_append_left _ (List.mem_append_left _ (List.mem_append_left _ (List.mem_of_getElem? (i := 2) rfl))))))
theorem lk_X6_would_constant_RX6_67_1000000001 : (.constant RX6 67 (-1000000001) : Cond) ∈ wsX6_would := List.mem_cons_of_mem _ (List.mem_append_left _ (List.mem_append_left _ (List.mem_append_left _ (List.mem_append_left _ (List.mem_append_left _ (List.mem_of_getElem? (i := 0) rfl))))))
abbrev rmX6_would : Room := { frames := 3, cells := 0, slots := 0, locals := 69 }
set_option maxHeartbeats 800000 in
set_option maxRecDepth 100000 in
theorem mX6_would {G : sx_G} (l : Launch) {F : Nat → va_E} {w : Nat → Int32} {M : Nat} {xt x : Int32} {wr : Nat}  (hW : WV G F w M 1) (hwf : WFw w M) (hwr : wr < 2) (h0 : F (0) = ob 6 ([rf G 1, rf G 28, rf G 83, rf G 84])) : sx_I G l yX6_would wsX6_would rmX6_would [rf G 0, .int (xt), .int (x), .int (nI (wr))] (97) F (97) (fun r F1 => F = F1 ∧ wouldF w xt x wr = r) := by
  refine sx_enter (cc := cX6_would) (maxL := 4) (ret := some .int) (own := RX6) (nm := "would") (by decide) rfl rfl rfl (Nat.le_of_ble_eq_true rfl) ?_
  intro pp ee ss mm args below meth kc ls Q hQ X hs hP hl
  have hl : lv_has ls 4 [(0, rf G 0), (1, .int (xt)), (2, .int (x)), (3, .int (nI (wr)))] := hl
  obtain ⟨st, ho, ct, cl, cs, kr, r4, r6, r8, h1, h2, h3, h4, h5, h6, h7, h8, h9, h10, hkr, hRV, hKV, hLg, hRw⟩ := hW
  obtain ⟨th, so, wi, lo, lc, rb, rc, rr, h19, h20, h21, h22, h23, h24, h25, h26, h27, hLV, hRB, hRC⟩ := hLg
  have h1 : F 1 = ob 5 ([rf G 2, rf G 3, rf G 4, rf G 6, rf G 8, rf G 10, rf G 19]) := h1
  have h2 : F 2 = rI G (4) (st) := h2
  have h3 : F 3 = rI G (3) (ho) := h3
  have h4 : F 4 = ob 1 ([r4, rf G 5]) := h4
  have h5 : F 5 = rI G (16) (ct) := h5
  have h6 : F 6 = ob 1 ([r6, rf G 7]) := h6
  have h7 : F 7 = rI G (12) (cl) := h7
  have h8 : F 8 = ob 1 ([r8, rf G 9]) := h8
  have h9 : F 9 = rI G (8) (cs) := h9
  have h10 : F 10 = rK G (4) (kr) := h10
  have h19 : F 19 = ob 3 ([.int (nI (M)), rf G 20, rf G 21, rf G 22, rf G 23, rf G 24, rf G 26, rf G 27]) := h19
  have h20 : F 20 = rI G (160) (th) := h20
  have h21 : F 21 = rI G (160) (so) := h21
  have h22 : F 22 = rI G (160) (wi) := h22
  have h23 : F 23 = rI G (160) (lo) := h23
  have h24 : F 24 = ob 1 ([rr, rf G 25]) := h24
  have h25 : F 25 = rI G (640) (lc) := h25
  have h26 : F 26 = rI G (160) (rb) := h26
  have h27 : F 27 = rI G (12) (rc) := h27
  have hkr : ∀ j, j < 4 → kr j = some (sx_b G + (11 + 2 * j)) := hkr
  refine lv_iload_n X.1.1 X.1.2.1 dX6_would_0 rfl (lv_at hl 1 rfl) ?_
  refine lv_iconst (v := nI 4) X.1.1 X.1.2.1 dX6_would_1 (by decide) ?_
  refine sx_csI (As := [.int (xt), .int (nI 4)]) (rest := []) X (mX6_isIn l (x := (xt)) (k := 4) (by omega)) gX6_would_X6_isIn rfl ys_X6_isIn ⟨Nat.le_of_ble_eq_true rfl, Nat.le_of_ble_eq_true rfl⟩ hl.1 rfl (Nat.le_of_ble_eq_true rfl) dX6_would_2 ⟨Nat.le_of_ble_eq_true rfl, Nat.le_of_ble_eq_true rfl⟩ hs rfl hP (fun r1 F1 H1 l1 hp hP => ?_)
  obtain ⟨rfl, ⟨b2, rfl⟩ | ⟨b2, rfl⟩⟩ := hp
  · obtain ⟨t, ht, rfl⟩ := b2
    refine sx_if_eq X (by decide) (tgt := 16) dX6_would_5 (by decide) (fun h => absurd h (by decide)) (fun _ => ?_)
    refine lv_iload_n X.1.1 X.1.2.1 dX6_would_8 rfl (lv_at hl 2 rfl) ?_
    refine lv_iconst (v := nI 4) X.1.1 X.1.2.1 dX6_would_9 (by decide) ?_
    refine sx_csI (As := [.int (x), .int (nI 4)]) (rest := []) X (mX6_isIn l (x := (x)) (k := 4) (by omega)) gX6_would_X6_isIn rfl ys_X6_isIn ⟨Nat.le_of_ble_eq_true rfl, Nat.le_of_ble_eq_true rfl⟩ hl.1 rfl (Nat.le_of_ble_eq_true rfl) dX6_would_10 ⟨Nat.le_of_ble_eq_true rfl, Nat.le_of_ble_eq_true rfl⟩ hs rfl hP (fun r3 F3 H3 l3 hp hP => ?_)
    obtain ⟨rfl, ⟨b4, rfl⟩ | ⟨b4, rfl⟩⟩ := hp
    · obtain ⟨c, hc, rfl⟩ := b4
      obtain ⟨hKx, nrx, hNx, hnr⟩ := hKV c hc
      have h11___2___c : F (11 + 2 * c) = ob 2 ([.int (w (43 + 12 * c)), .int (w (44 + 12 * c)), .int (w (45 + 12 * c)), .int (w (46 + 12 * c)), .int (w (47 + 12 * c)), rf G (12 + 2 * c), .int (w (52 + 12 * c)), .int (w (53 + 12 * c)), .int (w (54 + 12 * c)), .int (gdF w c M)]) := hKx
      have h12___2___c : F (12 + 2 * c) = rI G 4 nrx := hNx
      refine sx_if_ne X (by decide) (tgt := 19) dX6_would_13 (by decide) (fun _ => ?_) (fun h => absurd h (by decide))
      refine lv_aload_n X.1.1 X.1.2.1 dX6_would_19 rfl (lv_at hl 0 rfl) ?_
      refine sx_get X hP in_X6_would_X6 h0 (by decide) rfl 0 (by decide) lk_X6_would_fieldLink_RX6_10_RaceWatch_world_LRaceWatch_World rfl dX6_would_20 ?_
      refine lv_iload_n X.1.1 X.1.2.1 dX6_would_23 rfl (lv_at hl 1 rfl) ?_
      refine sx_cvI (As := [.int (nI (t))]) (rest := []) X (mX5_goes l (t := t) (by omega) h1 h2) gX6_would_X5_goes rfl yv_X5_goes ⟨Nat.le_of_ble_eq_true rfl, Nat.le_of_ble_eq_true rfl⟩ h1 (by decide) rfl rfl hl.1 rfl (Nat.le_of_ble_eq_true rfl) dX6_would_24 ⟨Nat.le_of_ble_eq_true rfl, Nat.le_of_ble_eq_true rfl⟩ hs rfl hP (fun r5 F5 H5 l5 hp hP => ?_)
      obtain ⟨rfl, ⟨b6, rfl⟩ | ⟨b6, rfl⟩⟩ := hp
      · refine sx_if_ne X (by decide) (tgt := 33) dX6_would_27 (by decide) (fun _ => ?_) (fun h => absurd h (by decide))
        refine lv_aload_n X.1.1 X.1.2.1 dX6_would_33 rfl (lv_at hl 0 rfl) ?_
        refine sx_get X hP in_X6_would_X6 h0 (by decide) rfl 0 (by decide) lk_X6_would_fieldLink_RX6_10_RaceWatch_world_LRaceWatch_World rfl dX6_would_34 ?_
        refine sx_get X hP in_X6_would_X5 h1 (by decide) rfl 5 (by decide) lk_X6_would_fieldLink_RX6_171_RaceWatch_World_cells_LRaceWatch_Kept rfl dX6_would_37 ?_
        refine lv_iload_n X.1.1 X.1.2.1 dX6_would_40 rfl (lv_at hl 2 rfl) ?_
        refine sx_kald X hP h10 (by decide) (c) (by omega) (by decide) (q := 11 + 2 * c) ((hkr _ (by omega)).trans (congrArg some (by omega))) dX6_would_41 ?_
        refine lv_iload_n X.1.1 X.1.2.1 dX6_would_42 rfl (lv_at hl 3 rfl) ?_
        refine lv_aload_n X.1.1 X.1.2.1 dX6_would_43 rfl (lv_at hl 0 rfl) ?_
        refine sx_get X hP in_X6_would_X6 h0 (by decide) rfl 0 (by decide) lk_X6_would_fieldLink_RX6_10_RaceWatch_world_LRaceWatch_World rfl dX6_would_44 ?_
        refine sx_get X hP in_X6_would_X5 h1 (by decide) rfl 2 (by decide) lk_X6_would_fieldLink_RX6_73_RaceWatch_World_ofThreads_LRaceWatch_Clocks rfl dX6_would_47 ?_
        refine lv_iload_n X.1.1 X.1.2.1 dX6_would_50 rfl (lv_at hl 1 rfl) ?_
        refine sx_cvI (As := [.int (nI (wr)), rf G 4, .int (nI (t))]) (rest := []) X (mX2_kindOf l (ki := 11 + 2 * c) (kj := 12 + 2 * c) (ci := 4) (cj := 5) (t := t) (c := c) (by omega) (by omega) (by decide) (by decide) (by omega) (by omega) (by omega) (by omega) (by omega) (by decide) ht hc (hwf.2.2.2.1 c hc) hnr hRV.2.2.1 (wr := wr) hwr h11___2___c h12___2___c h4 h5) gX6_would_X2_kindOf rfl yv_X2_kindOf ⟨Nat.le_of_ble_eq_true rfl, Nat.le_of_ble_eq_true rfl⟩ h11___2___c (by omega) rfl rfl hl.1 rfl (Nat.le_of_ble_eq_true rfl) dX6_would_51 ⟨Nat.le_of_ble_eq_true rfl, Nat.le_of_ble_eq_true rfl⟩ hs rfl hP (fun r7 F7 H7 l7 hp hP => ?_)
        obtain ⟨rfl, rfl⟩ := hp
        rw [hQ]
        exact sx_iret X rfl hs rfl hP dX6_would_54 (⟨rfl, by unfold wouldF; rw [cif_f (fun q => q ⟨⟨t, ht, rfl⟩, ⟨c, hc, rfl⟩⟩), nI_clamp (n := t) (by omega), nI_clamp (n := c) (by omega), ← hRV.1 t ht, if_pos b6]⟩)
      · refine sx_if_ne X (by decide) (tgt := 33) dX6_would_27 (by decide) (fun h => absurd h (by decide)) (fun _ => ?_)
        refine lv_ldc (v := -1000000003) X.1.1 X.1.2.1 X.1.2.2.2.1 (X.1.2.2.2.2 _ lk_X6_would_constant_RX6_72_1000000003) dX6_would_30 ?_
        rw [hQ]
        exact sx_iret X rfl hs rfl hP dX6_would_32 (⟨rfl, by unfold wouldF; rw [cif_f (fun q => q ⟨⟨t, ht, rfl⟩, ⟨c, hc, rfl⟩⟩), nI_clamp (n := t) (by omega), nI_clamp (n := c) (by omega), ← hRV.1 t ht, if_neg b6]⟩)
    · refine sx_if_ne X (by decide) (tgt := 19) dX6_would_13 (by decide) (fun h => absurd h (by decide)) (fun _ => ?_)
      refine lv_ldc (v := -1000000001) X.1.1 X.1.2.1 X.1.2.2.2.1 (X.1.2.2.2.2 _ lk_X6_would_constant_RX6_67_1000000001) dX6_would_16 ?_
      rw [hQ]
      exact sx_iret X rfl hs rfl hP dX6_would_18 (⟨rfl, by unfold wouldF; rw [cif_t (fun q => b4 q.2)]⟩)
  · refine sx_if_eq X (by decide) (tgt := 16) dX6_would_5 (by decide) (fun _ => ?_) (fun h => absurd h (by decide))
    refine lv_ldc (v := -1000000001) X.1.1 X.1.2.1 X.1.2.2.2.1 (X.1.2.2.2.2 _ lk_X6_would_constant_RX6_67_1000000001) dX6_would_16 ?_
    rw [hQ]
    exact sx_iret X rfl hs rfl hP dX6_would_18 (⟨rfl, by unfold wouldF; rw [cif_t (fun q => b2 q.1)]⟩)
theorem ys_X6_refusalOf : yX6_refusalOf.cls ≠ "java/lang/invoke/MethodHandle" ∧ yX6_refusalOf.cls ≠ "java/lang/invoke/VarHandle" ∧ (parseMethodDescriptor yX6_refusalOf.desc).map (fun d => d.parameters.length) = some 3 := by decide +kernel
theorem yv_X6_refusalOf : yX6_refusalOf.cls = RX6 ∧ yX6_refusalOf.cls ≠ "java/lang/invoke/MethodHandle" ∧ yX6_refusalOf.cls ≠ "java/lang/invoke/VarHandle" ∧ (parseMethodDescriptor yX6_refusalOf.desc).map (fun d => d.parameters.length) = some 3 := ⟨rfl, ys_X6_refusalOf⟩
theorem lk_X6_refusalOf_constant_RX6_67_1000000001 : (.constant RX6 67 (-1000000001) : Cond) ∈ wsX6_refusalOf := List.mem_cons_of_mem _ (List.mem_append_left _ (List.mem_append_left _ (List.mem_append_left _ (List.mem_append_left _ (List.mem_append_left _ (List.mem_of_getElem? (i := 0) rfl))))))
theorem in_X6_refusalOf_X6 : ∀ w ∈ wsX60, w ∈ wsX6_refusalOf := fun _ h => List.mem_cons_of_mem _ (List.mem_append_left _ (List.mem_append_left _ (List.mem_append_left _ (List.mem_append_right _ (h)))))
theorem lk_X6_refusalOf_fieldLink_RX6_10_RaceWatch_world_LRaceWatch_World : (.fieldLink RX6 10 "RaceWatch" "world" "LRaceWatch$World;" : Cond) ∈ wsX6_refusalOf := List.mem_cons_of_mem _ (List.mem_append_left _ (List.mem_append_left _ (List.mem_append_left _ (List.mem_append_left _ (List.mem_append_left _ (List.mem_of_getElem? (i := 2) rfl))))))
theorem in_X6_refusalOf_X5 : ∀ w ∈ wsX50, w ∈ wsX6_refusalOf := fun _ h => List.mem_cons_of_mem _ (List.mem_append_left _ (List.mem_append_left _ (List.mem_append_right _ (h))))
theorem lk_X6_refusalOf_fieldLink_RX6_31_RaceWatch_World_log_LRaceWatch_Log : (.fieldLink RX6 31 "RaceWatch$World" "log" "LRaceWatch$Log;" : Cond) ∈ wsX6_refusalOf := List.mem_cons_of_mem _ (List.mem_append_left _ (List.mem_append_left _ (List.mem_append_left _ (List.mem_append_left _ (List.mem_append_left _ (List.mem_of_getElem? (i := 4) rfl))))))
theorem lk_X6_refusalOf_constant_RX6_84_1000000005 : (.constant RX6 84 (-1000000005) : Cond) ∈ wsX6_refusalOf := List.mem_cons_of_mem _ (List.mem_append_left _ (List.mem_append_left _ (List.mem_append_left _ (List.mem_append_left _ (List.mem_append_left _ (List.mem_of_getElem? (i := 6) rfl))))))
theorem lk_X6_refusalOf_constant_RX6_226_1000000004 : (.constant RX6 226 (-1000000004) : Cond) ∈ wsX6_refusalOf := List.mem_cons_of_mem _ (List.mem_append_left _ (List.mem_append_left _ (List.mem_append_left _ (List.mem_append_left _ (List.mem_append_left _ (List.mem_of_getElem? (i := 5) rfl))))))
theorem lk_X6_refusalOf_constant_RX6_72_1000000003 : (.constant RX6 72 (-1000000003) : Cond) ∈ wsX6_refusalOf := List.mem_cons_of_mem _ (List.mem_append_left _ (List.mem_append_left _ (List.mem_append_left _ (List.mem_append_left _ (List.mem_append_left _ (List.mem_of_getElem? (i := 3) rfl))))))
theorem lk_X6_refusalOf_constant_RX6_44_1000000002 : (.constant RX6 44 (-1000000002) : Cond) ∈ wsX6_refusalOf := List.mem_cons_of_mem _ (List.mem_append_left _ (List.mem_append_left _ (List.mem_append_left _ (List.mem_append_left _ (List.mem_append_left _ (List.mem_of_getElem? (i := 1) rfl))))))
abbrev rmX6_refusalOf : Room := { frames := 2, cells := 0, slots := 0, locals := 46 }
set_option maxHeartbeats 800000 in
set_option maxRecDepth 100000 in
theorem mX6_refusalOf {G : sx_G} (l : Launch) {F : Nat → va_E} {w : Nat → Int32} {M : Nat} {xt xs xw : Int32}  (hW : WV G F w M 1) (hwf : WFw w M) (h0 : F (0) = ob 6 ([rf G 1, rf G 28, rf G 83, rf G 84])) : sx_I G l yX6_refusalOf wsX6_refusalOf rmX6_refusalOf [rf G 0, .int (xt), .int (xs), .int (xw)] (97) F (97) (fun r F1 => F = F1 ∧ (¬ r = nI 0 ∧ evF w M xt xs xw = (r, w) ∨ r = nI 0 ∧ ∃ t s x, t < 4 ∧ s < 8 ∧ x < boundF s ∧ (6 ≤ s → x ≠ t) ∧ xt = nI t ∧ xs = nI s ∧ xw = nI x ∧ M < 160 ∧ evF w M xt xs xw = (nI M, comeF w M t s x))) := by
  refine sx_enter (cc := cX6_refusalOf) (maxL := 4) (ret := some .int) (own := RX6) (nm := "refusalOf") (by decide) rfl rfl rfl (Nat.le_of_ble_eq_true rfl) ?_
  intro pp ee ss mm args below meth kc ls Q hQ X hs hP hl
  have hl : lv_has ls 4 [(0, rf G 0), (1, .int (xt)), (2, .int (xs)), (3, .int (xw))] := hl
  obtain ⟨st, ho, ct, cl, cs, kr, r4, r6, r8, h1, h2, h3, h4, h5, h6, h7, h8, h9, h10, hkr, hRV, hKV, hLg, hRw⟩ := hW
  obtain ⟨th, so, wi, lo, lc, rb, rc, rr, h19, h20, h21, h22, h23, h24, h25, h26, h27, hLV, hRB, hRC⟩ := hLg
  have h1 : F 1 = ob 5 ([rf G 2, rf G 3, rf G 4, rf G 6, rf G 8, rf G 10, rf G 19]) := h1
  have h2 : F 2 = rI G (4) (st) := h2
  have h3 : F 3 = rI G (3) (ho) := h3
  have h4 : F 4 = ob 1 ([r4, rf G 5]) := h4
  have h5 : F 5 = rI G (16) (ct) := h5
  have h6 : F 6 = ob 1 ([r6, rf G 7]) := h6
  have h7 : F 7 = rI G (12) (cl) := h7
  have h8 : F 8 = ob 1 ([r8, rf G 9]) := h8
  have h9 : F 9 = rI G (8) (cs) := h9
  have h10 : F 10 = rK G (4) (kr) := h10
  have h19 : F 19 = ob 3 ([.int (nI (M)), rf G 20, rf G 21, rf G 22, rf G 23, rf G 24, rf G 26, rf G 27]) := h19
  have h20 : F 20 = rI G (160) (th) := h20
  have h21 : F 21 = rI G (160) (so) := h21
  have h22 : F 22 = rI G (160) (wi) := h22
  have h23 : F 23 = rI G (160) (lo) := h23
  have h24 : F 24 = ob 1 ([rr, rf G 25]) := h24
  have h25 : F 25 = rI G (640) (lc) := h25
  have h26 : F 26 = rI G (160) (rb) := h26
  have h27 : F 27 = rI G (12) (rc) := h27
  have hkr : ∀ j, j < 4 → kr j = some (sx_b G + (11 + 2 * j)) := hkr
  have hM := hwf.2.1
  have hok := hwf.2.2.1
  refine lv_iload_n X.1.1 X.1.2.1 dX6_refusalOf_0 rfl (lv_at hl 1 rfl) ?_
  refine lv_iconst (v := nI 4) X.1.1 X.1.2.1 dX6_refusalOf_1 (by decide) ?_
  refine sx_csI (As := [.int (xt), .int (nI 4)]) (rest := []) X (mX6_isIn l (x := (xt)) (k := 4) (by omega)) gX6_refusalOf_X6_isIn rfl ys_X6_isIn ⟨Nat.le_of_ble_eq_true rfl, Nat.le_of_ble_eq_true rfl⟩ hl.1 rfl (Nat.le_of_ble_eq_true rfl) dX6_refusalOf_2 ⟨Nat.le_of_ble_eq_true rfl, Nat.le_of_ble_eq_true rfl⟩ hs rfl hP (fun r1 F1 H1 l1 hp hP => ?_)
  obtain ⟨rfl, ⟨b2, rfl⟩ | ⟨b2, rfl⟩⟩ := hp
  · obtain ⟨t, ht, rfl⟩ := b2
    refine sx_if_ne X (by decide) (tgt := 11) dX6_refusalOf_5 (by decide) (fun _ => ?_) (fun h => absurd h (by decide))
    refine lv_iload_n X.1.1 X.1.2.1 dX6_refusalOf_11 rfl (lv_at hl 2 rfl) ?_
    refine lv_bipush (v := nI 8) X.1.1 X.1.2.1 dX6_refusalOf_12 (by decide) ?_
    refine sx_csI (As := [.int (xs), .int (nI 8)]) (rest := []) X (mX6_isIn l (x := (xs)) (k := 8) (by omega)) gX6_refusalOf_X6_isIn rfl ys_X6_isIn ⟨Nat.le_of_ble_eq_true rfl, Nat.le_of_ble_eq_true rfl⟩ hl.1 rfl (Nat.le_of_ble_eq_true rfl) dX6_refusalOf_14 ⟨Nat.le_of_ble_eq_true rfl, Nat.le_of_ble_eq_true rfl⟩ hs rfl hP (fun r3 F3 H3 l3 hp hP => ?_)
    obtain ⟨rfl, ⟨b4, rfl⟩ | ⟨b4, rfl⟩⟩ := hp
    · obtain ⟨s, hs8, rfl⟩ := b4
      have hbl := boundF_le s
      refine sx_if_ne X (by decide) (tgt := 23) dX6_refusalOf_17 (by decide) (fun _ => ?_) (fun h => absurd h (by decide))
      refine lv_iload_n X.1.1 X.1.2.1 dX6_refusalOf_23 rfl (lv_at hl 3 rfl) ?_
      refine lv_iload_n X.1.1 X.1.2.1 dX6_refusalOf_24 rfl (lv_at hl 2 rfl) ?_
      refine sx_csI (As := [.int (nI (s))]) (rest := .int (xw) :: []) X (mX6_boundOf l (s := s) (by omega)) gX6_refusalOf_X6_boundOf rfl ys_X6_boundOf ⟨Nat.le_of_ble_eq_true rfl, Nat.le_of_ble_eq_true rfl⟩ hl.1 rfl (Nat.le_of_ble_eq_true rfl) dX6_refusalOf_25 ⟨Nat.le_of_ble_eq_true rfl, Nat.le_of_ble_eq_true rfl⟩ hs rfl hP (fun r5 F5 H5 l5 hp hP => ?_)
      obtain ⟨rfl, rfl⟩ := hp
      refine sx_csI (As := [.int (xw), .int (nI (boundF s))]) (rest := []) X (mX6_isIn l (x := (xw)) (k := boundF s) (by omega)) gX6_refusalOf_X6_isIn rfl ys_X6_isIn ⟨Nat.le_of_ble_eq_true rfl, Nat.le_of_ble_eq_true rfl⟩ hl.1 rfl (Nat.le_of_ble_eq_true rfl) dX6_refusalOf_28 ⟨Nat.le_of_ble_eq_true rfl, Nat.le_of_ble_eq_true rfl⟩ hs rfl hP (fun r6 F6 H6 l6 hp hP => ?_)
      obtain ⟨rfl, ⟨b7, rfl⟩ | ⟨b7, rfl⟩⟩ := hp
      · obtain ⟨x, hx, rfl⟩ := b7
        have hx4 : x < 4 := by omega
        refine sx_if_eq X (by decide) (tgt := 43) dX6_refusalOf_31 (by decide) (fun h => absurd h (by decide)) (fun _ => ?_)
        refine lv_iload_n X.1.1 X.1.2.1 dX6_refusalOf_34 rfl (lv_at hl 1 rfl) ?_
        refine lv_iload_n X.1.1 X.1.2.1 dX6_refusalOf_35 rfl (lv_at hl 2 rfl) ?_
        refine lv_iload_n X.1.1 X.1.2.1 dX6_refusalOf_36 rfl (lv_at hl 3 rfl) ?_
        refine sx_csI (As := [.int (nI (t)), .int (nI (s)), .int (nI (x))]) (rest := []) X (mX6_isItself l (t := t) (s := s) (x := x) (by omega) (by omega) (by omega)) gX6_refusalOf_X6_isItself rfl ys_X6_isItself ⟨Nat.le_of_ble_eq_true rfl, Nat.le_of_ble_eq_true rfl⟩ hl.1 rfl (Nat.le_of_ble_eq_true rfl) dX6_refusalOf_37 ⟨Nat.le_of_ble_eq_true rfl, Nat.le_of_ble_eq_true rfl⟩ hs rfl hP (fun r8 F8 H8 l8 hp hP => ?_)
        obtain ⟨rfl, ⟨b9, rfl⟩ | ⟨b9, rfl⟩⟩ := hp
        · refine sx_if_eq X (by decide) (tgt := 46) dX6_refusalOf_40 (by decide) (fun h => absurd h (by decide)) (fun _ => ?_)
          refine lv_ldc (v := -1000000001) X.1.1 X.1.2.1 X.1.2.2.2.1 (X.1.2.2.2.2 _ lk_X6_refusalOf_constant_RX6_67_1000000001) dX6_refusalOf_43 ?_
          rw [hQ]
          exact sx_iret X rfl hs rfl hP dX6_refusalOf_45 (⟨rfl, Or.inl ⟨by decide, evF_U2 ht hs8 (fun q => q.elim (fun j z => z.2.2 (by have := b9.1; omega) (((nI_eq (by have := z.1; omega) (by omega)).mp z.2.1.symm).trans b9.2)))⟩⟩)
        · have hxt : 6 ≤ s → x ≠ t := fun q z => b9 ⟨by omega, z⟩
          have hwith : withF t s (nI x) := ⟨x, hx, rfl, hxt⟩
          have hgo := evF_go (w := w) (n := M) ht hs8 hx4 hwith
          have hce := can_iff hRV ht hs8 hx hxt
          have hmu : ((s = 3 ∨ s = 4 ∨ s = 6) ∧ ct (5 * t) = 2147483647) ↔ (hasS s ∧ w (4 + 5 * t) = 2147483647) := by rw [hRV.2.2.1 (5 * t) (by omega)]; exact Iff.rfl
          refine sx_if_eq X (by decide) (tgt := 46) dX6_refusalOf_40 (by decide) (fun _ => ?_) (fun h => absurd h (by decide))
          refine lv_aload_n X.1.1 X.1.2.1 dX6_refusalOf_46 rfl (lv_at hl 0 rfl) ?_
          refine sx_get X hP in_X6_refusalOf_X6 h0 (by decide) rfl 0 (by decide) lk_X6_refusalOf_fieldLink_RX6_10_RaceWatch_world_LRaceWatch_World rfl dX6_refusalOf_47 ?_
          refine lv_iload_n X.1.1 X.1.2.1 dX6_refusalOf_50 rfl (lv_at hl 1 rfl) ?_
          refine lv_iload_n X.1.1 X.1.2.1 dX6_refusalOf_51 rfl (lv_at hl 2 rfl) ?_
          refine lv_iload_n X.1.1 X.1.2.1 dX6_refusalOf_52 rfl (lv_at hl 3 rfl) ?_
          refine sx_cvI (As := [.int (nI (t)), .int (nI (s)), .int (nI (x))]) (rest := []) X (mX5_canBe l (t := t) (s := s) (x := x) ht hs8 hx h1 h2 h3) gX6_refusalOf_X5_canBe rfl yv_X5_canBe ⟨Nat.le_of_ble_eq_true rfl, Nat.le_of_ble_eq_true rfl⟩ h1 (by decide) rfl rfl hl.1 rfl (Nat.le_of_ble_eq_true rfl) dX6_refusalOf_53 ⟨Nat.le_of_ble_eq_true rfl, Nat.le_of_ble_eq_true rfl⟩ hs rfl hP (fun r10 F10 H10 l10 hp hP => ?_)
          obtain ⟨rfl, ⟨b11, rfl⟩ | ⟨b11, rfl⟩⟩ := hp
          · refine sx_if_ne X (by decide) (tgt := 62) dX6_refusalOf_56 (by decide) (fun _ => ?_) (fun h => absurd h (by decide))
            refine lv_aload_n X.1.1 X.1.2.1 dX6_refusalOf_62 rfl (lv_at hl 0 rfl) ?_
            refine sx_get X hP in_X6_refusalOf_X6 h0 (by decide) rfl 0 (by decide) lk_X6_refusalOf_fieldLink_RX6_10_RaceWatch_world_LRaceWatch_World rfl dX6_refusalOf_63 ?_
            refine sx_get X hP in_X6_refusalOf_X5 h1 (by decide) rfl 6 (by decide) lk_X6_refusalOf_fieldLink_RX6_31_RaceWatch_World_log_LRaceWatch_Log rfl dX6_refusalOf_66 ?_
            refine lv_iconst (v := nI 1) X.1.1 X.1.2.1 dX6_refusalOf_69 (by decide) ?_
            refine sx_cvI (As := [.int (nI 1)]) (rest := []) X (mX3_hasRoom l (M := M) (k := 1) (by omega) (by omega) h19) gX6_refusalOf_X3_hasRoom rfl yv_X3_hasRoom ⟨Nat.le_of_ble_eq_true rfl, Nat.le_of_ble_eq_true rfl⟩ h19 (by decide) rfl rfl hl.1 rfl (Nat.le_of_ble_eq_true rfl) dX6_refusalOf_70 ⟨Nat.le_of_ble_eq_true rfl, Nat.le_of_ble_eq_true rfl⟩ hs rfl hP (fun r12 F12 H12 l12 hp hP => ?_)
            obtain ⟨rfl, ⟨b13, rfl⟩ | ⟨b13, rfl⟩⟩ := hp
            · refine sx_if_ne X (by decide) (tgt := 79) dX6_refusalOf_73 (by decide) (fun _ => ?_) (fun h => absurd h (by decide))
              refine lv_aload_n X.1.1 X.1.2.1 dX6_refusalOf_79 rfl (lv_at hl 0 rfl) ?_
              refine sx_get X hP in_X6_refusalOf_X6 h0 (by decide) rfl 0 (by decide) lk_X6_refusalOf_fieldLink_RX6_10_RaceWatch_world_LRaceWatch_World rfl dX6_refusalOf_80 ?_
              refine lv_iload_n X.1.1 X.1.2.1 dX6_refusalOf_83 rfl (lv_at hl 1 rfl) ?_
              refine lv_iload_n X.1.1 X.1.2.1 dX6_refusalOf_84 rfl (lv_at hl 2 rfl) ?_
              refine sx_cvI (As := [.int (nI (t)), .int (nI (s))]) (rest := []) X (mX5_stepIsMuch l (t := t) (s := s) ht hs8 h1 h4 h5) gX6_refusalOf_X5_stepIsMuch rfl yv_X5_stepIsMuch ⟨Nat.le_of_ble_eq_true rfl, Nat.le_of_ble_eq_true rfl⟩ h1 (by decide) rfl rfl hl.1 rfl (Nat.le_of_ble_eq_true rfl) dX6_refusalOf_85 ⟨Nat.le_of_ble_eq_true rfl, Nat.le_of_ble_eq_true rfl⟩ hs rfl hP (fun r14 F14 H14 l14 hp hP => ?_)
              obtain ⟨rfl, ⟨b15, rfl⟩ | ⟨b15, rfl⟩⟩ := hp
              · refine sx_if_eq X (by decide) (tgt := 96) dX6_refusalOf_88 (by decide) (fun h => absurd h (by decide)) (fun _ => ?_)
                refine lv_ldc (v := -1000000005) X.1.1 X.1.2.1 X.1.2.2.2.1 (X.1.2.2.2.2 _ lk_X6_refusalOf_constant_RX6_84_1000000005) dX6_refusalOf_91 ?_
                refine lv_goto (tgt := 97) X.1.1 X.1.2.1 dX6_refusalOf_93 (by decide) ?_
                rw [hQ]
                exact sx_iret X rfl hs rfl hP dX6_refusalOf_97 (⟨rfl, Or.inl ⟨by decide, by rw [hgo]; unfold evG; rw [cif_f (fun q => q (hce.mp b11)), cif_f (by omega), cif_t (hmu.mp b15)]⟩⟩)
              · refine sx_if_eq X (by decide) (tgt := 96) dX6_refusalOf_88 (by decide) (fun _ => ?_) (fun h => absurd h (by decide))
                refine lv_iconst (v := nI 0) X.1.1 X.1.2.1 dX6_refusalOf_96 (by decide) ?_
                rw [hQ]
                exact sx_iret X rfl hs rfl hP dX6_refusalOf_97 (⟨rfl, Or.inr ⟨rfl, t, s, x, ht, hs8, hx, hxt, rfl, rfl, rfl, by omega, by rw [hgo]; unfold evG; rw [cif_f (fun q => q (hce.mp b11)), cif_f (by omega), cif_f (fun q => b15 (hmu.mpr q))]⟩⟩)
            · refine sx_if_ne X (by decide) (tgt := 79) dX6_refusalOf_73 (by decide) (fun h => absurd h (by decide)) (fun _ => ?_)
              refine lv_ldc (v := -1000000004) X.1.1 X.1.2.1 X.1.2.2.2.1 (X.1.2.2.2.2 _ lk_X6_refusalOf_constant_RX6_226_1000000004) dX6_refusalOf_76 ?_
              rw [hQ]
              exact sx_iret X rfl hs rfl hP dX6_refusalOf_78 (⟨rfl, Or.inl ⟨by decide, by rw [hgo]; unfold evG; rw [cif_f (fun q => q (hce.mp b11)), cif_t (by omega)]⟩⟩)
          · refine sx_if_ne X (by decide) (tgt := 62) dX6_refusalOf_56 (by decide) (fun h => absurd h (by decide)) (fun _ => ?_)
            refine lv_ldc (v := -1000000003) X.1.1 X.1.2.1 X.1.2.2.2.1 (X.1.2.2.2.2 _ lk_X6_refusalOf_constant_RX6_72_1000000003) dX6_refusalOf_59 ?_
            rw [hQ]
            exact sx_iret X rfl hs rfl hP dX6_refusalOf_61 (⟨rfl, Or.inl ⟨by decide, by rw [hgo]; unfold evG; rw [cif_t (fun q => b11 (hce.mpr q))]⟩⟩)
      · refine sx_if_eq X (by decide) (tgt := 43) dX6_refusalOf_31 (by decide) (fun _ => ?_) (fun h => absurd h (by decide))
        refine lv_ldc (v := -1000000001) X.1.1 X.1.2.1 X.1.2.2.2.1 (X.1.2.2.2.2 _ lk_X6_refusalOf_constant_RX6_67_1000000001) dX6_refusalOf_43 ?_
        rw [hQ]
        exact sx_iret X rfl hs rfl hP dX6_refusalOf_45 (⟨rfl, Or.inl ⟨by decide, evF_U2 ht hs8 (fun q => b7 (q.elim (fun j z => ⟨j, z.1, z.2.1⟩)))⟩⟩)
    · refine sx_if_ne X (by decide) (tgt := 23) dX6_refusalOf_17 (by decide) (fun h => absurd h (by decide)) (fun _ => ?_)
      refine lv_ldc (v := -1000000002) X.1.1 X.1.2.1 X.1.2.2.2.1 (X.1.2.2.2.2 _ lk_X6_refusalOf_constant_RX6_44_1000000002) dX6_refusalOf_20 ?_
      rw [hQ]
      exact sx_iret X rfl hs rfl hP dX6_refusalOf_22 (⟨rfl, Or.inl ⟨by decide, evF_O ht b4⟩⟩)
  · refine sx_if_ne X (by decide) (tgt := 11) dX6_refusalOf_5 (by decide) (fun h => absurd h (by decide)) (fun _ => ?_)
    refine lv_ldc (v := -1000000001) X.1.1 X.1.2.1 X.1.2.2.2.1 (X.1.2.2.2.2 _ lk_X6_refusalOf_constant_RX6_67_1000000001) dX6_refusalOf_8 ?_
    rw [hQ]
    exact sx_iret X rfl hs rfl hP dX6_refusalOf_10 (⟨rfl, Or.inl ⟨by decide, evF_U1 b2⟩⟩)
