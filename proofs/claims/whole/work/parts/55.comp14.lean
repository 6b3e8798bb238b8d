theorem setF4_congr {h g : Nat → Int32} {x : Int32} (e : ∀ j, j < 4 → h j = g j) : setF4 h x = setF4 g x := by
  unfold setF4
  rw [e 0 (by decide), e 1 (by decide), e 2 (by decide), e 3 (by decide)]
theorem lockF_congr {h g : Nat → Int32} (e : ∀ j, j < 3 → h j = g j) : lockF h = lockF g := by
  unfold lockF
  rw [e 0 (by decide), e 1 (by decide), e 2 (by decide)]
theorem ys_X6_clock : yX6_clock.cls ≠ "java/lang/invoke/MethodHandle" ∧ yX6_clock.cls ≠ "java/lang/invoke/VarHandle" ∧ (parseMethodDescriptor yX6_clock.desc).map (fun d => d.parameters.length) = some 3 := by decide +kernel
theorem yv_X6_clock : yX6_clock.cls = RX6 ∧ yX6_clock.cls ≠ "java/lang/invoke/MethodHandle" ∧ yX6_clock.cls ≠ "java/lang/invoke/VarHandle" ∧ (parseMethodDescriptor yX6_clock.desc).map (fun d => d.parameters.length) = some 3 := ⟨rfl, ys_X6_clock⟩
theorem in_X6_clock_X6 : ∀ w ∈ wsX60, w ∈ wsX6_clock := fun _ h => List.mem_cons_of_mem _ (List.mem_append_left _ (List.mem_append_left _ (List.mem_append_right _ (h))))
theorem lk_X6_clock_fieldLink_RX6_10_RaceWatch_world_LRaceWatch_World : (.fieldLink RX6 10 "RaceWatch" "world" "LRaceWatch$World;" : Cond) ∈ wsX6_clock := List.mem_cons_of_mem _ (List.mem_append_left _ (List.mem_append_left _ (List.mem_append_left _ (List.mem_of_getElem? (i := 2) rfl))))
theorem in_X6_clock_X5 : ∀ w ∈ wsX50, w ∈ wsX6_clock := fun _ h => List.mem_cons_of_mem _ (List.mem_append_left _ (List.mem_append_right _ (h)))
theorem lk_X6_clock_fieldLink_RX6_73_RaceWatch_World_ofThreads_LRaceWatch_Clocks : (.fieldLink RX6 73 "RaceWatch$World" "ofThreads" "LRaceWatch$Clocks;" : Cond) ∈ wsX6_clock := List.mem_cons_of_mem _ (List.mem_append_left _ (List.mem_append_left _ (List.mem_append_left _ (List.mem_of_getElem? (i := 3) rfl))))
theorem in_X6_clock_X1 : ∀ w ∈ wsX10, w ∈ wsX6_clock := fun _ h => List.mem_cons_of_mem _ (List.mem_append_right _ (h))
theorem lk_X6_clock_fieldLink_RX6_133_RaceWatch_Clocks_rows_I : (.fieldLink RX6 133 "RaceWatch$Clocks" "rows" "I" : Cond) ∈ wsX6_clock := List.mem_cons_of_mem _ (List.mem_append_left _ (List.mem_append_left _ (List.mem_append_left _ (List.mem_of_getElem? (i := 6) rfl))))
theorem lk_X6_clock_constant_RX6_67_1000000001 : (.constant RX6 67 (-1000000001) : Cond) ∈ wsX6_clock := List.mem_cons_of_mem _ (List.mem_append_left _ (List.mem_append_left _ (List.mem_append_left _ (List.mem_of_getElem? (i := 0) rfl))))
theorem lk_X6_clock_fieldLink_RX6_127_RaceWatch_World_ofLocks_LRaceWatch_Clocks : (.fieldLink RX6 127 "RaceWatch$World" "ofLocks" "LRaceWatch$Clocks;" : Cond) ∈ wsX6_clock := List.mem_cons_of_mem _ (List.mem_append_left _ (List.mem_append_left _ (List.mem_append_left _ (List.mem_of_getElem? (i := 4) rfl))))
theorem lk_X6_clock_fieldLink_RX6_130_RaceWatch_World_ofSeenCells_LRaceWatch_Clocks : (.fieldLink RX6 130 "RaceWatch$World" "ofSeenCells" "LRaceWatch$Clocks;" : Cond) ∈ wsX6_clock := List.mem_cons_of_mem _ (List.mem_append_left _ (List.mem_append_left _ (List.mem_append_left _ (List.mem_of_getElem? (i := 5) rfl))))
theorem lk_X6_clock_constant_RX6_44_1000000002 : (.constant RX6 44 (-1000000002) : Cond) ∈ wsX6_clock := List.mem_cons_of_mem _ (List.mem_append_left _ (List.mem_append_left _ (List.mem_append_left _ (List.mem_of_getElem? (i := 1) rfl))))
abbrev rmX6_clock : Room := { frames := 1, cells := 0, slots := 0, locals := 22 }
set_option maxHeartbeats 800000 in
set_option maxRecDepth 100000 in
theorem mX6_clock {G : sx_G} (l : Launch) {F : Nat → va_E} {w : Nat → Int32} {M : Nat} {o x xt : Int32}  (hW : WV G F w M 1) (hwf : WFw w M) (h0 : F (0) = ob 6 ([rf G 1, rf G 28, rf G 83, rf G 84])) : sx_I G l yX6_clock wsX6_clock rmX6_clock [rf G 0, .int (o), .int (x), .int (xt)] (97) F (97) (fun r F1 => F = F1 ∧ clockF w o x xt = r) := by
  refine sx_enter (cc := cX6_clock) (maxL := 5) (ret := some .int) (own := RX6) (nm := "clock") (by decide) rfl rfl rfl (Nat.le_of_ble_eq_true rfl) ?_
  intro pp ee ss mm args below meth kc ls Q hQ X hs hP hl
  have hl : lv_has ls 5 [(0, rf G 0), (1, .int (o)), (2, .int (x)), (3, .int (xt))] := hl
  obtain ⟨st, ho, ct, cl, cs, kr, r4, r6, r8, h1, h2, h3, h4, h5, h6, h7, h8, h9, h10, hkr, hRV, hKV, hLg, hRw⟩ := hW
  obtain ⟨th, so, wi, lo, lc, rb, rc, rr, h19, h20, h21, h22, h23, h24, h25, h26, h27, hLV, hRB, hRC⟩ := hLg
  obtain ⟨rfl, rfl, rfl⟩ := hRw
  have h1 : F 1 = ob 5 ([rf G 2, rf G 3, rf G 4, rf G 6, rf G 8, rf G 10, rf G 19]) := h1
  have h2 : F 2 = rI G (4) (st) := h2
  have h3 : F 3 = rI G (3) (ho) := h3
  have h4 : F 4 = ob 1 ([.int (nI 4), rf G 5]) := h4
  have h5 : F 5 = rI G (16) (ct) := h5
  have h6 : F 6 = ob 1 ([.int (nI 3), rf G 7]) := h6
  have h7 : F 7 = rI G (12) (cl) := h7
  have h8 : F 8 = ob 1 ([.int (nI 2), rf G 9]) := h8
  have h9 : F 9 = rI G (8) (cs) := h9
  have h10 : F 10 = rK G (4) (kr) := h10
  have h19 : F 19 = ob 3 ([.int (nI (M)), rf G 20, rf G 21, rf G 22, rf G 23, rf G 24, rf G 26, rf G 27]) := h19
  have h20 : F 20 = rI G (160) (th) := h20
  have h21 : F 21 = rI G (160) (so) := h21
  have h22 : F 22 = rI G (160) (wi) := h22
  have h23 : F 23 = rI G (160) (lo) := h23
  have h24 : F 24 = ob 1 ([rr, rf G 25]) := h24
  have h25 : F 25 = rI G (640) (lc) := h25
  have h26 : F 26 = rI G (160) (rb) := h26
  have h27 : F 27 = rI G (12) (rc) := h27
  refine lv_iload_n X.1.1 X.1.2.1 dX6_clock_0 rfl (lv_at hl 3 rfl) ?_
  refine lv_iconst (v := nI 4) X.1.1 X.1.2.1 dX6_clock_1 (by decide) ?_
  refine sx_csI (As := [.int (xt), .int (nI 4)]) (rest := []) X (mX6_isIn l (x := (xt)) (k := 4) (by omega)) gX6_clock_X6_isIn rfl ys_X6_isIn ⟨Nat.le_of_ble_eq_true rfl, Nat.le_of_ble_eq_true rfl⟩ hl.1 rfl (Nat.le_of_ble_eq_true rfl) dX6_clock_2 ⟨Nat.le_of_ble_eq_true rfl, Nat.le_of_ble_eq_true rfl⟩ hs rfl hP (fun r1 F1 H1 l1 hp hP => ?_)
  obtain ⟨rfl, ⟨b2, rfl⟩ | ⟨b2, rfl⟩⟩ := hp
  · obtain ⟨t, ht, rfl⟩ := b2
    refine sx_if_ne X (by decide) (tgt := 11) dX6_clock_5 (by decide) (fun _ => ?_) (fun h => absurd h (by decide))
    refine lv_iload_n X.1.1 X.1.2.1 dX6_clock_11 rfl (lv_at hl 1 rfl) ?_
    refine lv_iconst (v := nI 3) X.1.1 X.1.2.1 dX6_clock_12 (by decide) ?_
    refine sx_csI (As := [.int (o), .int (nI 3)]) (rest := []) X (mX6_isIn l (x := (o)) (k := 3) (by omega)) gX6_clock_X6_isIn rfl ys_X6_isIn ⟨Nat.le_of_ble_eq_true rfl, Nat.le_of_ble_eq_true rfl⟩ hl.1 rfl (Nat.le_of_ble_eq_true rfl) dX6_clock_13 ⟨Nat.le_of_ble_eq_true rfl, Nat.le_of_ble_eq_true rfl⟩ hs rfl hP (fun r3 F3 H3 l3 hp hP => ?_)
    obtain ⟨rfl, ⟨b4, rfl⟩ | ⟨b4, rfl⟩⟩ := hp
    · obtain ⟨u, hu, rfl⟩ := b4
      rcases (show u = 0 ∨ u = 1 ∨ u = 2 by omega) with rfl | rfl | rfl
      · refine sx_if_ne X (by decide) (tgt := 22) dX6_clock_16 (by decide) (fun _ => ?_) (fun h => absurd h (by decide))
        refine lv_iload_n X.1.1 X.1.2.1 dX6_clock_22 rfl (lv_at hl 1 rfl) ?_
        refine sx_if_ne X (by decide) (tgt := 36) dX6_clock_23 (by decide) (fun h => absurd h (by decide)) (fun _ => ?_)
        refine lv_aload_n X.1.1 X.1.2.1 dX6_clock_26 rfl (lv_at hl 0 rfl) ?_
        refine sx_get X hP in_X6_clock_X6 h0 (by decide) rfl 0 (by decide) lk_X6_clock_fieldLink_RX6_10_RaceWatch_world_LRaceWatch_World rfl dX6_clock_27 ?_
        refine sx_get X hP in_X6_clock_X5 h1 (by decide) rfl 2 (by decide) lk_X6_clock_fieldLink_RX6_73_RaceWatch_World_ofThreads_LRaceWatch_Clocks rfl dX6_clock_30 ?_
        refine lv_goto (tgt := 58) X.1.1 X.1.2.1 dX6_clock_33 (by decide) ?_
        refine lv_astore (lv' := [(4, rf G 4), (0, rf G 0), (1, .int (nI 0)), (2, .int (x)), (3, .int (nI (t)))]) X.1.1 X.1.2.1 dX6_clock_58 hl (by decide) rfl (fun ls hl => ?_)
        refine lv_iload_n X.1.1 X.1.2.1 dX6_clock_60 rfl (lv_at hl 3 rfl) ?_
        refine lv_aload X.1.1 X.1.2.1 dX6_clock_61 (lv_at hl 0 rfl) ?_
        refine sx_get X hP in_X6_clock_X1 h4 (by decide) rfl 0 (by decide) lk_X6_clock_fieldLink_RX6_133_RaceWatch_Clocks_rows_I rfl dX6_clock_63 ?_
        refine sx_csI (As := [.int (x), .int (nI 4)]) (rest := []) X (mX6_isIn l (x := (x)) (k := 4) (by omega)) gX6_clock_X6_isIn rfl ys_X6_isIn ⟨Nat.le_of_ble_eq_true rfl, Nat.le_of_ble_eq_true rfl⟩ hl.1 rfl (Nat.le_of_ble_eq_true rfl) dX6_clock_66 ⟨Nat.le_of_ble_eq_true rfl, Nat.le_of_ble_eq_true rfl⟩ hs rfl hP (fun r5 F5 H5 l5 hp hP => ?_)
        obtain ⟨rfl, ⟨b6, rfl⟩ | ⟨b6, rfl⟩⟩ := hp
        · obtain ⟨j, hj, rfl⟩ := b6
          refine sx_if_eq X (by decide) (tgt := 82) dX6_clock_69 (by decide) (fun h => absurd h (by decide)) (fun _ => ?_)
          refine lv_aload X.1.1 X.1.2.1 dX6_clock_72 (lv_at hl 0 rfl) ?_
          refine lv_iload_n X.1.1 X.1.2.1 dX6_clock_74 rfl (lv_at hl 3 rfl) ?_
          refine lv_iload_n X.1.1 X.1.2.1 dX6_clock_75 rfl (lv_at hl 4 rfl) ?_
          refine sx_cvI (As := [.int (nI (j)), .int (nI (t))]) (rest := []) X (mX1_number l (ci := 4) (cj := 5) (L := 16) (row := j) (t := t) (by decide) (by decide) (by decide) (by decide) (by omega) h4 h5) gX6_clock_X1_number rfl yv_X1_number ⟨Nat.le_of_ble_eq_true rfl, Nat.le_of_ble_eq_true rfl⟩ h4 (by decide) rfl rfl hl.1 rfl (Nat.le_of_ble_eq_true rfl) dX6_clock_76 ⟨Nat.le_of_ble_eq_true rfl, Nat.le_of_ble_eq_true rfl⟩ hs rfl hP (fun r7 F7 H7 l7 hp hP => ?_)
          obtain ⟨rfl, rfl⟩ := hp
          refine lv_goto (tgt := 84) X.1.1 X.1.2.1 dX6_clock_79 (by decide) ?_
          rw [hQ]
          exact sx_iret X rfl hs rfl hP dX6_clock_84 (⟨rfl, by unfold clockF; rw [cif_f (fun q => q ⟨t, ht, rfl⟩), nI_clamp (n := t) (by omega), if_pos rfl, cif_t ⟨j, hj, rfl⟩, nI_clamp (n := j) (by omega)]; exact (congrArg w (by omega)).trans (hRV.2.2.1 _ (by omega)).symm⟩)
        · refine sx_if_eq X (by decide) (tgt := 82) dX6_clock_69 (by decide) (fun _ => ?_) (fun h => absurd h (by decide))
          refine lv_ldc (v := -1000000001) X.1.1 X.1.2.1 X.1.2.2.2.1 (X.1.2.2.2.2 _ lk_X6_clock_constant_RX6_67_1000000001) dX6_clock_82 ?_
          rw [hQ]
          exact sx_iret X rfl hs rfl hP dX6_clock_84 (⟨rfl, by unfold clockF; rw [cif_f (fun q => q ⟨t, ht, rfl⟩), nI_clamp (n := t) (by omega), if_pos rfl, cif_f b6]⟩)
      · refine sx_if_ne X (by decide) (tgt := 22) dX6_clock_16 (by decide) (fun _ => ?_) (fun h => absurd h (by decide))
        refine lv_iload_n X.1.1 X.1.2.1 dX6_clock_22 rfl (lv_at hl 1 rfl) ?_
        refine sx_if_ne X (by decide) (tgt := 36) dX6_clock_23 (by decide) (fun _ => ?_) (fun h => absurd h (by decide))
        refine lv_iload_n X.1.1 X.1.2.1 dX6_clock_36 rfl (lv_at hl 1 rfl) ?_
        refine lv_iconst (v := nI 1) X.1.1 X.1.2.1 dX6_clock_37 (by decide) ?_
        refine sx_icmp_ne X (by decide) (by decide) (tgt := 51) dX6_clock_38 (by decide) (fun h => absurd h (by decide)) (fun _ => ?_)
        refine lv_aload_n X.1.1 X.1.2.1 dX6_clock_41 rfl (lv_at hl 0 rfl) ?_
        refine sx_get X hP in_X6_clock_X6 h0 (by decide) rfl 0 (by decide) lk_X6_clock_fieldLink_RX6_10_RaceWatch_world_LRaceWatch_World rfl dX6_clock_42 ?_
        refine sx_get X hP in_X6_clock_X5 h1 (by decide) rfl 3 (by decide) lk_X6_clock_fieldLink_RX6_127_RaceWatch_World_ofLocks_LRaceWatch_Clocks rfl dX6_clock_45 ?_
        refine lv_goto (tgt := 58) X.1.1 X.1.2.1 dX6_clock_48 (by decide) ?_
        refine lv_astore (lv' := [(4, rf G 6), (0, rf G 0), (1, .int (nI 1)), (2, .int (x)), (3, .int (nI (t)))]) X.1.1 X.1.2.1 dX6_clock_58 hl (by decide) rfl (fun ls hl => ?_)
        refine lv_iload_n X.1.1 X.1.2.1 dX6_clock_60 rfl (lv_at hl 3 rfl) ?_
        refine lv_aload X.1.1 X.1.2.1 dX6_clock_61 (lv_at hl 0 rfl) ?_
        refine sx_get X hP in_X6_clock_X1 h6 (by decide) rfl 0 (by decide) lk_X6_clock_fieldLink_RX6_133_RaceWatch_Clocks_rows_I rfl dX6_clock_63 ?_
        refine sx_csI (As := [.int (x), .int (nI 3)]) (rest := []) X (mX6_isIn l (x := (x)) (k := 3) (by omega)) gX6_clock_X6_isIn rfl ys_X6_isIn ⟨Nat.le_of_ble_eq_true rfl, Nat.le_of_ble_eq_true rfl⟩ hl.1 rfl (Nat.le_of_ble_eq_true rfl) dX6_clock_66 ⟨Nat.le_of_ble_eq_true rfl, Nat.le_of_ble_eq_true rfl⟩ hs rfl hP (fun r8 F8 H8 l8 hp hP => ?_)
        obtain ⟨rfl, ⟨b9, rfl⟩ | ⟨b9, rfl⟩⟩ := hp
        · obtain ⟨j, hj, rfl⟩ := b9
          refine sx_if_eq X (by decide) (tgt := 82) dX6_clock_69 (by decide) (fun h => absurd h (by decide)) (fun _ => ?_)
          refine lv_aload X.1.1 X.1.2.1 dX6_clock_72 (lv_at hl 0 rfl) ?_
          refine lv_iload_n X.1.1 X.1.2.1 dX6_clock_74 rfl (lv_at hl 3 rfl) ?_
          refine lv_iload_n X.1.1 X.1.2.1 dX6_clock_75 rfl (lv_at hl 4 rfl) ?_
          refine sx_cvI (As := [.int (nI (j)), .int (nI (t))]) (rest := []) X (mX1_number l (ci := 6) (cj := 7) (L := 12) (row := j) (t := t) (by decide) (by decide) (by decide) (by decide) (by omega) h6 h7) gX6_clock_X1_number rfl yv_X1_number ⟨Nat.le_of_ble_eq_true rfl, Nat.le_of_ble_eq_true rfl⟩ h6 (by decide) rfl rfl hl.1 rfl (Nat.le_of_ble_eq_true rfl) dX6_clock_76 ⟨Nat.le_of_ble_eq_true rfl, Nat.le_of_ble_eq_true rfl⟩ hs rfl hP (fun r10 F10 H10 l10 hp hP => ?_)
          obtain ⟨rfl, rfl⟩ := hp
          refine lv_goto (tgt := 84) X.1.1 X.1.2.1 dX6_clock_79 (by decide) ?_
          rw [hQ]
          exact sx_iret X rfl hs rfl hP dX6_clock_84 (⟨rfl, by unfold clockF; rw [cif_f (fun q => q ⟨t, ht, rfl⟩), nI_clamp (n := t) (by omega), if_neg (by decide), if_pos rfl, cif_t ⟨j, hj, rfl⟩, nI_clamp (n := j) (by omega)]; exact (congrArg w (by omega)).trans (hRV.2.2.2.1 _ (by omega)).symm⟩)
        · refine sx_if_eq X (by decide) (tgt := 82) dX6_clock_69 (by decide) (fun _ => ?_) (fun h => absurd h (by decide))
          refine lv_ldc (v := -1000000001) X.1.1 X.1.2.1 X.1.2.2.2.1 (X.1.2.2.2.2 _ lk_X6_clock_constant_RX6_67_1000000001) dX6_clock_82 ?_
          rw [hQ]
          exact sx_iret X rfl hs rfl hP dX6_clock_84 (⟨rfl, by unfold clockF; rw [cif_f (fun q => q ⟨t, ht, rfl⟩), nI_clamp (n := t) (by omega), if_neg (by decide), if_pos rfl, cif_f b9]⟩)
      · refine sx_if_ne X (by decide) (tgt := 22) dX6_clock_16 (by decide) (fun _ => ?_) (fun h => absurd h (by decide))
        refine lv_iload_n X.1.1 X.1.2.1 dX6_clock_22 rfl (lv_at hl 1 rfl) ?_
        refine sx_if_ne X (by decide) (tgt := 36) dX6_clock_23 (by decide) (fun _ => ?_) (fun h => absurd h (by decide))
        refine lv_iload_n X.1.1 X.1.2.1 dX6_clock_36 rfl (lv_at hl 1 rfl) ?_
        refine lv_iconst (v := nI 1) X.1.1 X.1.2.1 dX6_clock_37 (by decide) ?_
        refine sx_icmp_ne X (by decide) (by decide) (tgt := 51) dX6_clock_38 (by decide) (fun _ => ?_) (fun h => absurd h (by decide))
        refine lv_aload_n X.1.1 X.1.2.1 dX6_clock_51 rfl (lv_at hl 0 rfl) ?_
        refine sx_get X hP in_X6_clock_X6 h0 (by decide) rfl 0 (by decide) lk_X6_clock_fieldLink_RX6_10_RaceWatch_world_LRaceWatch_World rfl dX6_clock_52 ?_
        refine sx_get X hP in_X6_clock_X5 h1 (by decide) rfl 4 (by decide) lk_X6_clock_fieldLink_RX6_130_RaceWatch_World_ofSeenCells_LRaceWatch_Clocks rfl dX6_clock_55 ?_
        refine lv_astore (lv' := [(4, rf G 8), (0, rf G 0), (1, .int (nI 2)), (2, .int (x)), (3, .int (nI (t)))]) X.1.1 X.1.2.1 dX6_clock_58 hl (by decide) rfl (fun ls hl => ?_)
        refine lv_iload_n X.1.1 X.1.2.1 dX6_clock_60 rfl (lv_at hl 3 rfl) ?_
        refine lv_aload X.1.1 X.1.2.1 dX6_clock_61 (lv_at hl 0 rfl) ?_
        refine sx_get X hP in_X6_clock_X1 h8 (by decide) rfl 0 (by decide) lk_X6_clock_fieldLink_RX6_133_RaceWatch_Clocks_rows_I rfl dX6_clock_63 ?_
        refine sx_csI (As := [.int (x), .int (nI 2)]) (rest := []) X (mX6_isIn l (x := (x)) (k := 2) (by omega)) gX6_clock_X6_isIn rfl ys_X6_isIn ⟨Nat.le_of_ble_eq_true rfl, Nat.le_of_ble_eq_true rfl⟩ hl.1 rfl (Nat.le_of_ble_eq_true rfl) dX6_clock_66 ⟨Nat.le_of_ble_eq_true rfl, Nat.le_of_ble_eq_true rfl⟩ hs rfl hP (fun r11 F11 H11 l11 hp hP => ?_)
        obtain ⟨rfl, ⟨b12, rfl⟩ | ⟨b12, rfl⟩⟩ := hp
        · obtain ⟨j, hj, rfl⟩ := b12
          refine sx_if_eq X (by decide) (tgt := 82) dX6_clock_69 (by decide) (fun h => absurd h (by decide)) (fun _ => ?_)
          refine lv_aload X.1.1 X.1.2.1 dX6_clock_72 (lv_at hl 0 rfl) ?_
          refine lv_iload_n X.1.1 X.1.2.1 dX6_clock_74 rfl (lv_at hl 3 rfl) ?_
          refine lv_iload_n X.1.1 X.1.2.1 dX6_clock_75 rfl (lv_at hl 4 rfl) ?_
          refine sx_cvI (As := [.int (nI (j)), .int (nI (t))]) (rest := []) X (mX1_number l (ci := 8) (cj := 9) (L := 8) (row := j) (t := t) (by decide) (by decide) (by decide) (by decide) (by omega) h8 h9) gX6_clock_X1_number rfl yv_X1_number ⟨Nat.le_of_ble_eq_true rfl, Nat.le_of_ble_eq_true rfl⟩ h8 (by decide) rfl rfl hl.1 rfl (Nat.le_of_ble_eq_true rfl) dX6_clock_76 ⟨Nat.le_of_ble_eq_true rfl, Nat.le_of_ble_eq_true rfl⟩ hs rfl hP (fun r13 F13 H13 l13 hp hP => ?_)
          obtain ⟨rfl, rfl⟩ := hp
          refine lv_goto (tgt := 84) X.1.1 X.1.2.1 dX6_clock_79 (by decide) ?_
          rw [hQ]
          exact sx_iret X rfl hs rfl hP dX6_clock_84 (⟨rfl, by unfold clockF; rw [cif_f (fun q => q ⟨t, ht, rfl⟩), nI_clamp (n := t) (by omega), if_neg (by decide), if_neg (by decide), if_pos rfl, cif_t ⟨j, hj, rfl⟩, nI_clamp (n := j) (by omega)]; exact (congrArg w (by omega)).trans (hRV.2.2.2.2 _ (by omega)).symm⟩)
        · refine sx_if_eq X (by decide) (tgt := 82) dX6_clock_69 (by decide) (fun _ => ?_) (fun h => absurd h (by decide))
          refine lv_ldc (v := -1000000001) X.1.1 X.1.2.1 X.1.2.2.2.1 (X.1.2.2.2.2 _ lk_X6_clock_constant_RX6_67_1000000001) dX6_clock_82 ?_
          rw [hQ]
          exact sx_iret X rfl hs rfl hP dX6_clock_84 (⟨rfl, by unfold clockF; rw [cif_f (fun q => q ⟨t, ht, rfl⟩), nI_clamp (n := t) (by omega), if_neg (by decide), if_neg (by decide), if_pos rfl, cif_f b12]⟩)
    · refine sx_if_ne X (by decide) (tgt := 22) dX6_clock_16 (by decide) (fun h => absurd h (by decide)) (fun _ => ?_)
      refine lv_ldc (v := -1000000002) X.1.1 X.1.2.1 X.1.2.2.2.1 (X.1.2.2.2.2 _ lk_X6_clock_constant_RX6_44_1000000002) dX6_clock_19 ?_
      rw [hQ]
      exact sx_iret X rfl hs rfl hP dX6_clock_21 (⟨rfl, by unfold clockF; rw [cif_f (fun q => q ⟨t, ht, rfl⟩), nI_clamp (n := t) (by omega), if_neg (fun q => b4 ⟨0, by decide, q⟩), if_neg (fun q => b4 ⟨1, by decide, q⟩), if_neg (fun q => b4 ⟨2, by decide, q⟩)]⟩)
  · refine sx_if_ne X (by decide) (tgt := 11) dX6_clock_5 (by decide) (fun h => absurd h (by decide)) (fun _ => ?_)
    refine lv_ldc (v := -1000000001) X.1.1 X.1.2.1 X.1.2.2.2.1 (X.1.2.2.2.2 _ lk_X6_clock_constant_RX6_67_1000000001) dX6_clock_8 ?_
    rw [hQ]
    exact sx_iret X rfl hs rfl hP dX6_clock_10 (⟨rfl, by unfold clockF; rw [cif_t b2]⟩)
theorem ys_X6_told : yX6_told.cls ≠ "java/lang/invoke/MethodHandle" ∧ yX6_told.cls ≠ "java/lang/invoke/VarHandle" ∧ (parseMethodDescriptor yX6_told.desc).map (fun d => d.parameters.length) = some 1 := by decide +kernel
theorem yv_X6_told : yX6_told.cls = RX6 ∧ yX6_told.cls ≠ "java/lang/invoke/MethodHandle" ∧ yX6_told.cls ≠ "java/lang/invoke/VarHandle" ∧ (parseMethodDescriptor yX6_told.desc).map (fun d => d.parameters.length) = some 1 := ⟨rfl, ys_X6_told⟩
theorem in_X6_told_X6 : ∀ w ∈ wsX60, w ∈ wsX6_told := fun _ h => List.mem_cons_of_mem _ (List.mem_append_left _ (List.mem_append_left _ (List.mem_append_left _ (List.mem_append_left _ (List.mem_append_left _ (List.mem_append_right _ (h)))))))
theorem lk_X6_told_fieldLink_RX6_10_RaceWatch_world_LRaceWatch_World : (.fieldLink RX6 10 "RaceWatch" "world" "LRaceWatch$World;" : Cond) ∈ wsX6_told := List.mem_cons_of_mem _ (List.mem_append_left _ (List.mem_append_left _ (List.mem_append_left _ (List.mem_append_left _ (List.mem_append_left _ (List.mem_append_left _ (List.mem_append_left _ (List.mem_of_getElem? (i := 0) rfl))))))))
theorem in_X6_told_X5 : ∀ w ∈ wsX50, w ∈ wsX6_told := fun _ h => List.mem_cons_of_mem _ (List.mem_append_left _ (List.mem_append_left _ (List.mem_append_left _ (List.mem_append_left _ (List.mem_append_right _ (h))))))
theorem lk_X6_told_fieldLink_RX6_31_RaceWatch_World_log_LRaceWatch_Log : (.fieldLink RX6 31 "RaceWatch$World" "log" "LRaceWatch$Log;" : Cond) ∈ wsX6_told := List.mem_cons_of_mem _ (List.mem_append_left _ (List.mem_append_left _ (List.mem_append_left _ (List.mem_append_left _ (List.mem_append_left _ (List.mem_append_left _ (List.mem_append_left _ (List.mem_of_getElem? (i := 1) rfl))))))))
theorem in_X6_told_X3 : ∀ w ∈ wsX30, w ∈ wsX6_told := fun _ h => List.mem_cons_of_mem _ (List.mem_append_left _ (List.mem_append_left _ (List.mem_append_left _ (List.mem_append_right _ (h)))))
theorem lk_X6_told_fieldLink_RX6_35_RaceWatch_Log_count_I : (.fieldLink RX6 35 "RaceWatch$Log" "count" "I" : Cond) ∈ wsX6_told := List.mem_cons_of_mem _ (List.mem_append_left _ (List.mem_append_left _ (List.mem_append_left _ (List.mem_append_left _ (List.mem_append_left _ (List.mem_append_left _ (List.mem_append_left _ (List.mem_of_getElem? (i := 2) rfl))))))))
theorem lk_X6_told_fieldLink_RX6_27_RaceWatch_telling_LRaceWatch_Telling : (.fieldLink RX6 27 "RaceWatch" "telling" "LRaceWatch$Telling;" : Cond) ∈ wsX6_told := List.mem_cons_of_mem _ (List.mem_append_left _ (List.mem_append_left _ (List.mem_append_left _ (List.mem_append_left _ (List.mem_append_left _ (List.mem_append_left _ (List.mem_append_left _ (List.mem_of_getElem? (i := 3) rfl))))))))
theorem in_X6_told_X4 : ∀ w ∈ wsX40, w ∈ wsX6_told := fun _ h => List.mem_cons_of_mem _ (List.mem_append_left _ (List.mem_append_left _ (List.mem_append_right _ (h))))
theorem lk_X6_told_fieldLink_RX6_114_RaceWatch_Telling_length_I : (.fieldLink RX6 114 "RaceWatch$Telling" "length" "I" : Cond) ∈ wsX6_told := List.mem_cons_of_mem _ (List.mem_append_left _ (List.mem_append_left _ (List.mem_append_left _ (List.mem_append_left _ (List.mem_append_left _ (List.mem_append_left _ (List.mem_append_left _ (List.mem_of_getElem? (i := 4) rfl))))))))
theorem lk_X6_told_fieldLink_RX6_117_RaceWatch_Telling_book_LRaceWatch_Book : (.fieldLink RX6 117 "RaceWatch$Telling" "book" "LRaceWatch$Book;" : Cond) ∈ wsX6_told := List.mem_cons_of_mem _ (List.mem_append_left _ (List.mem_append_left _ (List.mem_append_left _ (List.mem_append_left _ (List.mem_append_left _ (List.mem_append_left _ (List.mem_append_left _ (List.mem_of_getElem? (i := 5) rfl))))))))
theorem in_X6_told_X0 : ∀ w ∈ wsX00, w ∈ wsX6_told := fun _ h => List.mem_cons_of_mem _ (List.mem_append_left _ (List.mem_append_right _ (h)))
theorem lk_X6_told_fieldLink_RX6_121_RaceWatch_Book_count_I : (.fieldLink RX6 121 "RaceWatch$Book" "count" "I" : Cond) ∈ wsX6_told := List.mem_cons_of_mem _ (List.mem_append_left _ (List.mem_append_left _ (List.mem_append_left _ (List.mem_append_left _ (List.mem_append_left _ (List.mem_append_left _ (List.mem_append_left _ (List.mem_of_getElem? (i := 6) rfl))))))))
theorem lk_X6_told_constant_RX6_44_1000000002 : (.constant RX6 44 (-1000000002) : Cond) ∈ wsX6_told := List.mem_cons_of_mem _ (List.mem_append_left _ (List.mem_append_left _ (List.mem_append_left _ (List.mem_append_left _ (List.mem_append_left _ (List.mem_append_left _ (List.mem_append_left _ (List.mem_of_getElem? (i := 7) rfl))))))))
abbrev rmX6_told : Room := { frames := 2, cells := 0, slots := 0, locals := 45 }
set_option maxHeartbeats 800000 in
set_option maxRecDepth 100000 in
theorem mX6_told {G : sx_G} (l : Launch) {F : Nat → va_E} {w : Nat → Int32} {M : Nat} {o en : Int32} {q1 q3 q4 q5 q6 q7 q8 q9 qa b1 b2 : Value}  (hW : WV G F w M 1) (hwf : WFw w M) (hho : ∀ k, k < 3 → w (40 + k) = -1 ∨ ∃ t, t < 4 ∧ w (40 + k) = nI t) (h0 : F (0) = ob 6 ([rf G 1, rf G 28, rf G 83, rf G 84])) (h84 : F (84) = ob 4 ([.int (w 1372), q1, rf G 85, q3, q4, q5, q6, q7, q8, q9, qa])) (h85 : F (85) = ob 0 ([.int (en), b1, b2])) : sx_I G l yX6_told wsX6_told rmX6_told [rf G 0, .int (o)] (97) F (97) (fun r F1 => F = F1 ∧ toldF w M en o = r) := by
  refine sx_enter (cc := cX6_told) (maxL := 2) (ret := some .int) (own := RX6) (nm := "told") (by decide) rfl rfl rfl (Nat.le_of_ble_eq_true rfl) ?_
  intro pp ee ss mm args below meth kc ls Q hQ X hs hP hl
  have hl : lv_has ls 2 [(0, rf G 0), (1, .int (o))] := hl
  obtain ⟨st, ho, ct, cl, cs, kr, r4, r6, r8, h1, h2, h3, h4, h5, h6, h7, h8, h9, h10, hkr, hRV, hKV, hLg, hRw⟩ := hW
  obtain ⟨th, so, wi, lo, lc, rb, rc, rr, h19, h20, h21, h22, h23, h24, h25, h26, h27, hLV, hRB, hRC⟩ := hLg
  have h1 : F 1 = ob 5 ([rf G 2, rf G 3, rf G 4, rf G 6, rf G 8, rf G 10, rf G 19]) := h1
  have h2 : F 2 = rI G (4) (st) := h2
  have h3 : F 3 = rI G (3) (ho) := h3
  have h4 : F 4 = ob 1 ([r4, rf G 5]) := h4
  have h5 : F 5 = rI G (16) (ct) := h5
  have h6 : F 6 = ob 1 ([r6, rf G 7]) := h6
  have h7 : F 7 = rI G (12) (cl) := h7
  have h8 : F 8 = ob 1 ([r8, rf G 9]) := h8
  have h9 : F 9 = rI G (8) (cs) := h9
  have h10 : F 10 = rK G (4) (kr) := h10
  have h19 : F 19 = ob 3 ([.int (nI (M)), rf G 20, rf G 21, rf G 22, rf G 23, rf G 24, rf G 26, rf G 27]) := h19
  have h20 : F 20 = rI G (160) (th) := h20
  have h21 : F 21 = rI G (160) (so) := h21
  have h22 : F 22 = rI G (160) (wi) := h22
  have h23 : F 23 = rI G (160) (lo) := h23
  have h24 : F 24 = ob 1 ([rr, rf G 25]) := h24
  have h25 : F 25 = rI G (640) (lc) := h25
  have h26 : F 26 = rI G (160) (rb) := h26
  have h27 : F 27 = rI G (12) (rc) := h27
  have hkr : ∀ j, j < 4 → kr j = some (sx_b G + (11 + 2 * j)) := hkr
  have hM := hwf.2.1
  have hok := hwf.2.2.1
  refine lv_iload_n X.1.1 X.1.2.1 dX6_told_0 rfl (lv_at hl 1 rfl) ?_
  by_cases ho9 : inR o 9
  · obtain ⟨jo, hjo, rfl⟩ := ho9
    rcases (show jo = 0 ∨ jo = 1 ∨ jo = 2 ∨ jo = 3 ∨ jo = 4 ∨ jo = 5 ∨ jo = 6 ∨ jo = 7 ∨ jo = 8 by omega) with rfl | rfl | rfl | rfl | rfl | rfl | rfl | rfl | rfl
    · refine lv_tableIn (off := 51) (tgt := 52) X.1.1 X.1.2.1 dX6_told_1 (by decide) (by decide) (by decide) (by decide) ?_
      refine lv_aload_n X.1.1 X.1.2.1 dX6_told_52 rfl (lv_at hl 0 rfl) ?_
      refine sx_get X hP in_X6_told_X6 h0 (by decide) rfl 0 (by decide) lk_X6_told_fieldLink_RX6_10_RaceWatch_world_LRaceWatch_World rfl dX6_told_53 ?_
      refine sx_get X hP in_X6_told_X5 h1 (by decide) rfl 6 (by decide) lk_X6_told_fieldLink_RX6_31_RaceWatch_World_log_LRaceWatch_Log rfl dX6_told_56 ?_
      refine sx_get X hP in_X6_told_X3 h19 (by decide) rfl 0 (by decide) lk_X6_told_fieldLink_RX6_35_RaceWatch_Log_count_I rfl dX6_told_59 ?_
      rw [hQ]
      exact sx_iret X rfl hs rfl hP dX6_told_62 (⟨rfl, by unfold toldF; rw [cif_f (fun q => q ⟨0, by decide, rfl⟩), nI_clamp (by decide)]; rfl⟩)
    · refine lv_tableIn (off := 62) (tgt := 63) X.1.1 X.1.2.1 dX6_told_1 (by decide) (by decide) (by decide) (by decide) ?_
      refine lv_aload_n X.1.1 X.1.2.1 dX6_told_63 rfl (lv_at hl 0 rfl) ?_
      refine sx_get X hP in_X6_told_X6 h0 (by decide) rfl 0 (by decide) lk_X6_told_fieldLink_RX6_10_RaceWatch_world_LRaceWatch_World rfl dX6_told_64 ?_
      refine lv_iconst (v := nI 1) X.1.1 X.1.2.1 dX6_told_67 (by decide) ?_
      refine sx_cvI (As := [.int (nI 1)]) (rest := []) X (mX5_threadsThat l (x := (nI (1))) h1 h2) gX6_told_X5_threadsThat rfl yv_X5_threadsThat ⟨Nat.le_of_ble_eq_true rfl, Nat.le_of_ble_eq_true rfl⟩ h1 (by decide) rfl rfl hl.1 rfl (Nat.le_of_ble_eq_true rfl) dX6_told_68 ⟨Nat.le_of_ble_eq_true rfl, Nat.le_of_ble_eq_true rfl⟩ hs rfl hP (fun r1 F1 H1 l1 hp hP => ?_)
      obtain ⟨rfl, rfl⟩ := hp
      rw [hQ]
      exact sx_iret X rfl hs rfl hP dX6_told_71 (⟨rfl, by unfold toldF; rw [cif_f (fun q => q ⟨1, by decide, rfl⟩), nI_clamp (by decide)]; exact (setF4_congr hRV.1).symm⟩)
    · refine lv_tableIn (off := 71) (tgt := 72) X.1.1 X.1.2.1 dX6_told_1 (by decide) (by decide) (by decide) (by decide) ?_
      refine lv_aload_n X.1.1 X.1.2.1 dX6_told_72 rfl (lv_at hl 0 rfl) ?_
      refine sx_get X hP in_X6_told_X6 h0 (by decide) rfl 0 (by decide) lk_X6_told_fieldLink_RX6_10_RaceWatch_world_LRaceWatch_World rfl dX6_told_73 ?_
      refine lv_iconst (v := nI 2) X.1.1 X.1.2.1 dX6_told_76 (by decide) ?_
      refine sx_cvI (As := [.int (nI 2)]) (rest := []) X (mX5_threadsThat l (x := (nI (2))) h1 h2) gX6_told_X5_threadsThat rfl yv_X5_threadsThat ⟨Nat.le_of_ble_eq_true rfl, Nat.le_of_ble_eq_true rfl⟩ h1 (by decide) rfl rfl hl.1 rfl (Nat.le_of_ble_eq_true rfl) dX6_told_77 ⟨Nat.le_of_ble_eq_true rfl, Nat.le_of_ble_eq_true rfl⟩ hs rfl hP (fun r2 F2 H2 l2 hp hP => ?_)
      obtain ⟨rfl, rfl⟩ := hp
      rw [hQ]
      exact sx_iret X rfl hs rfl hP dX6_told_80 (⟨rfl, by unfold toldF; rw [cif_f (fun q => q ⟨2, by decide, rfl⟩), nI_clamp (by decide)]; exact (setF4_congr hRV.1).symm⟩)
    · refine lv_tableIn (off := 80) (tgt := 81) X.1.1 X.1.2.1 dX6_told_1 (by decide) (by decide) (by decide) (by decide) ?_
      refine lv_aload_n X.1.1 X.1.2.1 dX6_told_81 rfl (lv_at hl 0 rfl) ?_
      refine sx_get X hP in_X6_told_X6 h0 (by decide) rfl 0 (by decide) lk_X6_told_fieldLink_RX6_10_RaceWatch_world_LRaceWatch_World rfl dX6_told_82 ?_
      refine sx_cvI (As := []) (rest := []) X (mX5_heldLocks l (fun k hk => by rw [hRV.2.1 k hk]; exact hho k hk) h1 h3) gX6_told_X5_heldLocks rfl yv_X5_heldLocks ⟨Nat.le_of_ble_eq_true rfl, Nat.le_of_ble_eq_true rfl⟩ h1 (by decide) rfl rfl hl.1 rfl (Nat.le_of_ble_eq_true rfl) dX6_told_85 ⟨Nat.le_of_ble_eq_true rfl, Nat.le_of_ble_eq_true rfl⟩ hs rfl hP (fun r3 F3 H3 l3 hp hP => ?_)
      obtain ⟨rfl, rfl⟩ := hp
      rw [hQ]
      exact sx_iret X rfl hs rfl hP dX6_told_88 (⟨rfl, by unfold toldF; rw [cif_f (fun q => q ⟨3, by decide, rfl⟩), nI_clamp (by decide)]; exact (lockF_congr hRV.2.1).symm⟩)
    · refine lv_tableIn (off := 88) (tgt := 89) X.1.1 X.1.2.1 dX6_told_1 (by decide) (by decide) (by decide) (by decide) ?_
      refine lv_aload_n X.1.1 X.1.2.1 dX6_told_89 rfl (lv_at hl 0 rfl) ?_
      refine sx_get X hP in_X6_told_X6 h0 (by decide) rfl 0 (by decide) lk_X6_told_fieldLink_RX6_10_RaceWatch_world_LRaceWatch_World rfl dX6_told_90 ?_
      refine sx_get X hP in_X6_told_X5 h1 (by decide) rfl 6 (by decide) lk_X6_told_fieldLink_RX6_31_RaceWatch_World_log_LRaceWatch_Log rfl dX6_told_93 ?_
      refine sx_cvI (As := []) (rest := []) X (mX3_cellsWithRace l (v := w) hM hRC h19 h27) gX6_told_X3_cellsWithRace rfl yv_X3_cellsWithRace ⟨Nat.le_of_ble_eq_true rfl, Nat.le_of_ble_eq_true rfl⟩ h19 (by decide) rfl rfl hl.1 rfl (Nat.le_of_ble_eq_true rfl) dX6_told_96 ⟨Nat.le_of_ble_eq_true rfl, Nat.le_of_ble_eq_true rfl⟩ hs rfl hP (fun r4 F4 H4 l4 hp hP => ?_)
      obtain ⟨rfl, rfl⟩ := hp
      rw [hQ]
      exact sx_iret X rfl hs rfl hP dX6_told_99 (⟨rfl, by unfold toldF; rw [cif_f (fun q => q ⟨4, by decide, rfl⟩), nI_clamp (by decide)]; rfl⟩)
    · refine lv_tableIn (off := 99) (tgt := 100) X.1.1 X.1.2.1 dX6_told_1 (by decide) (by decide) (by decide) (by decide) ?_
      refine lv_aload_n X.1.1 X.1.2.1 dX6_told_100 rfl (lv_at hl 0 rfl) ?_
      refine sx_get X hP in_X6_told_X6 h0 (by decide) rfl 0 (by decide) lk_X6_told_fieldLink_RX6_10_RaceWatch_world_LRaceWatch_World rfl dX6_told_101 ?_
      refine sx_get X hP in_X6_told_X5 h1 (by decide) rfl 6 (by decide) lk_X6_told_fieldLink_RX6_31_RaceWatch_World_log_LRaceWatch_Log rfl dX6_told_104 ?_
      refine sx_cvI (As := []) (rest := []) X (mX3_racesOfAll l (v := w) hM hRC h19 h27) gX6_told_X3_racesOfAll rfl yv_X3_racesOfAll ⟨Nat.le_of_ble_eq_true rfl, Nat.le_of_ble_eq_true rfl⟩ h19 (by decide) rfl rfl hl.1 rfl (Nat.le_of_ble_eq_true rfl) dX6_told_107 ⟨Nat.le_of_ble_eq_true rfl, Nat.le_of_ble_eq_true rfl⟩ hs rfl hP (fun r5 F5 H5 l5 hp hP => ?_)
      obtain ⟨rfl, rfl⟩ := hp
      rw [hQ]
      exact sx_iret X rfl hs rfl hP dX6_told_110 (⟨rfl, by unfold toldF; rw [cif_f (fun q => q ⟨5, by decide, rfl⟩), nI_clamp (by decide)]; rfl⟩)
    · refine lv_tableIn (off := 110) (tgt := 111) X.1.1 X.1.2.1 dX6_told_1 (by decide) (by decide) (by decide) (by decide) ?_
      refine lv_aload_n X.1.1 X.1.2.1 dX6_told_111 rfl (lv_at hl 0 rfl) ?_
      refine sx_get X hP in_X6_told_X6 h0 (by decide) rfl 3 (by decide) lk_X6_told_fieldLink_RX6_27_RaceWatch_telling_LRaceWatch_Telling rfl dX6_told_112 ?_
      refine sx_get X hP in_X6_told_X4 h84 (by decide) rfl 0 (by decide) lk_X6_told_fieldLink_RX6_114_RaceWatch_Telling_length_I rfl dX6_told_115 ?_
      rw [hQ]
      exact sx_iret X rfl hs rfl hP dX6_told_118 (⟨rfl, by unfold toldF; rw [cif_f (fun q => q ⟨6, by decide, rfl⟩), nI_clamp (by decide)]; rfl⟩)
    · refine lv_tableIn (off := 118) (tgt := 119) X.1.1 X.1.2.1 dX6_told_1 (by decide) (by decide) (by decide) (by decide) ?_
      refine lv_aload_n X.1.1 X.1.2.1 dX6_told_119 rfl (lv_at hl 0 rfl) ?_
      refine sx_get X hP in_X6_told_X6 h0 (by decide) rfl 3 (by decide) lk_X6_told_fieldLink_RX6_27_RaceWatch_telling_LRaceWatch_Telling rfl dX6_told_120 ?_
      refine sx_get X hP in_X6_told_X4 h84 (by decide) rfl 2 (by decide) lk_X6_told_fieldLink_RX6_117_RaceWatch_Telling_book_LRaceWatch_Book rfl dX6_told_123 ?_
      refine sx_get X hP in_X6_told_X0 h85 (by decide) rfl 0 (by decide) lk_X6_told_fieldLink_RX6_121_RaceWatch_Book_count_I rfl dX6_told_126 ?_
      rw [hQ]
      exact sx_iret X rfl hs rfl hP dX6_told_129 (⟨rfl, by unfold toldF; rw [cif_f (fun q => q ⟨7, by decide, rfl⟩), nI_clamp (by decide)]; rfl⟩)
    · refine lv_tableIn (off := 129) (tgt := 130) X.1.1 X.1.2.1 dX6_told_1 (by decide) (by decide) (by decide) (by decide) ?_
      refine lv_aload_n X.1.1 X.1.2.1 dX6_told_130 rfl (lv_at hl 0 rfl) ?_
      refine sx_get X hP in_X6_told_X6 h0 (by decide) rfl 0 (by decide) lk_X6_told_fieldLink_RX6_10_RaceWatch_world_LRaceWatch_World rfl dX6_told_131 ?_
      refine sx_cvI (As := []) (rest := []) X (mX5_promotionsOfAll l hkr h1 h10 (hKV 0 (by decide)).1 (hKV 1 (by decide)).1 (hKV 2 (by decide)).1 (hKV 3 (by decide)).1) gX6_told_X5_promotionsOfAll rfl yv_X5_promotionsOfAll ⟨Nat.le_of_ble_eq_true rfl, Nat.le_of_ble_eq_true rfl⟩ h1 (by decide) rfl rfl hl.1 rfl (Nat.le_of_ble_eq_true rfl) dX6_told_134 ⟨Nat.le_of_ble_eq_true rfl, Nat.le_of_ble_eq_true rfl⟩ hs rfl hP (fun r6 F6 H6 l6 hp hP => ?_)
      obtain ⟨rfl, rfl⟩ := hp
      rw [hQ]
      exact sx_iret X rfl hs rfl hP dX6_told_137 (⟨rfl, by unfold toldF; rw [cif_f (fun q => q ⟨8, by decide, rfl⟩), nI_clamp (by decide)]; rfl⟩)
  · refine lv_tableOut (tgt := 138) X.1.1 X.1.2.1 dX6_told_1 (by have := sx_outk (k := 9) (by decide) ho9; omega) (by decide) ?_
    refine lv_ldc (v := -1000000002) X.1.1 X.1.2.1 X.1.2.2.2.1 (X.1.2.2.2.2 _ lk_X6_told_constant_RX6_44_1000000002) dX6_told_138 ?_
    rw [hQ]
    exact sx_iret X rfl hs rfl hP dX6_told_140 (⟨rfl, by unfold toldF; rw [cif_t ho9]⟩)
