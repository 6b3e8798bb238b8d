theorem ys_X5_come : yX5_come.cls ≠ "java/lang/invoke/MethodHandle" ∧ yX5_come.cls ≠ "java/lang/invoke/VarHandle" ∧ (parseMethodDescriptor yX5_come.desc).map (fun d => d.parameters.length) = some 3 := by decide +kernel
theorem yv_X5_come : yX5_come.cls = RX5 ∧ yX5_come.cls ≠ "java/lang/invoke/MethodHandle" ∧ yX5_come.cls ≠ "java/lang/invoke/VarHandle" ∧ (parseMethodDescriptor yX5_come.desc).map (fun d => d.parameters.length) = some 3 := ⟨rfl, ys_X5_come⟩
theorem in_X5_come_X5 : ∀ w ∈ wsX50, w ∈ wsX5_come := fun _ h => List.mem_cons_of_mem _ (List.mem_append_left _ (List.mem_append_left _ (List.mem_append_left _ (List.mem_append_right _ (h)))))
theorem lk_X5_come_fieldLink_RX5_43_RaceWatch_World_log_LRaceWatch_Log : (.fieldLink RX5 43 "RaceWatch$World" "log" "LRaceWatch$Log;" : Cond) ∈ wsX5_come := List.mem_cons_of_mem _ (List.mem_append_left _ (List.mem_append_left _ (List.mem_append_left _ (List.mem_append_left _ (List.mem_append_left _ (List.mem_of_getElem? (i := 0) rfl))))))
theorem lk_X5_come_fieldLink_RX5_23_RaceWatch_World_ofThreads_LRaceWatch_Clocks : (.fieldLink RX5 23 "RaceWatch$World" "ofThreads" "LRaceWatch$Clocks;" : Cond) ∈ wsX5_come := List.mem_cons_of_mem _ (List.mem_append_left _ (List.mem_append_left _ (List.mem_append_left _ (List.mem_append_left _ (List.mem_append_left _ (List.mem_of_getElem? (i := 2) rfl))))))
theorem lk_X5_come_fieldLink_RX5_36_RaceWatch_World_cells_LRaceWatch_Kept : (.fieldLink RX5 36 "RaceWatch$World" "cells" "[LRaceWatch$Kept;" : Cond) ∈ wsX5_come := List.mem_cons_of_mem _ (List.mem_append_left _ (List.mem_append_left _ (List.mem_append_left _ (List.mem_append_left _ (List.mem_append_left _ (List.mem_of_getElem? (i := 3) rfl))))))
abbrev rmX5_come : Room := { frames := 4, cells := 0, slots := 0, locals := 109 }
set_option maxHeartbeats 800000 in
set_option maxRecDepth 100000 in
theorem mX5_come {G : sx_G} (l : Launch) {F : Nat → va_E} {w : Nat → Int32} {M t s x : Nat}  (hW : WV G F w M 1) (hwf : WFw w M) (hM : M < 160) (ht : t < 4) (hs8 : s < 8) (hx : x < boundF s) (hxt : 6 ≤ s → x ≠ t) : sx_I G l yX5_come wsX5_come rmX5_come [rf G 1, .int (nI (t)), .int (nI (s)), .int (nI (x))] (97) F (97) (fun r F1 => WV G F1 (comeF w M t s x) (1 + M) 1 ∧ (∀ j, (j = 0 ∨ 27 < j) → F1 j = F j) ∧ nI M = r) := by
  refine sx_enter (cc := cX5_come) (maxL := 6) (ret := some .int) (own := RX5) (nm := "come") (by decide) rfl rfl rfl (Nat.le_of_ble_eq_true rfl) ?_
  intro pp ee ss mm args below meth kc ls Q hQ X hs hP hl
  have hl : lv_has ls 6 [(0, rf G 1), (1, .int (nI (t))), (2, .int (nI (s))), (3, .int (nI (x)))] := hl
  have hO : ∀ j, j = 0 ∨ 27 < j ∨ (10 < j ∧ j < 19 ∧ j ≠ 11 + 2 * x ∧ j ≠ 12 + 2 * x) → F j = F j := fun _ _ => rfl
  rcases (show s = 0 ∨ s = 1 ∨ s = 2 ∨ s = 3 ∨ s = 4 ∨ s = 5 ∨ s = 6 ∨ s = 7 by omega) with rfl | rfl | rfl | rfl | rfl | rfl | rfl | rfl
  · have hxB : x < boundF 0 := hx
    have hx : x < 4 := hx
    obtain ⟨st, ho, ct, cl, cs, kr, r4, r6, r8, h1, h2, h3, h4, h5, h6, h7, h8, h9, h10, hkr, hRV, hKV, hLg, hRw⟩ := hW
    obtain ⟨th, so, wi, lo, lc, rb, rc, rr, h19, h20, h21, h22, h23, h24, h25, h26, h27, hLV, hRB, hRC⟩ := hLg
    have h1 : F 1 = ob 5 ([rf G 2, rf G 3, rf G 4, rf G 6, rf G 8, rf G 10, rf G 19]) := h1
    have h2 : F 2 = rI G (4) (st) := h2
    have h3 : F 3 = rI G (3) (ho) := h3
    have h4 : F 4 = ob 1 ([r4, rf G 5]) := h4
    have h5 : F 5 = rI G (16) (ct) := h5
    have h6 : F 6 = ob 1 ([r6, rf G 7]) := h6
    have h7 : F 7 = rI G (12) (cl) := h7
    have h8 : F 8 = ob 1 ([r8, rf G 9]) := h8
    have h9 : F 9 = rI G (8) (cs) := h9
    have h10 : F 10 = rK G (4) (kr) := h10
    have h19 : F 19 = ob 3 ([.int (nI (M)), rf G 20, rf G 21, rf G 22, rf G 23, rf G 24, rf G 26, rf G 27]) := h19
    have h20 : F 20 = rI G (160) (th) := h20
    have h21 : F 21 = rI G (160) (so) := h21
    have h22 : F 22 = rI G (160) (wi) := h22
    have h23 : F 23 = rI G (160) (lo) := h23
    have h24 : F 24 = ob 1 ([rr, rf G 25]) := h24
    have h25 : F 25 = rI G (640) (lc) := h25
    have h26 : F 26 = rI G (160) (rb) := h26
    have h27 : F 27 = rI G (12) (rc) := h27
    have hkr : ∀ j, j < 4 → kr j = some (sx_b G + (11 + 2 * j)) := hkr
    obtain ⟨hKx, nrx, hNx, hnr⟩ := hKV x (by omega)
    have h11___2___x : F (11 + 2 * x) = ob 2 ([.int (w (43 + 12 * x)), .int (w (44 + 12 * x)), .int (w (45 + 12 * x)), .int (w (46 + 12 * x)), .int (w (47 + 12 * x)), rf G (12 + 2 * x), .int (w (52 + 12 * x)), .int (w (53 + 12 * x)), .int (w (54 + 12 * x)), .int (gdF w x M)]) := hKx
    have h12___2___x : F (12 + 2 * x) = rI G 4 nrx := hNx
    have hok := hwf.2.2.2.1
    have hwf1 := WF_come hwf hM ht (by decide) hxB hxt
    have htk := tk_rows hok hRV ht (by decide) hxB hxt
    have hco := co_rows (n := M) hok hRV ht (by decide) hxB hxt
    have hLV1 := LV_come (n := M) hok hLV ht (by decide) hxB htk.2 htk.1
    have haf : accA (comeF w M t 0 x) M := (come_accA ht (by decide)).mpr (by decide)
    refine lv_aload_n X.1.1 X.1.2.1 dX5_come_0 rfl (lv_at hl 0 rfl) ?_
    refine sx_get X hP in_X5_come_X5 h1 (by decide) rfl 6 (by decide) lk_X5_come_fieldLink_RX5_43_RaceWatch_World_log_LRaceWatch_Log rfl dX5_come_1 ?_
    refine lv_iconst (v := nI 1) X.1.1 X.1.2.1 dX5_come_4 (by decide) ?_
    refine sx_cvI (As := [.int (nI 1)]) (rest := []) X (mX3_hasRoom l (M := M) (k := 1) (by omega) (by omega) h19) gX5_come_X3_hasRoom rfl yv_X3_hasRoom ⟨Nat.le_of_ble_eq_true rfl, Nat.le_of_ble_eq_true rfl⟩ h19 (by decide) rfl rfl hl.1 rfl (Nat.le_of_ble_eq_true rfl) dX5_come_5 ⟨Nat.le_of_ble_eq_true rfl, Nat.le_of_ble_eq_true rfl⟩ hs rfl hP (fun r1 F1 H1 l1 hp hP => ?_)
    obtain ⟨rfl, ⟨b2, rfl⟩ | ⟨b2, rfl⟩⟩ := hp
    · refine sx_if_ne X (by decide) (tgt := 14) dX5_come_8 (by decide) (fun _ => ?_) (fun h => absurd h (by decide))
      refine lv_aload_n X.1.1 X.1.2.1 dX5_come_14 rfl (lv_at hl 0 rfl) ?_
      refine lv_iload_n X.1.1 X.1.2.1 dX5_come_15 rfl (lv_at hl 1 rfl) ?_
      refine lv_iload_n X.1.1 X.1.2.1 dX5_come_16 rfl (lv_at hl 2 rfl) ?_
      refine lv_iload_n X.1.1 X.1.2.1 dX5_come_17 rfl (lv_at hl 3 rfl) ?_
      refine sx_cvV (As := [.int (nI (t)), .int (nI 0), .int (nI (x))]) (rest := []) X (mX5_takeIn l (t := t) (s := 0) (x := x) ht (by decide) hx h1 h2 h3 h4 h5 h6 h7 h8 h9) gX5_come_X5_takeIn rfl yv_X5_takeIn ⟨Nat.le_of_ble_eq_true rfl, Nat.le_of_ble_eq_true rfl⟩ h1 (by decide) rfl rfl hl.1 rfl (Nat.le_of_ble_eq_true rfl) dX5_come_18 ⟨Nat.le_of_ble_eq_true rfl, Nat.le_of_ble_eq_true rfl⟩ hs rfl hP (fun F3 H3 l3 hp hP => ?_)
      obtain ⟨e3, f3, g3, o3⟩ := hp
      have h1 := (o3 (1) (by decide)).trans h1
      have h2 : F3 (2) = rI G (4) (tiS 0 st x) := e3
      have h3 : F3 (3) = rI G (3) (tiH 0 ho t x) := f3
      have h4 := (o3 (4) (by decide)).trans h4
      have h5 : F3 (5) = rI G (16) (tiC 0 ct cl cs t x) := g3
      have h6 := (o3 (6) (by decide)).trans h6
      have h7 := (o3 (7) (by decide)).trans h7
      have h8 := (o3 (8) (by decide)).trans h8
      have h9 := (o3 (9) (by decide)).trans h9
      have h10 := (o3 (10) (by decide)).trans h10
      have h19 := (o3 (19) (by decide)).trans h19
      have h20 := (o3 (20) (by decide)).trans h20
      have h21 := (o3 (21) (by decide)).trans h21
      have h22 := (o3 (22) (by decide)).trans h22
      have h23 := (o3 (23) (by decide)).trans h23
      have h24 := (o3 (24) (by decide)).trans h24
      have h25 := (o3 (25) (by decide)).trans h25
      have h26 := (o3 (26) (by decide)).trans h26
      have h27 := (o3 (27) (by decide)).trans h27
      have h11___2___x := (o3 (11 + 2 * x) (by omega)).trans h11___2___x
      have h12___2___x := (o3 (12 + 2 * x) (by omega)).trans h12___2___x
      have hO : ∀ j, j = 0 ∨ 27 < j ∨ (10 < j ∧ j < 19 ∧ j ≠ 11 + 2 * x ∧ j ≠ 12 + 2 * x) → F3 j = F j := fun j hj => (o3 j (by omega)).trans (hO j hj)
      refine lv_aload_n X.1.1 X.1.2.1 dX5_come_21 rfl (lv_at hl 0 rfl) ?_
      refine lv_iload_n X.1.1 X.1.2.1 dX5_come_22 rfl (lv_at hl 1 rfl) ?_
      refine sx_cvI (As := [.int (nI (t))]) (rest := []) X (mX5_locksOf l (t := t) h1 h3) gX5_come_X5_locksOf rfl yv_X5_locksOf ⟨Nat.le_of_ble_eq_true rfl, Nat.le_of_ble_eq_true rfl⟩ h1 (by decide) rfl rfl hl.1 rfl (Nat.le_of_ble_eq_true rfl) dX5_come_23 ⟨Nat.le_of_ble_eq_true rfl, Nat.le_of_ble_eq_true rfl⟩ hs rfl hP (fun r4 F4 H4 l4 hp hP => ?_)
      obtain ⟨rfl, rfl⟩ := hp
      refine lv_istore (lv' := [(4, .int (heldF (tiH 0 ho t x) (nI (t)))), (0, rf G 1), (1, .int (nI (t))), (2, .int (nI 0)), (3, .int (nI (x)))]) X.1.1 X.1.2.1 dX5_come_26 hl (by decide) rfl (fun ls hl => ?_)
      refine lv_aload_n X.1.1 X.1.2.1 dX5_come_28 rfl (lv_at hl 1 rfl) ?_
      refine sx_get X hP in_X5_come_X5 h1 (by decide) rfl 6 (by decide) lk_X5_come_fieldLink_RX5_43_RaceWatch_World_log_LRaceWatch_Log rfl dX5_come_29 ?_
      refine lv_iload_n X.1.1 X.1.2.1 dX5_come_32 rfl (lv_at hl 2 rfl) ?_
      refine lv_iload_n X.1.1 X.1.2.1 dX5_come_33 rfl (lv_at hl 3 rfl) ?_
      refine lv_iload_n X.1.1 X.1.2.1 dX5_come_34 rfl (lv_at hl 4 rfl) ?_
      refine lv_iload X.1.1 X.1.2.1 dX5_come_35 (lv_at hl 0 rfl) ?_
      refine lv_aload_n X.1.1 X.1.2.1 dX5_come_37 rfl (lv_at hl 1 rfl) ?_
      refine sx_get X hP in_X5_come_X5 h1 (by decide) rfl 2 (by decide) lk_X5_come_fieldLink_RX5_23_RaceWatch_World_ofThreads_LRaceWatch_Clocks rfl dX5_come_38 ?_
      refine sx_cvI (As := [.int (nI (t)), .int (nI 0), .int (nI (x)), .int (heldF (tiH 0 ho t x) (nI (t))), rf G 4]) (rest := []) X (mX3_append l (M := M) (t := t) (s := 0) (x := x) (lk := (heldF (tiH 0 ho t x) (nI (t)))) hM ht h19 h20 h21 h22 h23 h24 h25 h4 h5) gX5_come_X3_append rfl yv_X3_append ⟨Nat.le_of_ble_eq_true rfl, Nat.le_of_ble_eq_true rfl⟩ h19 (by decide) rfl rfl hl.1 rfl (Nat.le_of_ble_eq_true rfl) dX5_come_41 ⟨Nat.le_of_ble_eq_true rfl, Nat.le_of_ble_eq_true rfl⟩ hs rfl hP (fun r5 F5 H5 l5 hp hP => ?_)
      obtain ⟨e5, f5, g5, d5, b5, a5, o5, rfl⟩ := hp
      have h1 := (o5 (1) (by decide)).trans h1
      have h2 := (o5 (2) (by decide)).trans h2
      have h3 := (o5 (3) (by decide)).trans h3
      have h4 := (o5 (4) (by decide)).trans h4
      have h5 := (o5 (5) (by decide)).trans h5
      have h6 := (o5 (6) (by decide)).trans h6
      have h7 := (o5 (7) (by decide)).trans h7
      have h8 := (o5 (8) (by decide)).trans h8
      have h9 := (o5 (9) (by decide)).trans h9
      have h10 := (o5 (10) (by decide)).trans h10
      have h19 : F5 (19) = ob 3 ([.int (nI (1 + M)), rf G 20, rf G 21, rf G 22, rf G 23, rf G 24, rf G 26, rf G 27]) := e5
      have h20 : F5 (20) = rI G (160) (upd th M (nI t)) := f5
      have h21 : F5 (21) = rI G (160) (upd so M (nI 0)) := g5
      have h22 : F5 (22) = rI G (160) (upd wi M (nI x)) := d5
      have h23 : F5 (23) = rI G (160) (upd lo M (heldF (tiH 0 ho t x) (nI (t)))) := b5
      have h24 := (o5 (24) (by decide)).trans h24
      have h25 : F5 (25) = rI G (640) (va_cpy (tiC 0 ct cl cs t x) lc (4 * t) (4 * M) 4) := a5
      have h26 := (o5 (26) (by decide)).trans h26
      have h27 := (o5 (27) (by decide)).trans h27
      have h11___2___x := (o5 (11 + 2 * x) (by omega)).trans h11___2___x
      have h12___2___x := (o5 (12 + 2 * x) (by omega)).trans h12___2___x
      have hO : ∀ j, j = 0 ∨ 27 < j ∨ (10 < j ∧ j < 19 ∧ j ≠ 11 + 2 * x ∧ j ≠ 12 + 2 * x) → F5 j = F j := fun j hj => (o5 j (by omega)).trans (hO j hj)
      refine lv_istore (lv' := [(5, .int (nI (M))), (4, .int (heldF (tiH 0 ho t x) (nI (t)))), (0, rf G 1), (1, .int (nI (t))), (2, .int (nI 0)), (3, .int (nI (x)))]) X.1.1 X.1.2.1 dX5_come_44 hl (by decide) rfl (fun ls hl => ?_)
      refine lv_iload_n X.1.1 X.1.2.1 dX5_come_46 rfl (lv_at hl 4 rfl) ?_
      refine sx_if_eq X (by decide) (tgt := 55) dX5_come_47 (by decide) (fun _ => ?_) (fun h => absurd h (by decide))
      refine lv_aload_n X.1.1 X.1.2.1 dX5_come_55 rfl (lv_at hl 2 rfl) ?_
      refine sx_get X hP in_X5_come_X5 h1 (by decide) rfl 6 (by decide) lk_X5_come_fieldLink_RX5_43_RaceWatch_World_log_LRaceWatch_Log rfl dX5_come_56 ?_
      refine lv_iload X.1.1 X.1.2.1 dX5_come_59 (lv_at hl 0 rfl) ?_
      refine sx_cvV (As := [.int (nI (M))]) (rest := []) X (mX3_countRaces l (v := comeF w M t 0 x) (M := 1 + M) (f := M) (c := x) hLV1 (by omega) hwf1.2.2.1 (by omega) hx haf (come_wi ht) h19 h20 h21 h22 h23 h24 h25 h26 h27) gX5_come_X3_countRaces rfl yv_X3_countRaces ⟨Nat.le_of_ble_eq_true rfl, Nat.le_of_ble_eq_true rfl⟩ h19 (by decide) rfl rfl hl.1 rfl (Nat.le_of_ble_eq_true rfl) dX5_come_61 ⟨Nat.le_of_ble_eq_true rfl, Nat.le_of_ble_eq_true rfl⟩ hs rfl hP (fun F6 H6 l6 hp hP => ?_)
      obtain ⟨⟨rz6, e6, hr6, hq6⟩, f6, o6⟩ := hp
      have h1 := (o6 (1) (by decide)).trans h1
      have h2 := (o6 (2) (by decide)).trans h2
      have h3 := (o6 (3) (by decide)).trans h3
      have h4 := (o6 (4) (by decide)).trans h4
      have h5 := (o6 (5) (by decide)).trans h5
      have h6 := (o6 (6) (by decide)).trans h6
      have h7 := (o6 (7) (by decide)).trans h7
      have h8 := (o6 (8) (by decide)).trans h8
      have h9 := (o6 (9) (by decide)).trans h9
      have h10 := (o6 (10) (by decide)).trans h10
      have h19 := (o6 (19) (by decide)).trans h19
      have h20 := (o6 (20) (by decide)).trans h20
      have h21 := (o6 (21) (by decide)).trans h21
      have h22 := (o6 (22) (by decide)).trans h22
      have h23 := (o6 (23) (by decide)).trans h23
      have h24 := (o6 (24) (by decide)).trans h24
      have h25 := (o6 (25) (by decide)).trans h25
      have h26 : F6 (26) = rI G (160) (upd rb M (nI (cntE (comeF w M t 0 x) x 3 M M))) := f6
      have h27 : F6 (27) = rI G (12) (rz6) := e6
      have h11___2___x := (o6 (11 + 2 * x) (by omega)).trans h11___2___x
      have h12___2___x := (o6 (12 + 2 * x) (by omega)).trans h12___2___x
      have hO : ∀ j, j = 0 ∨ 27 < j ∨ (10 < j ∧ j < 19 ∧ j ≠ 11 + 2 * x ∧ j ≠ 12 + 2 * x) → F6 j = F j := fun j hj => (o6 j (by omega)).trans (hO j hj)
      refine lv_aload_n X.1.1 X.1.2.1 dX5_come_64 rfl (lv_at hl 2 rfl) ?_
      refine sx_get X hP in_X5_come_X5 h1 (by decide) rfl 5 (by decide) lk_X5_come_fieldLink_RX5_36_RaceWatch_World_cells_LRaceWatch_Kept rfl dX5_come_65 ?_
      refine lv_iload_n X.1.1 X.1.2.1 dX5_come_68 rfl (lv_at hl 5 rfl) ?_
      refine sx_kald X hP h10 (by decide) (x) (by omega) (by decide) (q := 11 + 2 * x) ((hkr _ (by omega)).trans (congrArg some (by omega))) dX5_come_69 ?_
      refine lv_iload_n X.1.1 X.1.2.1 dX5_come_70 rfl (lv_at hl 4 rfl) ?_
      refine lv_iconst (v := nI 1) X.1.1 X.1.2.1 dX5_come_71 (by decide) ?_
      refine sx_icmp_ne X (by decide) (by decide) (tgt := 79) dX5_come_72 (by decide) (fun _ => ?_) (fun h => absurd h (by decide))
      refine lv_iconst (v := nI 0) X.1.1 X.1.2.1 dX5_come_79 (by decide) ?_
      refine lv_aload_n X.1.1 X.1.2.1 dX5_come_80 rfl (lv_at hl 2 rfl) ?_
      refine sx_get X hP in_X5_come_X5 h1 (by decide) rfl 2 (by decide) lk_X5_come_fieldLink_RX5_23_RaceWatch_World_ofThreads_LRaceWatch_Clocks rfl dX5_come_81 ?_
      refine lv_iload_n X.1.1 X.1.2.1 dX5_come_84 rfl (lv_at hl 3 rfl) ?_
      refine lv_iload X.1.1 X.1.2.1 dX5_come_85 (lv_at hl 0 rfl) ?_
      refine lv_iload X.1.1 X.1.2.1 dX5_come_87 (lv_at hl 1 rfl) ?_
      refine sx_cvV (As := [.int (nI 0), rf G 4, .int (nI (t)), .int (nI (M)), .int (heldF (tiH 0 ho t x) (nI (t)))]) (rest := []) X (mX2_access l (ki := 11 + 2 * x) (kj := 12 + 2 * x) (ci := 4) (cj := 5) (t := t) (c := x) (w := w) (by omega) (by omega) (by decide) (by decide) (by omega) (by omega) (by omega) (by omega) (by omega) (by decide) ht hx (hok x hx) hnr hRV.2.2.1 (wr := 0) (m := M) (lk := (heldF (tiH 0 ho t x) (nI (t)))) (by decide) hwf.1 h11___2___x h12___2___x h4 h5) gX5_come_X2_access rfl yv_X2_access ⟨Nat.le_of_ble_eq_true rfl, Nat.le_of_ble_eq_true rfl⟩ h11___2___x (by omega) rfl rfl hl.1 rfl (Nat.le_of_ble_eq_true rfl) dX5_come_89 ⟨Nat.le_of_ble_eq_true rfl, Nat.le_of_ble_eq_true rfl⟩ hs rfl hP (fun F7 H7 l7 hp hP => ?_)
      obtain ⟨e7, ⟨n7, f7, hn7⟩, o7⟩ := hp
      have h1 := (o7 (1) (by omega)).trans h1
      have h2 := (o7 (2) (by omega)).trans h2
      have h3 := (o7 (3) (by omega)).trans h3
      have h4 := (o7 (4) (by omega)).trans h4
      have h5 := (o7 (5) (by omega)).trans h5
      have h6 := (o7 (6) (by omega)).trans h6
      have h7 := (o7 (7) (by omega)).trans h7
      have h8 := (o7 (8) (by omega)).trans h8
      have h9 := (o7 (9) (by omega)).trans h9
      have h10 := (o7 (10) (by omega)).trans h10
      have h19 := (o7 (19) (by omega)).trans h19
      have h20 := (o7 (20) (by omega)).trans h20
      have h21 := (o7 (21) (by omega)).trans h21
      have h22 := (o7 (22) (by omega)).trans h22
      have h23 := (o7 (23) (by omega)).trans h23
      have h24 := (o7 (24) (by omega)).trans h24
      have h25 := (o7 (25) (by omega)).trans h25
      have h26 := (o7 (26) (by omega)).trans h26
      have h27 := (o7 (27) (by omega)).trans h27
      have h11___2___x : F7 (11 + 2 * x) = ob 2 ([.int (accF w t x 0 (43 + 12 * x)), .int (accF w t x 0 (44 + 12 * x)), .int (accF w t x 0 (45 + 12 * x)), .int (accF w t x 0 (46 + 12 * x)), .int (accF w t x 0 (47 + 12 * x)), rf G (12 + 2 * x), .int (accF w t x 0 (52 + 12 * x)), .int (accF w t x 0 (53 + 12 * x)), .int (accF w t x 0 (54 + 12 * x)), .int (gdF w x M &&& (heldF (tiH 0 ho t x) (nI (t))))]) := e7
      have h12___2___x : F7 (12 + 2 * x) = rI G (4) (n7) := f7
      have hO : ∀ j, j = 0 ∨ 27 < j ∨ (10 < j ∧ j < 19 ∧ j ≠ 11 + 2 * x ∧ j ≠ 12 + 2 * x) → F7 j = F j := fun j hj => (o7 j (by omega)).trans (hO j hj)
      refine lv_aload_n X.1.1 X.1.2.1 dX5_come_92 rfl (lv_at hl 2 rfl) ?_
      refine lv_iload_n X.1.1 X.1.2.1 dX5_come_93 rfl (lv_at hl 3 rfl) ?_
      refine lv_iload_n X.1.1 X.1.2.1 dX5_come_94 rfl (lv_at hl 4 rfl) ?_
      refine lv_iload_n X.1.1 X.1.2.1 dX5_come_95 rfl (lv_at hl 5 rfl) ?_
      refine sx_cvV (As := [.int (nI (t)), .int (nI 0), .int (nI (x))]) (rest := []) X (mX5_handOn l (ho := ho) (t := t) (s := 0) (x := x) ht (by decide) hx h1 h2 h4 h5 h6 h7 h8 h9) gX5_come_X5_handOn rfl yv_X5_handOn ⟨Nat.le_of_ble_eq_true rfl, Nat.le_of_ble_eq_true rfl⟩ h1 (by decide) rfl rfl hl.1 rfl (Nat.le_of_ble_eq_true rfl) dX5_come_96 ⟨Nat.le_of_ble_eq_true rfl, Nat.le_of_ble_eq_true rfl⟩ hs rfl hP (fun F8 H8 l8 hp hP => ?_)
      obtain ⟨e8, f8, g8, d8, o8⟩ := hp
      have h1 := (o8 (1) (by decide)).trans h1
      have h2 : F8 (2) = rI G (4) (haS 0 (tiS 0 st x) x) := e8
      have h3 := (o8 (3) (by decide)).trans h3
      have h4 := (o8 (4) (by decide)).trans h4
      have h5 : F8 (5) = rI G (16) (haC 0 (tiC 0 ct cl cs t x) t x) := f8
      have h6 := (o8 (6) (by decide)).trans h6
      have h7 : F8 (7) = rI G (12) (haL 0 cl (tiC 0 ct cl cs t x) t x) := g8
      have h8 := (o8 (8) (by decide)).trans h8
      have h9 : F8 (9) = rI G (8) (haE 0 cs (tiC 0 ct cl cs t x) t x) := d8
      have h10 := (o8 (10) (by decide)).trans h10
      have h19 := (o8 (19) (by decide)).trans h19
      have h20 := (o8 (20) (by decide)).trans h20
      have h21 := (o8 (21) (by decide)).trans h21
      have h22 := (o8 (22) (by decide)).trans h22
      have h23 := (o8 (23) (by decide)).trans h23
      have h24 := (o8 (24) (by decide)).trans h24
      have h25 := (o8 (25) (by decide)).trans h25
      have h26 := (o8 (26) (by decide)).trans h26
      have h27 := (o8 (27) (by decide)).trans h27
      have h11___2___x := (o8 (11 + 2 * x) (by omega)).trans h11___2___x
      have h12___2___x := (o8 (12 + 2 * x) (by omega)).trans h12___2___x
      have hO : ∀ j, j = 0 ∨ 27 < j ∨ (10 < j ∧ j < 19 ∧ j ≠ 11 + 2 * x ∧ j ≠ 12 + 2 * x) → F8 j = F j := fun j hj => (o8 j (by omega)).trans (hO j hj)
      refine lv_iload X.1.1 X.1.2.1 dX5_come_99 (lv_at hl 0 rfl) ?_
      have hO2 : ∀ j, (j = 0 ∨ 27 < j) → F8 j = F j := fun j hj => hO j (by omega)
      have hd : ∀ k, k < 91 → comeF w M t 0 x k = accF w t x 0 k := fun k hk => comeF_no hk ht (Or.inr (by unfold hasS; omega))
      have hgy := gd_yes (n := M) hok ht (by decide) hxB hx (by decide) htk.1
      have hKc : ∀ c, c < 4 → KV G F8 (comeF w M t 0 x) (1 + M) 1 c := fun c hc => by
        by_cases q : x = c
        · subst q; refine ⟨h11___2___x.trans ?_, _, h12___2___x, fun k hk => (hn7 k hk).trans (hd _ (by omega)).symm⟩
          rw [hd (43 + 12 * x) (by omega), hd (44 + 12 * x) (by omega), hd (45 + 12 * x) (by omega), hd (46 + 12 * x) (by omega), hd (47 + 12 * x) (by omega), hd (52 + 12 * x) (by omega), hd (53 + 12 * x) (by omega), hd (54 + 12 * x) (by omega), hgy]
        · exact KV_come hok ht (by decide) hxB hc (Or.inr q) (hKV c hc) (hO _ (by omega)) (hO _ (by omega))
      rw [hQ]
      exact sx_iret X rfl hs rfl hP dX5_come_101 (⟨⟨_, _, _, _, _, kr, r4, r6, r8, h1, h2, h3, h4, h5, h6, h7, h8, h9, h10, hkr, hco, hKc, ⟨_, _, _, _, _, _, _, rr, h19, h20, h21, h22, h23, h24, h25, h26, h27, hLV1, RB_come hok hwf.2.2.1 ht (by decide) hxB hRB (fun f hf => pk_un (by omega)) (fun _ => pk_us), RC_come hok hwf.2.2.1 ht (by decide) hxB hRC (fun _ => hr6) (fun j hj => hq6 j (by omega))⟩, hRw⟩, hO2, rfl⟩)
    · exact absurd (by omega) b2
  · have hxB : x < boundF 1 := hx
    have hx : x < 4 := hx
    obtain ⟨st, ho, ct, cl, cs, kr, r4, r6, r8, h1, h2, h3, h4, h5, h6, h7, h8, h9, h10, hkr, hRV, hKV, hLg, hRw⟩ := hW
    obtain ⟨th, so, wi, lo, lc, rb, rc, rr, h19, h20, h21, h22, h23, h24, h25, h26, h27, hLV, hRB, hRC⟩ := hLg
    have h1 : F 1 = ob 5 ([rf G 2, rf G 3, rf G 4, rf G 6, rf G 8, rf G 10, rf G 19]) := h1
    have h2 : F 2 = rI G (4) (st) := h2
    have h3 : F 3 = rI G (3) (ho) := h3
    have h4 : F 4 = ob 1 ([r4, rf G 5]) := h4
    have h5 : F 5 = rI G (16) (ct) := h5
    have h6 : F 6 = ob 1 ([r6, rf G 7]) := h6
    have h7 : F 7 = rI G (12) (cl) := h7
    have h8 : F 8 = ob 1 ([r8, rf G 9]) := h8
    have h9 : F 9 = rI G (8) (cs) := h9
    have h10 : F 10 = rK G (4) (kr) := h10
    have h19 : F 19 = ob 3 ([.int (nI (M)), rf G 20, rf G 21, rf G 22, rf G 23, rf G 24, rf G 26, rf G 27]) := h19
    have h20 : F 20 = rI G (160) (th) := h20
    have h21 : F 21 = rI G (160) (so) := h21
    have h22 : F 22 = rI G (160) (wi) := h22
    have h23 : F 23 = rI G (160) (lo) := h23
    have h24 : F 24 = ob 1 ([rr, rf G 25]) := h24
    have h25 : F 25 = rI G (640) (lc) := h25
    have h26 : F 26 = rI G (160) (rb) := h26
    have h27 : F 27 = rI G (12) (rc) := h27
    have hkr : ∀ j, j < 4 → kr j = some (sx_b G + (11 + 2 * j)) := hkr
    obtain ⟨hKx, nrx, hNx, hnr⟩ := hKV x (by omega)
    have h11___2___x : F (11 + 2 * x) = ob 2 ([.int (w (43 + 12 * x)), .int (w (44 + 12 * x)), .int (w (45 + 12 * x)), .int (w (46 + 12 * x)), .int (w (47 + 12 * x)), rf G (12 + 2 * x), .int (w (52 + 12 * x)), .int (w (53 + 12 * x)), .int (w (54 + 12 * x)), .int (gdF w x M)]) := hKx
    have h12___2___x : F (12 + 2 * x) = rI G 4 nrx := hNx
    have hok := hwf.2.2.2.1
    have hwf1 := WF_come hwf hM ht (by decide) hxB hxt
    have htk := tk_rows hok hRV ht (by decide) hxB hxt
    have hco := co_rows (n := M) hok hRV ht (by decide) hxB hxt
    have hLV1 := LV_come (n := M) hok hLV ht (by decide) hxB htk.2 htk.1
    have haf : accA (comeF w M t 1 x) M := (come_accA ht (by decide)).mpr (by decide)
    refine lv_aload_n X.1.1 X.1.2.1 dX5_come_0 rfl (lv_at hl 0 rfl) ?_
    refine sx_get X hP in_X5_come_X5 h1 (by decide) rfl 6 (by decide) lk_X5_come_fieldLink_RX5_43_RaceWatch_World_log_LRaceWatch_Log rfl dX5_come_1 ?_
    refine lv_iconst (v := nI 1) X.1.1 X.1.2.1 dX5_come_4 (by decide) ?_
    refine sx_cvI (As := [.int (nI 1)]) (rest := []) X (mX3_hasRoom l (M := M) (k := 1) (by omega) (by omega) h19) gX5_come_X3_hasRoom rfl yv_X3_hasRoom ⟨Nat.le_of_ble_eq_true rfl, Nat.le_of_ble_eq_true rfl⟩ h19 (by decide) rfl rfl hl.1 rfl (Nat.le_of_ble_eq_true rfl) dX5_come_5 ⟨Nat.le_of_ble_eq_true rfl, Nat.le_of_ble_eq_true rfl⟩ hs rfl hP (fun r9 F9 H9 l9 hp hP => ?_)
    obtain ⟨rfl, ⟨b10, rfl⟩ | ⟨b10, rfl⟩⟩ := hp
    · refine sx_if_ne X (by decide) (tgt := 14) dX5_come_8 (by decide) (fun _ => ?_) (fun h => absurd h (by decide))
      refine lv_aload_n X.1.1 X.1.2.1 dX5_come_14 rfl (lv_at hl 0 rfl) ?_
      refine lv_iload_n X.1.1 X.1.2.1 dX5_come_15 rfl (lv_at hl 1 rfl) ?_
      refine lv_iload_n X.1.1 X.1.2.1 dX5_come_16 rfl (lv_at hl 2 rfl) ?_
      refine lv_iload_n X.1.1 X.1.2.1 dX5_come_17 rfl (lv_at hl 3 rfl) ?_
      refine sx_cvV (As := [.int (nI (t)), .int (nI 1), .int (nI (x))]) (rest := []) X (mX5_takeIn l (t := t) (s := 1) (x := x) ht (by decide) hx h1 h2 h3 h4 h5 h6 h7 h8 h9) gX5_come_X5_takeIn rfl yv_X5_takeIn ⟨Nat.le_of_ble_eq_true rfl, Nat.le_of_ble_eq_true rfl⟩ h1 (by decide) rfl rfl hl.1 rfl (Nat.le_of_ble_eq_true rfl) dX5_come_18 ⟨Nat.le_of_ble_eq_true rfl, Nat.le_of_ble_eq_true rfl⟩ hs rfl hP (fun F11 H11 l11 hp hP => ?_)
      obtain ⟨e11, f11, g11, o11⟩ := hp
      have h1 := (o11 (1) (by decide)).trans h1
      have h2 : F11 (2) = rI G (4) (tiS 1 st x) := e11
      have h3 : F11 (3) = rI G (3) (tiH 1 ho t x) := f11
      have h4 := (o11 (4) (by decide)).trans h4
      have h5 : F11 (5) = rI G (16) (tiC 1 ct cl cs t x) := g11
      have h6 := (o11 (6) (by decide)).trans h6
      have h7 := (o11 (7) (by decide)).trans h7
      have h8 := (o11 (8) (by decide)).trans h8
      have h9 := (o11 (9) (by decide)).trans h9
      have h10 := (o11 (10) (by decide)).trans h10
      have h19 := (o11 (19) (by decide)).trans h19
      have h20 := (o11 (20) (by decide)).trans h20
      have h21 := (o11 (21) (by decide)).trans h21
      have h22 := (o11 (22) (by decide)).trans h22
      have h23 := (o11 (23) (by decide)).trans h23
      have h24 := (o11 (24) (by decide)).trans h24
      have h25 := (o11 (25) (by decide)).trans h25
      have h26 := (o11 (26) (by decide)).trans h26
      have h27 := (o11 (27) (by decide)).trans h27
      have h11___2___x := (o11 (11 + 2 * x) (by omega)).trans h11___2___x
      have h12___2___x := (o11 (12 + 2 * x) (by omega)).trans h12___2___x
      have hO : ∀ j, j = 0 ∨ 27 < j ∨ (10 < j ∧ j < 19 ∧ j ≠ 11 + 2 * x ∧ j ≠ 12 + 2 * x) → F11 j = F j := fun j hj => (o11 j (by omega)).trans (hO j hj)
      refine lv_aload_n X.1.1 X.1.2.1 dX5_come_21 rfl (lv_at hl 0 rfl) ?_
      refine lv_iload_n X.1.1 X.1.2.1 dX5_come_22 rfl (lv_at hl 1 rfl) ?_
      refine sx_cvI (As := [.int (nI (t))]) (rest := []) X (mX5_locksOf l (t := t) h1 h3) gX5_come_X5_locksOf rfl yv_X5_locksOf ⟨Nat.le_of_ble_eq_true rfl, Nat.le_of_ble_eq_true rfl⟩ h1 (by decide) rfl rfl hl.1 rfl (Nat.le_of_ble_eq_true rfl) dX5_come_23 ⟨Nat.le_of_ble_eq_true rfl, Nat.le_of_ble_eq_true rfl⟩ hs rfl hP (fun r12 F12 H12 l12 hp hP => ?_)
      obtain ⟨rfl, rfl⟩ := hp
      refine lv_istore (lv' := [(4, .int (heldF (tiH 1 ho t x) (nI (t)))), (0, rf G 1), (1, .int (nI (t))), (2, .int (nI 1)), (3, .int (nI (x)))]) X.1.1 X.1.2.1 dX5_come_26 hl (by decide) rfl (fun ls hl => ?_)
      refine lv_aload_n X.1.1 X.1.2.1 dX5_come_28 rfl (lv_at hl 1 rfl) ?_
      refine sx_get X hP in_X5_come_X5 h1 (by decide) rfl 6 (by decide) lk_X5_come_fieldLink_RX5_43_RaceWatch_World_log_LRaceWatch_Log rfl dX5_come_29 ?_
      refine lv_iload_n X.1.1 X.1.2.1 dX5_come_32 rfl (lv_at hl 2 rfl) ?_
      refine lv_iload_n X.1.1 X.1.2.1 dX5_come_33 rfl (lv_at hl 3 rfl) ?_
      refine lv_iload_n X.1.1 X.1.2.1 dX5_come_34 rfl (lv_at hl 4 rfl) ?_
      refine lv_iload X.1.1 X.1.2.1 dX5_come_35 (lv_at hl 0 rfl) ?_
      refine lv_aload_n X.1.1 X.1.2.1 dX5_come_37 rfl (lv_at hl 1 rfl) ?_
      refine sx_get X hP in_X5_come_X5 h1 (by decide) rfl 2 (by decide) lk_X5_come_fieldLink_RX5_23_RaceWatch_World_ofThreads_LRaceWatch_Clocks rfl dX5_come_38 ?_
      refine sx_cvI (As := [.int (nI (t)), .int (nI 1), .int (nI (x)), .int (heldF (tiH 1 ho t x) (nI (t))), rf G 4]) (rest := []) X (mX3_append l (M := M) (t := t) (s := 1) (x := x) (lk := (heldF (tiH 1 ho t x) (nI (t)))) hM ht h19 h20 h21 h22 h23 h24 h25 h4 h5) gX5_come_X3_append rfl yv_X3_append ⟨Nat.le_of_ble_eq_true rfl, Nat.le_of_ble_eq_true rfl⟩ h19 (by decide) rfl rfl hl.1 rfl (Nat.le_of_ble_eq_true rfl) dX5_come_41 ⟨Nat.le_of_ble_eq_true rfl, Nat.le_of_ble_eq_true rfl⟩ hs rfl hP (fun r13 F13 H13 l13 hp hP => ?_)
      obtain ⟨e13, f13, g13, d13, b13, a13, o13, rfl⟩ := hp
      have h1 := (o13 (1) (by decide)).trans h1
      have h2 := (o13 (2) (by decide)).trans h2
      have h3 := (o13 (3) (by decide)).trans h3
      have h4 := (o13 (4) (by decide)).trans h4
      have h5 := (o13 (5) (by decide)).trans h5
      have h6 := (o13 (6) (by decide)).trans h6
      have h7 := (o13 (7) (by decide)).trans h7
      have h8 := (o13 (8) (by decide)).trans h8
      have h9 := (o13 (9) (by decide)).trans h9
      have h10 := (o13 (10) (by decide)).trans h10
      have h19 : F13 (19) = ob 3 ([.int (nI (1 + M)), rf G 20, rf G 21, rf G 22, rf G 23, rf G 24, rf G 26, rf G 27]) := e13
      have h20 : F13 (20) = rI G (160) (upd th M (nI t)) := f13
      have h21 : F13 (21) = rI G (160) (upd so M (nI 1)) := g13
      have h22 : F13 (22) = rI G (160) (upd wi M (nI x)) := d13
      have h23 : F13 (23) = rI G (160) (upd lo M (heldF (tiH 1 ho t x) (nI (t)))) := b13
      have h24 := (o13 (24) (by decide)).trans h24
      have h25 : F13 (25) = rI G (640) (va_cpy (tiC 1 ct cl cs t x) lc (4 * t) (4 * M) 4) := a13
      have h26 := (o13 (26) (by decide)).trans h26
      have h27 := (o13 (27) (by decide)).trans h27
      have h11___2___x := (o13 (11 + 2 * x) (by omega)).trans h11___2___x
      have h12___2___x := (o13 (12 + 2 * x) (by omega)).trans h12___2___x
      have hO : ∀ j, j = 0 ∨ 27 < j ∨ (10 < j ∧ j < 19 ∧ j ≠ 11 + 2 * x ∧ j ≠ 12 + 2 * x) → F13 j = F j := fun j hj => (o13 j (by omega)).trans (hO j hj)
      refine lv_istore (lv' := [(5, .int (nI (M))), (4, .int (heldF (tiH 1 ho t x) (nI (t)))), (0, rf G 1), (1, .int (nI (t))), (2, .int (nI 1)), (3, .int (nI (x)))]) X.1.1 X.1.2.1 dX5_come_44 hl (by decide) rfl (fun ls hl => ?_)
      refine lv_iload_n X.1.1 X.1.2.1 dX5_come_46 rfl (lv_at hl 4 rfl) ?_
      refine sx_if_eq X (by decide) (tgt := 55) dX5_come_47 (by decide) (fun h => absurd h (by decide)) (fun _ => ?_)
      refine lv_iload_n X.1.1 X.1.2.1 dX5_come_50 rfl (lv_at hl 4 rfl) ?_
      refine lv_iconst (v := nI 1) X.1.1 X.1.2.1 dX5_come_51 (by decide) ?_
      refine sx_icmp_ne X (by decide) (by decide) (tgt := 92) dX5_come_52 (by decide) (fun h => absurd h (by decide)) (fun _ => ?_)
      refine lv_aload_n X.1.1 X.1.2.1 dX5_come_55 rfl (lv_at hl 2 rfl) ?_
      refine sx_get X hP in_X5_come_X5 h1 (by decide) rfl 6 (by decide) lk_X5_come_fieldLink_RX5_43_RaceWatch_World_log_LRaceWatch_Log rfl dX5_come_56 ?_
      refine lv_iload X.1.1 X.1.2.1 dX5_come_59 (lv_at hl 0 rfl) ?_
      refine sx_cvV (As := [.int (nI (M))]) (rest := []) X (mX3_countRaces l (v := comeF w M t 1 x) (M := 1 + M) (f := M) (c := x) hLV1 (by omega) hwf1.2.2.1 (by omega) hx haf (come_wi ht) h19 h20 h21 h22 h23 h24 h25 h26 h27) gX5_come_X3_countRaces rfl yv_X3_countRaces ⟨Nat.le_of_ble_eq_true rfl, Nat.le_of_ble_eq_true rfl⟩ h19 (by decide) rfl rfl hl.1 rfl (Nat.le_of_ble_eq_true rfl) dX5_come_61 ⟨Nat.le_of_ble_eq_true rfl, Nat.le_of_ble_eq_true rfl⟩ hs rfl hP (fun F14 H14 l14 hp hP => ?_)
      obtain ⟨⟨rz14, e14, hr14, hq14⟩, f14, o14⟩ := hp
      have h1 := (o14 (1) (by decide)).trans h1
      have h2 := (o14 (2) (by decide)).trans h2
      have h3 := (o14 (3) (by decide)).trans h3
      have h4 := (o14 (4) (by decide)).trans h4
      have h5 := (o14 (5) (by decide)).trans h5
      have h6 := (o14 (6) (by decide)).trans h6
      have h7 := (o14 (7) (by decide)).trans h7
      have h8 := (o14 (8) (by decide)).trans h8
      have h9 := (o14 (9) (by decide)).trans h9
      have h10 := (o14 (10) (by decide)).trans h10
      have h19 := (o14 (19) (by decide)).trans h19
      have h20 := (o14 (20) (by decide)).trans h20
      have h21 := (o14 (21) (by decide)).trans h21
      have h22 := (o14 (22) (by decide)).trans h22
      have h23 := (o14 (23) (by decide)).trans h23
      have h24 := (o14 (24) (by decide)).trans h24
      have h25 := (o14 (25) (by decide)).trans h25
      have h26 : F14 (26) = rI G (160) (upd rb M (nI (cntE (comeF w M t 1 x) x 3 M M))) := f14
      have h27 : F14 (27) = rI G (12) (rz14) := e14
      have h11___2___x := (o14 (11 + 2 * x) (by omega)).trans h11___2___x
      have h12___2___x := (o14 (12 + 2 * x) (by omega)).trans h12___2___x
      have hO : ∀ j, j = 0 ∨ 27 < j ∨ (10 < j ∧ j < 19 ∧ j ≠ 11 + 2 * x ∧ j ≠ 12 + 2 * x) → F14 j = F j := fun j hj => (o14 j (by omega)).trans (hO j hj)
      refine lv_aload_n X.1.1 X.1.2.1 dX5_come_64 rfl (lv_at hl 2 rfl) ?_
      refine sx_get X hP in_X5_come_X5 h1 (by decide) rfl 5 (by decide) lk_X5_come_fieldLink_RX5_36_RaceWatch_World_cells_LRaceWatch_Kept rfl dX5_come_65 ?_
      refine lv_iload_n X.1.1 X.1.2.1 dX5_come_68 rfl (lv_at hl 5 rfl) ?_
      refine sx_kald X hP h10 (by decide) (x) (by omega) (by decide) (q := 11 + 2 * x) ((hkr _ (by omega)).trans (congrArg some (by omega))) dX5_come_69 ?_
      refine lv_iload_n X.1.1 X.1.2.1 dX5_come_70 rfl (lv_at hl 4 rfl) ?_
      refine lv_iconst (v := nI 1) X.1.1 X.1.2.1 dX5_come_71 (by decide) ?_
      refine sx_icmp_ne X (by decide) (by decide) (tgt := 79) dX5_come_72 (by decide) (fun h => absurd h (by decide)) (fun _ => ?_)
      refine lv_iconst (v := nI 1) X.1.1 X.1.2.1 dX5_come_75 (by decide) ?_
      refine lv_goto (tgt := 80) X.1.1 X.1.2.1 dX5_come_76 (by decide) ?_
      refine lv_aload_n X.1.1 X.1.2.1 dX5_come_80 rfl (lv_at hl 2 rfl) ?_
      refine sx_get X hP in_X5_come_X5 h1 (by decide) rfl 2 (by decide) lk_X5_come_fieldLink_RX5_23_RaceWatch_World_ofThreads_LRaceWatch_Clocks rfl dX5_come_81 ?_
      refine lv_iload_n X.1.1 X.1.2.1 dX5_come_84 rfl (lv_at hl 3 rfl) ?_
      refine lv_iload X.1.1 X.1.2.1 dX5_come_85 (lv_at hl 0 rfl) ?_
      refine lv_iload X.1.1 X.1.2.1 dX5_come_87 (lv_at hl 1 rfl) ?_
      refine sx_cvV (As := [.int (nI 1), rf G 4, .int (nI (t)), .int (nI (M)), .int (heldF (tiH 1 ho t x) (nI (t)))]) (rest := []) X (mX2_access l (ki := 11 + 2 * x) (kj := 12 + 2 * x) (ci := 4) (cj := 5) (t := t) (c := x) (w := w) (by omega) (by omega) (by decide) (by decide) (by omega) (by omega) (by omega) (by omega) (by omega) (by decide) ht hx (hok x hx) hnr hRV.2.2.1 (wr := 1) (m := M) (lk := (heldF (tiH 1 ho t x) (nI (t)))) (by decide) hwf.1 h11___2___x h12___2___x h4 h5) gX5_come_X2_access rfl yv_X2_access ⟨Nat.le_of_ble_eq_true rfl, Nat.le_of_ble_eq_true rfl⟩ h11___2___x (by omega) rfl rfl hl.1 rfl (Nat.le_of_ble_eq_true rfl) dX5_come_89 ⟨Nat.le_of_ble_eq_true rfl, Nat.le_of_ble_eq_true rfl⟩ hs rfl hP (fun F15 H15 l15 hp hP => ?_)
      obtain ⟨e15, ⟨n15, f15, hn15⟩, o15⟩ := hp
      have h1 := (o15 (1) (by omega)).trans h1
      have h2 := (o15 (2) (by omega)).trans h2
      have h3 := (o15 (3) (by omega)).trans h3
      have h4 := (o15 (4) (by omega)).trans h4
      have h5 := (o15 (5) (by omega)).trans h5
      have h6 := (o15 (6) (by omega)).trans h6
      have h7 := (o15 (7) (by omega)).trans h7
      have h8 := (o15 (8) (by omega)).trans h8
      have h9 := (o15 (9) (by omega)).trans h9
      have h10 := (o15 (10) (by omega)).trans h10
      have h19 := (o15 (19) (by omega)).trans h19
      have h20 := (o15 (20) (by omega)).trans h20
      have h21 := (o15 (21) (by omega)).trans h21
      have h22 := (o15 (22) (by omega)).trans h22
      have h23 := (o15 (23) (by omega)).trans h23
      have h24 := (o15 (24) (by omega)).trans h24
      have h25 := (o15 (25) (by omega)).trans h25
      have h26 := (o15 (26) (by omega)).trans h26
      have h27 := (o15 (27) (by omega)).trans h27
      have h11___2___x : F15 (11 + 2 * x) = ob 2 ([.int (accF w t x 1 (43 + 12 * x)), .int (accF w t x 1 (44 + 12 * x)), .int (accF w t x 1 (45 + 12 * x)), .int (accF w t x 1 (46 + 12 * x)), .int (accF w t x 1 (47 + 12 * x)), rf G (12 + 2 * x), .int (accF w t x 1 (52 + 12 * x)), .int (accF w t x 1 (53 + 12 * x)), .int (accF w t x 1 (54 + 12 * x)), .int (gdF w x M &&& (heldF (tiH 1 ho t x) (nI (t))))]) := e15
      have h12___2___x : F15 (12 + 2 * x) = rI G (4) (n15) := f15
      have hO : ∀ j, j = 0 ∨ 27 < j ∨ (10 < j ∧ j < 19 ∧ j ≠ 11 + 2 * x ∧ j ≠ 12 + 2 * x) → F15 j = F j := fun j hj => (o15 j (by omega)).trans (hO j hj)
      refine lv_aload_n X.1.1 X.1.2.1 dX5_come_92 rfl (lv_at hl 2 rfl) ?_
      refine lv_iload_n X.1.1 X.1.2.1 dX5_come_93 rfl (lv_at hl 3 rfl) ?_
      refine lv_iload_n X.1.1 X.1.2.1 dX5_come_94 rfl (lv_at hl 4 rfl) ?_
      refine lv_iload_n X.1.1 X.1.2.1 dX5_come_95 rfl (lv_at hl 5 rfl) ?_
      refine sx_cvV (As := [.int (nI (t)), .int (nI 1), .int (nI (x))]) (rest := []) X (mX5_handOn l (ho := ho) (t := t) (s := 1) (x := x) ht (by decide) hx h1 h2 h4 h5 h6 h7 h8 h9) gX5_come_X5_handOn rfl yv_X5_handOn ⟨Nat.le_of_ble_eq_true rfl, Nat.le_of_ble_eq_true rfl⟩ h1 (by decide) rfl rfl hl.1 rfl (Nat.le_of_ble_eq_true rfl) dX5_come_96 ⟨Nat.le_of_ble_eq_true rfl, Nat.le_of_ble_eq_true rfl⟩ hs rfl hP (fun F16 H16 l16 hp hP => ?_)
      obtain ⟨e16, f16, g16, d16, o16⟩ := hp
      have h1 := (o16 (1) (by decide)).trans h1
      have h2 : F16 (2) = rI G (4) (haS 1 (tiS 1 st x) x) := e16
      have h3 := (o16 (3) (by decide)).trans h3
      have h4 := (o16 (4) (by decide)).trans h4
      have h5 : F16 (5) = rI G (16) (haC 1 (tiC 1 ct cl cs t x) t x) := f16
      have h6 := (o16 (6) (by decide)).trans h6
      have h7 : F16 (7) = rI G (12) (haL 1 cl (tiC 1 ct cl cs t x) t x) := g16
      have h8 := (o16 (8) (by decide)).trans h8
      have h9 : F16 (9) = rI G (8) (haE 1 cs (tiC 1 ct cl cs t x) t x) := d16
      have h10 := (o16 (10) (by decide)).trans h10
      have h19 := (o16 (19) (by decide)).trans h19
      have h20 := (o16 (20) (by decide)).trans h20
      have h21 := (o16 (21) (by decide)).trans h21
      have h22 := (o16 (22) (by decide)).trans h22
      have h23 := (o16 (23) (by decide)).trans h23
      have h24 := (o16 (24) (by decide)).trans h24
      have h25 := (o16 (25) (by decide)).trans h25
      have h26 := (o16 (26) (by decide)).trans h26
      have h27 := (o16 (27) (by decide)).trans h27
      have h11___2___x := (o16 (11 + 2 * x) (by omega)).trans h11___2___x
      have h12___2___x := (o16 (12 + 2 * x) (by omega)).trans h12___2___x
      have hO : ∀ j, j = 0 ∨ 27 < j ∨ (10 < j ∧ j < 19 ∧ j ≠ 11 + 2 * x ∧ j ≠ 12 + 2 * x) → F16 j = F j := fun j hj => (o16 j (by omega)).trans (hO j hj)
      refine lv_iload X.1.1 X.1.2.1 dX5_come_99 (lv_at hl 0 rfl) ?_
      have hO2 : ∀ j, (j = 0 ∨ 27 < j) → F16 j = F j := fun j hj => hO j (by omega)
      have hd : ∀ k, k < 91 → comeF w M t 1 x k = accF w t x 1 k := fun k hk => comeF_no hk ht (Or.inr (by unfold hasS; omega))
      have hgy := gd_yes (n := M) hok ht (by decide) hxB hx (by decide) htk.1
      have hKc : ∀ c, c < 4 → KV G F16 (comeF w M t 1 x) (1 + M) 1 c := fun c hc => by
        by_cases q : x = c
        · subst q; refine ⟨h11___2___x.trans ?_, _, h12___2___x, fun k hk => (hn15 k hk).trans (hd _ (by omega)).symm⟩
          rw [hd (43 + 12 * x) (by omega), hd (44 + 12 * x) (by omega), hd (45 + 12 * x) (by omega), hd (46 + 12 * x) (by omega), hd (47 + 12 * x) (by omega), hd (52 + 12 * x) (by omega), hd (53 + 12 * x) (by omega), hd (54 + 12 * x) (by omega), hgy]
        · exact KV_come hok ht (by decide) hxB hc (Or.inr q) (hKV c hc) (hO _ (by omega)) (hO _ (by omega))
      rw [hQ]
      exact sx_iret X rfl hs rfl hP dX5_come_101 (⟨⟨_, _, _, _, _, kr, r4, r6, r8, h1, h2, h3, h4, h5, h6, h7, h8, h9, h10, hkr, hco, hKc, ⟨_, _, _, _, _, _, _, rr, h19, h20, h21, h22, h23, h24, h25, h26, h27, hLV1, RB_come hok hwf.2.2.1 ht (by decide) hxB hRB (fun f hf => pk_un (by omega)) (fun _ => pk_us), RC_come hok hwf.2.2.1 ht (by decide) hxB hRC (fun _ => hr14) (fun j hj => hq14 j (by omega))⟩, hRw⟩, hO2, rfl⟩)
    · exact absurd (by omega) b10
  · have hxB : x < boundF 2 := hx
    have hx : x < 3 := hx
    obtain ⟨st, ho, ct, cl, cs, kr, r4, r6, r8, h1, h2, h3, h4, h5, h6, h7, h8, h9, h10, hkr, hRV, hKV, hLg, hRw⟩ := hW
    obtain ⟨th, so, wi, lo, lc, rb, rc, rr, h19, h20, h21, h22, h23, h24, h25, h26, h27, hLV, hRB, hRC⟩ := hLg
    have h1 : F 1 = ob 5 ([rf G 2, rf G 3, rf G 4, rf G 6, rf G 8, rf G 10, rf G 19]) := h1
    have h2 : F 2 = rI G (4) (st) := h2
    have h3 : F 3 = rI G (3) (ho) := h3
    have h4 : F 4 = ob 1 ([r4, rf G 5]) := h4
    have h5 : F 5 = rI G (16) (ct) := h5
    have h6 : F 6 = ob 1 ([r6, rf G 7]) := h6
    have h7 : F 7 = rI G (12) (cl) := h7
    have h8 : F 8 = ob 1 ([r8, rf G 9]) := h8
    have h9 : F 9 = rI G (8) (cs) := h9
    have h10 : F 10 = rK G (4) (kr) := h10
    have h19 : F 19 = ob 3 ([.int (nI (M)), rf G 20, rf G 21, rf G 22, rf G 23, rf G 24, rf G 26, rf G 27]) := h19
    have h20 : F 20 = rI G (160) (th) := h20
    have h21 : F 21 = rI G (160) (so) := h21
    have h22 : F 22 = rI G (160) (wi) := h22
    have h23 : F 23 = rI G (160) (lo) := h23
    have h24 : F 24 = ob 1 ([rr, rf G 25]) := h24
    have h25 : F 25 = rI G (640) (lc) := h25
    have h26 : F 26 = rI G (160) (rb) := h26
    have h27 : F 27 = rI G (12) (rc) := h27
    have hkr : ∀ j, j < 4 → kr j = some (sx_b G + (11 + 2 * j)) := hkr
    obtain ⟨hKx, nrx, hNx, hnr⟩ := hKV x (by omega)
    have h11___2___x : F (11 + 2 * x) = ob 2 ([.int (w (43 + 12 * x)), .int (w (44 + 12 * x)), .int (w (45 + 12 * x)), .int (w (46 + 12 * x)), .int (w (47 + 12 * x)), rf G (12 + 2 * x), .int (w (52 + 12 * x)), .int (w (53 + 12 * x)), .int (w (54 + 12 * x)), .int (gdF w x M)]) := hKx
    have h12___2___x : F (12 + 2 * x) = rI G 4 nrx := hNx
    have hok := hwf.2.2.2.1
    have hwf1 := WF_come hwf hM ht (by decide) hxB hxt
    have htk := tk_rows hok hRV ht (by decide) hxB hxt
    have hco := co_rows (n := M) hok hRV ht (by decide) hxB hxt
    have hLV1 := LV_come (n := M) hok hLV ht (by decide) hxB htk.2 htk.1
    refine lv_aload_n X.1.1 X.1.2.1 dX5_come_0 rfl (lv_at hl 0 rfl) ?_
    refine sx_get X hP in_X5_come_X5 h1 (by decide) rfl 6 (by decide) lk_X5_come_fieldLink_RX5_43_RaceWatch_World_log_LRaceWatch_Log rfl dX5_come_1 ?_
    refine lv_iconst (v := nI 1) X.1.1 X.1.2.1 dX5_come_4 (by decide) ?_
    refine sx_cvI (As := [.int (nI 1)]) (rest := []) X (mX3_hasRoom l (M := M) (k := 1) (by omega) (by omega) h19) gX5_come_X3_hasRoom rfl yv_X3_hasRoom ⟨Nat.le_of_ble_eq_true rfl, Nat.le_of_ble_eq_true rfl⟩ h19 (by decide) rfl rfl hl.1 rfl (Nat.le_of_ble_eq_true rfl) dX5_come_5 ⟨Nat.le_of_ble_eq_true rfl, Nat.le_of_ble_eq_true rfl⟩ hs rfl hP (fun r17 F17 H17 l17 hp hP => ?_)
    obtain ⟨rfl, ⟨b18, rfl⟩ | ⟨b18, rfl⟩⟩ := hp
    · refine sx_if_ne X (by decide) (tgt := 14) dX5_come_8 (by decide) (fun _ => ?_) (fun h => absurd h (by decide))
      refine lv_aload_n X.1.1 X.1.2.1 dX5_come_14 rfl (lv_at hl 0 rfl) ?_
      refine lv_iload_n X.1.1 X.1.2.1 dX5_come_15 rfl (lv_at hl 1 rfl) ?_
      refine lv_iload_n X.1.1 X.1.2.1 dX5_come_16 rfl (lv_at hl 2 rfl) ?_
      refine lv_iload_n X.1.1 X.1.2.1 dX5_come_17 rfl (lv_at hl 3 rfl) ?_
      refine sx_cvV (As := [.int (nI (t)), .int (nI 2), .int (nI (x))]) (rest := []) X (mX5_takeIn l (t := t) (s := 2) (x := x) ht (by decide) hx h1 h2 h3 h4 h5 h6 h7 h8 h9) gX5_come_X5_takeIn rfl yv_X5_takeIn ⟨Nat.le_of_ble_eq_true rfl, Nat.le_of_ble_eq_true rfl⟩ h1 (by decide) rfl rfl hl.1 rfl (Nat.le_of_ble_eq_true rfl) dX5_come_18 ⟨Nat.le_of_ble_eq_true rfl, Nat.le_of_ble_eq_true rfl⟩ hs rfl hP (fun F19 H19 l19 hp hP => ?_)
      obtain ⟨e19, f19, g19, o19⟩ := hp
      have h1 := (o19 (1) (by decide)).trans h1
      have h2 : F19 (2) = rI G (4) (tiS 2 st x) := e19
      have h3 : F19 (3) = rI G (3) (tiH 2 ho t x) := f19
      have h4 := (o19 (4) (by decide)).trans h4
      have h5 : F19 (5) = rI G (16) (tiC 2 ct cl cs t x) := g19
      have h6 := (o19 (6) (by decide)).trans h6
      have h7 := (o19 (7) (by decide)).trans h7
      have h8 := (o19 (8) (by decide)).trans h8
      have h9 := (o19 (9) (by decide)).trans h9
      have h10 := (o19 (10) (by decide)).trans h10
      have h19 := (o19 (19) (by decide)).trans h19
      have h20 := (o19 (20) (by decide)).trans h20
      have h21 := (o19 (21) (by decide)).trans h21
      have h22 := (o19 (22) (by decide)).trans h22
      have h23 := (o19 (23) (by decide)).trans h23
      have h24 := (o19 (24) (by decide)).trans h24
      have h25 := (o19 (25) (by decide)).trans h25
      have h26 := (o19 (26) (by decide)).trans h26
      have h27 := (o19 (27) (by decide)).trans h27
      have h11___2___x := (o19 (11 + 2 * x) (by omega)).trans h11___2___x
      have h12___2___x := (o19 (12 + 2 * x) (by omega)).trans h12___2___x
      have hO : ∀ j, j = 0 ∨ 27 < j ∨ (10 < j ∧ j < 19 ∧ j ≠ 11 + 2 * x ∧ j ≠ 12 + 2 * x) → F19 j = F j := fun j hj => (o19 j (by omega)).trans (hO j hj)
      refine lv_aload_n X.1.1 X.1.2.1 dX5_come_21 rfl (lv_at hl 0 rfl) ?_
      refine lv_iload_n X.1.1 X.1.2.1 dX5_come_22 rfl (lv_at hl 1 rfl) ?_
      refine sx_cvI (As := [.int (nI (t))]) (rest := []) X (mX5_locksOf l (t := t) h1 h3) gX5_come_X5_locksOf rfl yv_X5_locksOf ⟨Nat.le_of_ble_eq_true rfl, Nat.le_of_ble_eq_true rfl⟩ h1 (by decide) rfl rfl hl.1 rfl (Nat.le_of_ble_eq_true rfl) dX5_come_23 ⟨Nat.le_of_ble_eq_true rfl, Nat.le_of_ble_eq_true rfl⟩ hs rfl hP (fun r20 F20 H20 l20 hp hP => ?_)
      obtain ⟨rfl, rfl⟩ := hp
      refine lv_istore (lv' := [(4, .int (heldF (tiH 2 ho t x) (nI (t)))), (0, rf G 1), (1, .int (nI (t))), (2, .int (nI 2)), (3, .int (nI (x)))]) X.1.1 X.1.2.1 dX5_come_26 hl (by decide) rfl (fun ls hl => ?_)
      refine lv_aload_n X.1.1 X.1.2.1 dX5_come_28 rfl (lv_at hl 1 rfl) ?_
      refine sx_get X hP in_X5_come_X5 h1 (by decide) rfl 6 (by decide) lk_X5_come_fieldLink_RX5_43_RaceWatch_World_log_LRaceWatch_Log rfl dX5_come_29 ?_
      refine lv_iload_n X.1.1 X.1.2.1 dX5_come_32 rfl (lv_at hl 2 rfl) ?_
      refine lv_iload_n X.1.1 X.1.2.1 dX5_come_33 rfl (lv_at hl 3 rfl) ?_
      refine lv_iload_n X.1.1 X.1.2.1 dX5_come_34 rfl (lv_at hl 4 rfl) ?_
      refine lv_iload X.1.1 X.1.2.1 dX5_come_35 (lv_at hl 0 rfl) ?_
      refine lv_aload_n X.1.1 X.1.2.1 dX5_come_37 rfl (lv_at hl 1 rfl) ?_
      refine sx_get X hP in_X5_come_X5 h1 (by decide) rfl 2 (by decide) lk_X5_come_fieldLink_RX5_23_RaceWatch_World_ofThreads_LRaceWatch_Clocks rfl dX5_come_38 ?_
      refine sx_cvI (As := [.int (nI (t)), .int (nI 2), .int (nI (x)), .int (heldF (tiH 2 ho t x) (nI (t))), rf G 4]) (rest := []) X (mX3_append l (M := M) (t := t) (s := 2) (x := x) (lk := (heldF (tiH 2 ho t x) (nI (t)))) hM ht h19 h20 h21 h22 h23 h24 h25 h4 h5) gX5_come_X3_append rfl yv_X3_append ⟨Nat.le_of_ble_eq_true rfl, Nat.le_of_ble_eq_true rfl⟩ h19 (by decide) rfl rfl hl.1 rfl (Nat.le_of_ble_eq_true rfl) dX5_come_41 ⟨Nat.le_of_ble_eq_true rfl, Nat.le_of_ble_eq_true rfl⟩ hs rfl hP (fun r21 F21 H21 l21 hp hP => ?_)
      obtain ⟨e21, f21, g21, d21, b21, a21, o21, rfl⟩ := hp
      have h1 := (o21 (1) (by decide)).trans h1
      have h2 := (o21 (2) (by decide)).trans h2
      have h3 := (o21 (3) (by decide)).trans h3
      have h4 := (o21 (4) (by decide)).trans h4
      have h5 := (o21 (5) (by decide)).trans h5
      have h6 := (o21 (6) (by decide)).trans h6
      have h7 := (o21 (7) (by decide)).trans h7
      have h8 := (o21 (8) (by decide)).trans h8
      have h9 := (o21 (9) (by decide)).trans h9
      have h10 := (o21 (10) (by decide)).trans h10
      have h19 : F21 (19) = ob 3 ([.int (nI (1 + M)), rf G 20, rf G 21, rf G 22, rf G 23, rf G 24, rf G 26, rf G 27]) := e21
      have h20 : F21 (20) = rI G (160) (upd th M (nI t)) := f21
      have h21 : F21 (21) = rI G (160) (upd so M (nI 2)) := g21
      have h22 : F21 (22) = rI G (160) (upd wi M (nI x)) := d21
      have h23 : F21 (23) = rI G (160) (upd lo M (heldF (tiH 2 ho t x) (nI (t)))) := b21
      have h24 := (o21 (24) (by decide)).trans h24
      have h25 : F21 (25) = rI G (640) (va_cpy (tiC 2 ct cl cs t x) lc (4 * t) (4 * M) 4) := a21
      have h26 := (o21 (26) (by decide)).trans h26
      have h27 := (o21 (27) (by decide)).trans h27
      have h11___2___x := (o21 (11 + 2 * x) (by omega)).trans h11___2___x
      have h12___2___x := (o21 (12 + 2 * x) (by omega)).trans h12___2___x
      have hO : ∀ j, j = 0 ∨ 27 < j ∨ (10 < j ∧ j < 19 ∧ j ≠ 11 + 2 * x ∧ j ≠ 12 + 2 * x) → F21 j = F j := fun j hj => (o21 j (by omega)).trans (hO j hj)
      refine lv_istore (lv' := [(5, .int (nI (M))), (4, .int (heldF (tiH 2 ho t x) (nI (t)))), (0, rf G 1), (1, .int (nI (t))), (2, .int (nI 2)), (3, .int (nI (x)))]) X.1.1 X.1.2.1 dX5_come_44 hl (by decide) rfl (fun ls hl => ?_)
      refine lv_iload_n X.1.1 X.1.2.1 dX5_come_46 rfl (lv_at hl 4 rfl) ?_
      refine sx_if_eq X (by decide) (tgt := 55) dX5_come_47 (by decide) (fun h => absurd h (by decide)) (fun _ => ?_)
      refine lv_iload_n X.1.1 X.1.2.1 dX5_come_50 rfl (lv_at hl 4 rfl) ?_
      refine lv_iconst (v := nI 1) X.1.1 X.1.2.1 dX5_come_51 (by decide) ?_
      refine sx_icmp_ne X (by decide) (by decide) (tgt := 92) dX5_come_52 (by decide) (fun _ => ?_) (fun h => absurd h (by decide))
      refine lv_aload_n X.1.1 X.1.2.1 dX5_come_92 rfl (lv_at hl 2 rfl) ?_
      refine lv_iload_n X.1.1 X.1.2.1 dX5_come_93 rfl (lv_at hl 3 rfl) ?_
      refine lv_iload_n X.1.1 X.1.2.1 dX5_come_94 rfl (lv_at hl 4 rfl) ?_
      refine lv_iload_n X.1.1 X.1.2.1 dX5_come_95 rfl (lv_at hl 5 rfl) ?_
      refine sx_cvV (As := [.int (nI (t)), .int (nI 2), .int (nI (x))]) (rest := []) X (mX5_handOn l (ho := ho) (t := t) (s := 2) (x := x) ht (by decide) hx h1 h2 h4 h5 h6 h7 h8 h9) gX5_come_X5_handOn rfl yv_X5_handOn ⟨Nat.le_of_ble_eq_true rfl, Nat.le_of_ble_eq_true rfl⟩ h1 (by decide) rfl rfl hl.1 rfl (Nat.le_of_ble_eq_true rfl) dX5_come_96 ⟨Nat.le_of_ble_eq_true rfl, Nat.le_of_ble_eq_true rfl⟩ hs rfl hP (fun F22 H22 l22 hp hP => ?_)
      obtain ⟨e22, f22, g22, d22, o22⟩ := hp
      have h1 := (o22 (1) (by decide)).trans h1
      have h2 : F22 (2) = rI G (4) (haS 2 (tiS 2 st x) x) := e22
      have h3 := (o22 (3) (by decide)).trans h3
      have h4 := (o22 (4) (by decide)).trans h4
      have h5 : F22 (5) = rI G (16) (haC 2 (tiC 2 ct cl cs t x) t x) := f22
      have h6 := (o22 (6) (by decide)).trans h6
      have h7 : F22 (7) = rI G (12) (haL 2 cl (tiC 2 ct cl cs t x) t x) := g22
      have h8 := (o22 (8) (by decide)).trans h8
      have h9 : F22 (9) = rI G (8) (haE 2 cs (tiC 2 ct cl cs t x) t x) := d22
      have h10 := (o22 (10) (by decide)).trans h10
      have h19 := (o22 (19) (by decide)).trans h19
      have h20 := (o22 (20) (by decide)).trans h20
      have h21 := (o22 (21) (by decide)).trans h21
      have h22 := (o22 (22) (by decide)).trans h22
      have h23 := (o22 (23) (by decide)).trans h23
      have h24 := (o22 (24) (by decide)).trans h24
      have h25 := (o22 (25) (by decide)).trans h25
      have h26 := (o22 (26) (by decide)).trans h26
      have h27 := (o22 (27) (by decide)).trans h27
      have h11___2___x := (o22 (11 + 2 * x) (by omega)).trans h11___2___x
      have h12___2___x := (o22 (12 + 2 * x) (by omega)).trans h12___2___x
      have hO : ∀ j, j = 0 ∨ 27 < j ∨ (10 < j ∧ j < 19 ∧ j ≠ 11 + 2 * x ∧ j ≠ 12 + 2 * x) → F22 j = F j := fun j hj => (o22 j (by omega)).trans (hO j hj)
      refine lv_iload X.1.1 X.1.2.1 dX5_come_99 (lv_at hl 0 rfl) ?_
      have hO2 : ∀ j, (j = 0 ∨ 27 < j) → F22 j = F j := fun j hj => hO j (by omega)
      have hKc : ∀ c, c < 4 → KV G F22 (comeF w M t 2 x) (1 + M) 1 c := fun c hc => by
        by_cases q : x = c
        · subst q; exact KV_come hok ht (by decide) hxB hc (Or.inl (by decide)) (hKV x hc) (h11___2___x.trans hKx.symm) (h12___2___x.trans hNx.symm)
        · exact KV_come hok ht (by decide) hxB hc (Or.inr q) (hKV c hc) (hO _ (by omega)) (hO _ (by omega))
      rw [hQ]
      exact sx_iret X rfl hs rfl hP dX5_come_101 (⟨⟨_, _, _, _, _, kr, r4, r6, r8, h1, h2, h3, h4, h5, h6, h7, h8, h9, h10, hkr, hco, hKc, ⟨_, _, _, _, _, _, _, rr, h19, h20, h21, h22, h23, h24, h25, h26, h27, hLV1, RB_come hok hwf.2.2.1 ht (by decide) hxB hRB (fun _ _ => rfl) (fun q => absurd q (by decide)), RC_come hok hwf.2.2.1 ht (by decide) hxB hRC (fun q => absurd q (by decide)) (fun _ _ => rfl)⟩, hRw⟩, hO2, rfl⟩)
    · exact absurd (by omega) b18
  · have hxB : x < boundF 3 := hx
    have hx : x < 3 := hx
    obtain ⟨st, ho, ct, cl, cs, kr, r4, r6, r8, h1, h2, h3, h4, h5, h6, h7, h8, h9, h10, hkr, hRV, hKV, hLg, hRw⟩ := hW
    obtain ⟨th, so, wi, lo, lc, rb, rc, rr, h19, h20, h21, h22, h23, h24, h25, h26, h27, hLV, hRB, hRC⟩ := hLg
    have h1 : F 1 = ob 5 ([rf G 2, rf G 3, rf G 4, rf G 6, rf G 8, rf G 10, rf G 19]) := h1
    have h2 : F 2 = rI G (4) (st) := h2
    have h3 : F 3 = rI G (3) (ho) := h3
    have h4 : F 4 = ob 1 ([r4, rf G 5]) := h4
    have h5 : F 5 = rI G (16) (ct) := h5
    have h6 : F 6 = ob 1 ([r6, rf G 7]) := h6
    have h7 : F 7 = rI G (12) (cl) := h7
    have h8 : F 8 = ob 1 ([r8, rf G 9]) := h8
    have h9 : F 9 = rI G (8) (cs) := h9
    have h10 : F 10 = rK G (4) (kr) := h10
    have h19 : F 19 = ob 3 ([.int (nI (M)), rf G 20, rf G 21, rf G 22, rf G 23, rf G 24, rf G 26, rf G 27]) := h19
    have h20 : F 20 = rI G (160) (th) := h20
    have h21 : F 21 = rI G (160) (so) := h21
    have h22 : F 22 = rI G (160) (wi) := h22
    have h23 : F 23 = rI G (160) (lo) := h23
    have h24 : F 24 = ob 1 ([rr, rf G 25]) := h24
    have h25 : F 25 = rI G (640) (lc) := h25
    have h26 : F 26 = rI G (160) (rb) := h26
    have h27 : F 27 = rI G (12) (rc) := h27
    have hkr : ∀ j, j < 4 → kr j = some (sx_b G + (11 + 2 * j)) := hkr
    obtain ⟨hKx, nrx, hNx, hnr⟩ := hKV x (by omega)
    have h11___2___x : F (11 + 2 * x) = ob 2 ([.int (w (43 + 12 * x)), .int (w (44 + 12 * x)), .int (w (45 + 12 * x)), .int (w (46 + 12 * x)), .int (w (47 + 12 * x)), rf G (12 + 2 * x), .int (w (52 + 12 * x)), .int (w (53 + 12 * x)), .int (w (54 + 12 * x)), .int (gdF w x M)]) := hKx
    have h12___2___x : F (12 + 2 * x) = rI G 4 nrx := hNx
    have hok := hwf.2.2.2.1
    have hwf1 := WF_come hwf hM ht (by decide) hxB hxt
    have htk := tk_rows hok hRV ht (by decide) hxB hxt
    have hco := co_rows (n := M) hok hRV ht (by decide) hxB hxt
    have hLV1 := LV_come (n := M) hok hLV ht (by decide) hxB htk.2 htk.1
    refine lv_aload_n X.1.1 X.1.2.1 dX5_come_0 rfl (lv_at hl 0 rfl) ?_
    refine sx_get X hP in_X5_come_X5 h1 (by decide) rfl 6 (by decide) lk_X5_come_fieldLink_RX5_43_RaceWatch_World_log_LRaceWatch_Log rfl dX5_come_1 ?_
    refine lv_iconst (v := nI 1) X.1.1 X.1.2.1 dX5_come_4 (by decide) ?_
    refine sx_cvI (As := [.int (nI 1)]) (rest := []) X (mX3_hasRoom l (M := M) (k := 1) (by omega) (by omega) h19) gX5_come_X3_hasRoom rfl yv_X3_hasRoom ⟨Nat.le_of_ble_eq_true rfl, Nat.le_of_ble_eq_true rfl⟩ h19 (by decide) rfl rfl hl.1 rfl (Nat.le_of_ble_eq_true rfl) dX5_come_5 ⟨Nat.le_of_ble_eq_true rfl, Nat.le_of_ble_eq_true rfl⟩ hs rfl hP (fun r23 F23 H23 l23 hp hP => ?_)
    obtain ⟨rfl, ⟨b24, rfl⟩ | ⟨b24, rfl⟩⟩ := hp
    · refine sx_if_ne X (by decide) (tgt := 14) dX5_come_8 (by decide) (fun _ => ?_) (fun h => absurd h (by decide))
      refine lv_aload_n X.1.1 X.1.2.1 dX5_come_14 rfl (lv_at hl 0 rfl) ?_
      refine lv_iload_n X.1.1 X.1.2.1 dX5_come_15 rfl (lv_at hl 1 rfl) ?_
      refine lv_iload_n X.1.1 X.1.2.1 dX5_come_16 rfl (lv_at hl 2 rfl) ?_
      refine lv_iload_n X.1.1 X.1.2.1 dX5_come_17 rfl (lv_at hl 3 rfl) ?_
      refine sx_cvV (As := [.int (nI (t)), .int (nI 3), .int (nI (x))]) (rest := []) X (mX5_takeIn l (t := t) (s := 3) (x := x) ht (by decide) hx h1 h2 h3 h4 h5 h6 h7 h8 h9) gX5_come_X5_takeIn rfl yv_X5_takeIn ⟨Nat.le_of_ble_eq_true rfl, Nat.le_of_ble_eq_true rfl⟩ h1 (by decide) rfl rfl hl.1 rfl (Nat.le_of_ble_eq_true rfl) dX5_come_18 ⟨Nat.le_of_ble_eq_true rfl, Nat.le_of_ble_eq_true rfl⟩ hs rfl hP (fun F25 H25 l25 hp hP => ?_)
      obtain ⟨e25, f25, g25, o25⟩ := hp
      have h1 := (o25 (1) (by decide)).trans h1
      have h2 : F25 (2) = rI G (4) (tiS 3 st x) := e25
      have h3 : F25 (3) = rI G (3) (tiH 3 ho t x) := f25
      have h4 := (o25 (4) (by decide)).trans h4
      have h5 : F25 (5) = rI G (16) (tiC 3 ct cl cs t x) := g25
      have h6 := (o25 (6) (by decide)).trans h6
      have h7 := (o25 (7) (by decide)).trans h7
      have h8 := (o25 (8) (by decide)).trans h8
      have h9 := (o25 (9) (by decide)).trans h9
      have h10 := (o25 (10) (by decide)).trans h10
      have h19 := (o25 (19) (by decide)).trans h19
      have h20 := (o25 (20) (by decide)).trans h20
      have h21 := (o25 (21) (by decide)).trans h21
      have h22 := (o25 (22) (by decide)).trans h22
      have h23 := (o25 (23) (by decide)).trans h23
      have h24 := (o25 (24) (by decide)).trans h24
      have h25 := (o25 (25) (by decide)).trans h25
      have h26 := (o25 (26) (by decide)).trans h26
      have h27 := (o25 (27) (by decide)).trans h27
      have h11___2___x := (o25 (11 + 2 * x) (by omega)).trans h11___2___x
      have h12___2___x := (o25 (12 + 2 * x) (by omega)).trans h12___2___x
      have hO : ∀ j, j = 0 ∨ 27 < j ∨ (10 < j ∧ j < 19 ∧ j ≠ 11 + 2 * x ∧ j ≠ 12 + 2 * x) → F25 j = F j := fun j hj => (o25 j (by omega)).trans (hO j hj)
      refine lv_aload_n X.1.1 X.1.2.1 dX5_come_21 rfl (lv_at hl 0 rfl) ?_
      refine lv_iload_n X.1.1 X.1.2.1 dX5_come_22 rfl (lv_at hl 1 rfl) ?_
      refine sx_cvI (As := [.int (nI (t))]) (rest := []) X (mX5_locksOf l (t := t) h1 h3) gX5_come_X5_locksOf rfl yv_X5_locksOf ⟨Nat.le_of_ble_eq_true rfl, Nat.le_of_ble_eq_true rfl⟩ h1 (by decide) rfl rfl hl.1 rfl (Nat.le_of_ble_eq_true rfl) dX5_come_23 ⟨Nat.le_of_ble_eq_true rfl, Nat.le_of_ble_eq_true rfl⟩ hs rfl hP (fun r26 F26 H26 l26 hp hP => ?_)
      obtain ⟨rfl, rfl⟩ := hp
      refine lv_istore (lv' := [(4, .int (heldF (tiH 3 ho t x) (nI (t)))), (0, rf G 1), (1, .int (nI (t))), (2, .int (nI 3)), (3, .int (nI (x)))]) X.1.1 X.1.2.1 dX5_come_26 hl (by decide) rfl (fun ls hl => ?_)
      refine lv_aload_n X.1.1 X.1.2.1 dX5_come_28 rfl (lv_at hl 1 rfl) ?_
      refine sx_get X hP in_X5_come_X5 h1 (by decide) rfl 6 (by decide) lk_X5_come_fieldLink_RX5_43_RaceWatch_World_log_LRaceWatch_Log rfl dX5_come_29 ?_
      refine lv_iload_n X.1.1 X.1.2.1 dX5_come_32 rfl (lv_at hl 2 rfl) ?_
      refine lv_iload_n X.1.1 X.1.2.1 dX5_come_33 rfl (lv_at hl 3 rfl) ?_
      refine lv_iload_n X.1.1 X.1.2.1 dX5_come_34 rfl (lv_at hl 4 rfl) ?_
      refine lv_iload X.1.1 X.1.2.1 dX5_come_35 (lv_at hl 0 rfl) ?_
      refine lv_aload_n X.1.1 X.1.2.1 dX5_come_37 rfl (lv_at hl 1 rfl) ?_
      refine sx_get X hP in_X5_come_X5 h1 (by decide) rfl 2 (by decide) lk_X5_come_fieldLink_RX5_23_RaceWatch_World_ofThreads_LRaceWatch_Clocks rfl dX5_come_38 ?_
      refine sx_cvI (As := [.int (nI (t)), .int (nI 3), .int (nI (x)), .int (heldF (tiH 3 ho t x) (nI (t))), rf G 4]) (rest := []) X (mX3_append l (M := M) (t := t) (s := 3) (x := x) (lk := (heldF (tiH 3 ho t x) (nI (t)))) hM ht h19 h20 h21 h22 h23 h24 h25 h4 h5) gX5_come_X3_append rfl yv_X3_append ⟨Nat.le_of_ble_eq_true rfl, Nat.le_of_ble_eq_true rfl⟩ h19 (by decide) rfl rfl hl.1 rfl (Nat.le_of_ble_eq_true rfl) dX5_come_41 ⟨Nat.le_of_ble_eq_true rfl, Nat.le_of_ble_eq_true rfl⟩ hs rfl hP (fun r27 F27 H27 l27 hp hP => ?_)
      obtain ⟨e27, f27, g27, d27, b27, a27, o27, rfl⟩ := hp
      have h1 := (o27 (1) (by decide)).trans h1
      have h2 := (o27 (2) (by decide)).trans h2
      have h3 := (o27 (3) (by decide)).trans h3
      have h4 := (o27 (4) (by decide)).trans h4
      have h5 := (o27 (5) (by decide)).trans h5
      have h6 := (o27 (6) (by decide)).trans h6
      have h7 := (o27 (7) (by decide)).trans h7
      have h8 := (o27 (8) (by decide)).trans h8
      have h9 := (o27 (9) (by decide)).trans h9
      have h10 := (o27 (10) (by decide)).trans h10
      have h19 : F27 (19) = ob 3 ([.int (nI (1 + M)), rf G 20, rf G 21, rf G 22, rf G 23, rf G 24, rf G 26, rf G 27]) := e27
      have h20 : F27 (20) = rI G (160) (upd th M (nI t)) := f27
      have h21 : F27 (21) = rI G (160) (upd so M (nI 3)) := g27
      have h22 : F27 (22) = rI G (160) (upd wi M (nI x)) := d27
      have h23 : F27 (23) = rI G (160) (upd lo M (heldF (tiH 3 ho t x) (nI (t)))) := b27
      have h24 := (o27 (24) (by decide)).trans h24
      have h25 : F27 (25) = rI G (640) (va_cpy (tiC 3 ct cl cs t x) lc (4 * t) (4 * M) 4) := a27
      have h26 := (o27 (26) (by decide)).trans h26
      have h27 := (o27 (27) (by decide)).trans h27
      have h11___2___x := (o27 (11 + 2 * x) (by omega)).trans h11___2___x
      have h12___2___x := (o27 (12 + 2 * x) (by omega)).trans h12___2___x
      have hO : ∀ j, j = 0 ∨ 27 < j ∨ (10 < j ∧ j < 19 ∧ j ≠ 11 + 2 * x ∧ j ≠ 12 + 2 * x) → F27 j = F j := fun j hj => (o27 j (by omega)).trans (hO j hj)
      refine lv_istore (lv' := [(5, .int (nI (M))), (4, .int (heldF (tiH 3 ho t x) (nI (t)))), (0, rf G 1), (1, .int (nI (t))), (2, .int (nI 3)), (3, .int (nI (x)))]) X.1.1 X.1.2.1 dX5_come_44 hl (by decide) rfl (fun ls hl => ?_)
      refine lv_iload_n X.1.1 X.1.2.1 dX5_come_46 rfl (lv_at hl 4 rfl) ?_
      refine sx_if_eq X (by decide) (tgt := 55) dX5_come_47 (by decide) (fun h => absurd h (by decide)) (fun _ => ?_)
      refine lv_iload_n X.1.1 X.1.2.1 dX5_come_50 rfl (lv_at hl 4 rfl) ?_
      refine lv_iconst (v := nI 1) X.1.1 X.1.2.1 dX5_come_51 (by decide) ?_
      refine sx_icmp_ne X (by decide) (by decide) (tgt := 92) dX5_come_52 (by decide) (fun _ => ?_) (fun h => absurd h (by decide))
      refine lv_aload_n X.1.1 X.1.2.1 dX5_come_92 rfl (lv_at hl 2 rfl) ?_
      refine lv_iload_n X.1.1 X.1.2.1 dX5_come_93 rfl (lv_at hl 3 rfl) ?_
      refine lv_iload_n X.1.1 X.1.2.1 dX5_come_94 rfl (lv_at hl 4 rfl) ?_
      refine lv_iload_n X.1.1 X.1.2.1 dX5_come_95 rfl (lv_at hl 5 rfl) ?_
      refine sx_cvV (As := [.int (nI (t)), .int (nI 3), .int (nI (x))]) (rest := []) X (mX5_handOn l (ho := ho) (t := t) (s := 3) (x := x) ht (by decide) hx h1 h2 h4 h5 h6 h7 h8 h9) gX5_come_X5_handOn rfl yv_X5_handOn ⟨Nat.le_of_ble_eq_true rfl, Nat.le_of_ble_eq_true rfl⟩ h1 (by decide) rfl rfl hl.1 rfl (Nat.le_of_ble_eq_true rfl) dX5_come_96 ⟨Nat.le_of_ble_eq_true rfl, Nat.le_of_ble_eq_true rfl⟩ hs rfl hP (fun F28 H28 l28 hp hP => ?_)
      obtain ⟨e28, f28, g28, d28, o28⟩ := hp
      have h1 := (o28 (1) (by decide)).trans h1
      have h2 : F28 (2) = rI G (4) (haS 3 (tiS 3 st x) x) := e28
      have h3 := (o28 (3) (by decide)).trans h3
      have h4 := (o28 (4) (by decide)).trans h4
      have h5 : F28 (5) = rI G (16) (haC 3 (tiC 3 ct cl cs t x) t x) := f28
      have h6 := (o28 (6) (by decide)).trans h6
      have h7 : F28 (7) = rI G (12) (haL 3 cl (tiC 3 ct cl cs t x) t x) := g28
      have h8 := (o28 (8) (by decide)).trans h8
      have h9 : F28 (9) = rI G (8) (haE 3 cs (tiC 3 ct cl cs t x) t x) := d28
      have h10 := (o28 (10) (by decide)).trans h10
      have h19 := (o28 (19) (by decide)).trans h19
      have h20 := (o28 (20) (by decide)).trans h20
      have h21 := (o28 (21) (by decide)).trans h21
      have h22 := (o28 (22) (by decide)).trans h22
      have h23 := (o28 (23) (by decide)).trans h23
      have h24 := (o28 (24) (by decide)).trans h24
      have h25 := (o28 (25) (by decide)).trans h25
      have h26 := (o28 (26) (by decide)).trans h26
      have h27 := (o28 (27) (by decide)).trans h27
      have h11___2___x := (o28 (11 + 2 * x) (by omega)).trans h11___2___x
      have h12___2___x := (o28 (12 + 2 * x) (by omega)).trans h12___2___x
      have hO : ∀ j, j = 0 ∨ 27 < j ∨ (10 < j ∧ j < 19 ∧ j ≠ 11 + 2 * x ∧ j ≠ 12 + 2 * x) → F28 j = F j := fun j hj => (o28 j (by omega)).trans (hO j hj)
      refine lv_iload X.1.1 X.1.2.1 dX5_come_99 (lv_at hl 0 rfl) ?_
      have hO2 : ∀ j, (j = 0 ∨ 27 < j) → F28 j = F j := fun j hj => hO j (by omega)
      have hKc : ∀ c, c < 4 → KV G F28 (comeF w M t 3 x) (1 + M) 1 c := fun c hc => by
        by_cases q : x = c
        · subst q; exact KV_come hok ht (by decide) hxB hc (Or.inl (by decide)) (hKV x hc) (h11___2___x.trans hKx.symm) (h12___2___x.trans hNx.symm)
        · exact KV_come hok ht (by decide) hxB hc (Or.inr q) (hKV c hc) (hO _ (by omega)) (hO _ (by omega))
      rw [hQ]
      exact sx_iret X rfl hs rfl hP dX5_come_101 (⟨⟨_, _, _, _, _, kr, r4, r6, r8, h1, h2, h3, h4, h5, h6, h7, h8, h9, h10, hkr, hco, hKc, ⟨_, _, _, _, _, _, _, rr, h19, h20, h21, h22, h23, h24, h25, h26, h27, hLV1, RB_come hok hwf.2.2.1 ht (by decide) hxB hRB (fun _ _ => rfl) (fun q => absurd q (by decide)), RC_come hok hwf.2.2.1 ht (by decide) hxB hRC (fun q => absurd q (by decide)) (fun _ _ => rfl)⟩, hRw⟩, hO2, rfl⟩)
    · exact absurd (by omega) b24
  · have hxB : x < boundF 4 := hx
    have hx : x < 2 := hx
    obtain ⟨st, ho, ct, cl, cs, kr, r4, r6, r8, h1, h2, h3, h4, h5, h6, h7, h8, h9, h10, hkr, hRV, hKV, hLg, hRw⟩ := hW
    obtain ⟨th, so, wi, lo, lc, rb, rc, rr, h19, h20, h21, h22, h23, h24, h25, h26, h27, hLV, hRB, hRC⟩ := hLg
    have h1 : F 1 = ob 5 ([rf G 2, rf G 3, rf G 4, rf G 6, rf G 8, rf G 10, rf G 19]) := h1
    have h2 : F 2 = rI G (4) (st) := h2
    have h3 : F 3 = rI G (3) (ho) := h3
    have h4 : F 4 = ob 1 ([r4, rf G 5]) := h4
    have h5 : F 5 = rI G (16) (ct) := h5
    have h6 : F 6 = ob 1 ([r6, rf G 7]) := h6
    have h7 : F 7 = rI G (12) (cl) := h7
    have h8 : F 8 = ob 1 ([r8, rf G 9]) := h8
    have h9 : F 9 = rI G (8) (cs) := h9
    have h10 : F 10 = rK G (4) (kr) := h10
    have h19 : F 19 = ob 3 ([.int (nI (M)), rf G 20, rf G 21, rf G 22, rf G 23, rf G 24, rf G 26, rf G 27]) := h19
    have h20 : F 20 = rI G (160) (th) := h20
    have h21 : F 21 = rI G (160) (so) := h21
    have h22 : F 22 = rI G (160) (wi) := h22
    have h23 : F 23 = rI G (160) (lo) := h23
    have h24 : F 24 = ob 1 ([rr, rf G 25]) := h24
    have h25 : F 25 = rI G (640) (lc) := h25
    have h26 : F 26 = rI G (160) (rb) := h26
    have h27 : F 27 = rI G (12) (rc) := h27
    have hkr : ∀ j, j < 4 → kr j = some (sx_b G + (11 + 2 * j)) := hkr
    obtain ⟨hKx, nrx, hNx, hnr⟩ := hKV x (by omega)
    have h11___2___x : F (11 + 2 * x) = ob 2 ([.int (w (43 + 12 * x)), .int (w (44 + 12 * x)), .int (w (45 + 12 * x)), .int (w (46 + 12 * x)), .int (w (47 + 12 * x)), rf G (12 + 2 * x), .int (w (52 + 12 * x)), .int (w (53 + 12 * x)), .int (w (54 + 12 * x)), .int (gdF w x M)]) := hKx
    have h12___2___x : F (12 + 2 * x) = rI G 4 nrx := hNx
    have hok := hwf.2.2.2.1
    have hwf1 := WF_come hwf hM ht (by decide) hxB hxt
    have htk := tk_rows hok hRV ht (by decide) hxB hxt
    have hco := co_rows (n := M) hok hRV ht (by decide) hxB hxt
    have hLV1 := LV_come (n := M) hok hLV ht (by decide) hxB htk.2 htk.1
    refine lv_aload_n X.1.1 X.1.2.1 dX5_come_0 rfl (lv_at hl 0 rfl) ?_
    refine sx_get X hP in_X5_come_X5 h1 (by decide) rfl 6 (by decide) lk_X5_come_fieldLink_RX5_43_RaceWatch_World_log_LRaceWatch_Log rfl dX5_come_1 ?_
    refine lv_iconst (v := nI 1) X.1.1 X.1.2.1 dX5_come_4 (by decide) ?_
    refine sx_cvI (As := [.int (nI 1)]) (rest := []) X (mX3_hasRoom l (M := M) (k := 1) (by omega) (by omega) h19) gX5_come_X3_hasRoom rfl yv_X3_hasRoom ⟨Nat.le_of_ble_eq_true rfl, Nat.le_of_ble_eq_true rfl⟩ h19 (by decide) rfl rfl hl.1 rfl (Nat.le_of_ble_eq_true rfl) dX5_come_5 ⟨Nat.le_of_ble_eq_true rfl, Nat.le_of_ble_eq_true rfl⟩ hs rfl hP (fun r29 F29 H29 l29 hp hP => ?_)
    obtain ⟨rfl, ⟨b30, rfl⟩ | ⟨b30, rfl⟩⟩ := hp
    · refine sx_if_ne X (by decide) (tgt := 14) dX5_come_8 (by decide) (fun _ => ?_) (fun h => absurd h (by decide))
      refine lv_aload_n X.1.1 X.1.2.1 dX5_come_14 rfl (lv_at hl 0 rfl) ?_
      refine lv_iload_n X.1.1 X.1.2.1 dX5_come_15 rfl (lv_at hl 1 rfl) ?_
      refine lv_iload_n X.1.1 X.1.2.1 dX5_come_16 rfl (lv_at hl 2 rfl) ?_
      refine lv_iload_n X.1.1 X.1.2.1 dX5_come_17 rfl (lv_at hl 3 rfl) ?_
      refine sx_cvV (As := [.int (nI (t)), .int (nI 4), .int (nI (x))]) (rest := []) X (mX5_takeIn l (t := t) (s := 4) (x := x) ht (by decide) hx h1 h2 h3 h4 h5 h6 h7 h8 h9) gX5_come_X5_takeIn rfl yv_X5_takeIn ⟨Nat.le_of_ble_eq_true rfl, Nat.le_of_ble_eq_true rfl⟩ h1 (by decide) rfl rfl hl.1 rfl (Nat.le_of_ble_eq_true rfl) dX5_come_18 ⟨Nat.le_of_ble_eq_true rfl, Nat.le_of_ble_eq_true rfl⟩ hs rfl hP (fun F31 H31 l31 hp hP => ?_)
      obtain ⟨e31, f31, g31, o31⟩ := hp
      have h1 := (o31 (1) (by decide)).trans h1
      have h2 : F31 (2) = rI G (4) (tiS 4 st x) := e31
      have h3 : F31 (3) = rI G (3) (tiH 4 ho t x) := f31
      have h4 := (o31 (4) (by decide)).trans h4
      have h5 : F31 (5) = rI G (16) (tiC 4 ct cl cs t x) := g31
      have h6 := (o31 (6) (by decide)).trans h6
      have h7 := (o31 (7) (by decide)).trans h7
      have h8 := (o31 (8) (by decide)).trans h8
      have h9 := (o31 (9) (by decide)).trans h9
      have h10 := (o31 (10) (by decide)).trans h10
      have h19 := (o31 (19) (by decide)).trans h19
      have h20 := (o31 (20) (by decide)).trans h20
      have h21 := (o31 (21) (by decide)).trans h21
      have h22 := (o31 (22) (by decide)).trans h22
      have h23 := (o31 (23) (by decide)).trans h23
      have h24 := (o31 (24) (by decide)).trans h24
      have h25 := (o31 (25) (by decide)).trans h25
      have h26 := (o31 (26) (by decide)).trans h26
      have h27 := (o31 (27) (by decide)).trans h27
      have h11___2___x := (o31 (11 + 2 * x) (by omega)).trans h11___2___x
      have h12___2___x := (o31 (12 + 2 * x) (by omega)).trans h12___2___x
      have hO : ∀ j, j = 0 ∨ 27 < j ∨ (10 < j ∧ j < 19 ∧ j ≠ 11 + 2 * x ∧ j ≠ 12 + 2 * x) → F31 j = F j := fun j hj => (o31 j (by omega)).trans (hO j hj)
      refine lv_aload_n X.1.1 X.1.2.1 dX5_come_21 rfl (lv_at hl 0 rfl) ?_
      refine lv_iload_n X.1.1 X.1.2.1 dX5_come_22 rfl (lv_at hl 1 rfl) ?_
      refine sx_cvI (As := [.int (nI (t))]) (rest := []) X (mX5_locksOf l (t := t) h1 h3) gX5_come_X5_locksOf rfl yv_X5_locksOf ⟨Nat.le_of_ble_eq_true rfl, Nat.le_of_ble_eq_true rfl⟩ h1 (by decide) rfl rfl hl.1 rfl (Nat.le_of_ble_eq_true rfl) dX5_come_23 ⟨Nat.le_of_ble_eq_true rfl, Nat.le_of_ble_eq_true rfl⟩ hs rfl hP (fun r32 F32 H32 l32 hp hP => ?_)
      obtain ⟨rfl, rfl⟩ := hp
      refine lv_istore (lv' := [(4, .int (heldF (tiH 4 ho t x) (nI (t)))), (0, rf G 1), (1, .int (nI (t))), (2, .int (nI 4)), (3, .int (nI (x)))]) X.1.1 X.1.2.1 dX5_come_26 hl (by decide) rfl (fun ls hl => ?_)
      refine lv_aload_n X.1.1 X.1.2.1 dX5_come_28 rfl (lv_at hl 1 rfl) ?_
      refine sx_get X hP in_X5_come_X5 h1 (by decide) rfl 6 (by decide) lk_X5_come_fieldLink_RX5_43_RaceWatch_World_log_LRaceWatch_Log rfl dX5_come_29 ?_
      refine lv_iload_n X.1.1 X.1.2.1 dX5_come_32 rfl (lv_at hl 2 rfl) ?_
      refine lv_iload_n X.1.1 X.1.2.1 dX5_come_33 rfl (lv_at hl 3 rfl) ?_
      refine lv_iload_n X.1.1 X.1.2.1 dX5_come_34 rfl (lv_at hl 4 rfl) ?_
      refine lv_iload X.1.1 X.1.2.1 dX5_come_35 (lv_at hl 0 rfl) ?_
      refine lv_aload_n X.1.1 X.1.2.1 dX5_come_37 rfl (lv_at hl 1 rfl) ?_
      refine sx_get X hP in_X5_come_X5 h1 (by decide) rfl 2 (by decide) lk_X5_come_fieldLink_RX5_23_RaceWatch_World_ofThreads_LRaceWatch_Clocks rfl dX5_come_38 ?_
      refine sx_cvI (As := [.int (nI (t)), .int (nI 4), .int (nI (x)), .int (heldF (tiH 4 ho t x) (nI (t))), rf G 4]) (rest := []) X (mX3_append l (M := M) (t := t) (s := 4) (x := x) (lk := (heldF (tiH 4 ho t x) (nI (t)))) hM ht h19 h20 h21 h22 h23 h24 h25 h4 h5) gX5_come_X3_append rfl yv_X3_append ⟨Nat.le_of_ble_eq_true rfl, Nat.le_of_ble_eq_true rfl⟩ h19 (by decide) rfl rfl hl.1 rfl (Nat.le_of_ble_eq_true rfl) dX5_come_41 ⟨Nat.le_of_ble_eq_true rfl, Nat.le_of_ble_eq_true rfl⟩ hs rfl hP (fun r33 F33 H33 l33 hp hP => ?_)
      obtain ⟨e33, f33, g33, d33, b33, a33, o33, rfl⟩ := hp
      have h1 := (o33 (1) (by decide)).trans h1
      have h2 := (o33 (2) (by decide)).trans h2
      have h3 := (o33 (3) (by decide)).trans h3
      have h4 := (o33 (4) (by decide)).trans h4
      have h5 := (o33 (5) (by decide)).trans h5
      have h6 := (o33 (6) (by decide)).trans h6
      have h7 := (o33 (7) (by decide)).trans h7
      have h8 := (o33 (8) (by decide)).trans h8
      have h9 := (o33 (9) (by decide)).trans h9
      have h10 := (o33 (10) (by decide)).trans h10
      have h19 : F33 (19) = ob 3 ([.int (nI (1 + M)), rf G 20, rf G 21, rf G 22, rf G 23, rf G 24, rf G 26, rf G 27]) := e33
      have h20 : F33 (20) = rI G (160) (upd th M (nI t)) := f33
      have h21 : F33 (21) = rI G (160) (upd so M (nI 4)) := g33
      have h22 : F33 (22) = rI G (160) (upd wi M (nI x)) := d33
      have h23 : F33 (23) = rI G (160) (upd lo M (heldF (tiH 4 ho t x) (nI (t)))) := b33
      have h24 := (o33 (24) (by decide)).trans h24
      have h25 : F33 (25) = rI G (640) (va_cpy (tiC 4 ct cl cs t x) lc (4 * t) (4 * M) 4) := a33
      have h26 := (o33 (26) (by decide)).trans h26
      have h27 := (o33 (27) (by decide)).trans h27
      have h11___2___x := (o33 (11 + 2 * x) (by omega)).trans h11___2___x
      have h12___2___x := (o33 (12 + 2 * x) (by omega)).trans h12___2___x
      have hO : ∀ j, j = 0 ∨ 27 < j ∨ (10 < j ∧ j < 19 ∧ j ≠ 11 + 2 * x ∧ j ≠ 12 + 2 * x) → F33 j = F j := fun j hj => (o33 j (by omega)).trans (hO j hj)
      refine lv_istore (lv' := [(5, .int (nI (M))), (4, .int (heldF (tiH 4 ho t x) (nI (t)))), (0, rf G 1), (1, .int (nI (t))), (2, .int (nI 4)), (3, .int (nI (x)))]) X.1.1 X.1.2.1 dX5_come_44 hl (by decide) rfl (fun ls hl => ?_)
      refine lv_iload_n X.1.1 X.1.2.1 dX5_come_46 rfl (lv_at hl 4 rfl) ?_
      refine sx_if_eq X (by decide) (tgt := 55) dX5_come_47 (by decide) (fun h => absurd h (by decide)) (fun _ => ?_)
      refine lv_iload_n X.1.1 X.1.2.1 dX5_come_50 rfl (lv_at hl 4 rfl) ?_
      refine lv_iconst (v := nI 1) X.1.1 X.1.2.1 dX5_come_51 (by decide) ?_
      refine sx_icmp_ne X (by decide) (by decide) (tgt := 92) dX5_come_52 (by decide) (fun _ => ?_) (fun h => absurd h (by decide))
      refine lv_aload_n X.1.1 X.1.2.1 dX5_come_92 rfl (lv_at hl 2 rfl) ?_
      refine lv_iload_n X.1.1 X.1.2.1 dX5_come_93 rfl (lv_at hl 3 rfl) ?_
      refine lv_iload_n X.1.1 X.1.2.1 dX5_come_94 rfl (lv_at hl 4 rfl) ?_
      refine lv_iload_n X.1.1 X.1.2.1 dX5_come_95 rfl (lv_at hl 5 rfl) ?_
      refine sx_cvV (As := [.int (nI (t)), .int (nI 4), .int (nI (x))]) (rest := []) X (mX5_handOn l (ho := ho) (t := t) (s := 4) (x := x) ht (by decide) hx h1 h2 h4 h5 h6 h7 h8 h9) gX5_come_X5_handOn rfl yv_X5_handOn ⟨Nat.le_of_ble_eq_true rfl, Nat.le_of_ble_eq_true rfl⟩ h1 (by decide) rfl rfl hl.1 rfl (Nat.le_of_ble_eq_true rfl) dX5_come_96 ⟨Nat.le_of_ble_eq_true rfl, Nat.le_of_ble_eq_true rfl⟩ hs rfl hP (fun F34 H34 l34 hp hP => ?_)
      obtain ⟨e34, f34, g34, d34, o34⟩ := hp
      have h1 := (o34 (1) (by decide)).trans h1
      have h2 : F34 (2) = rI G (4) (haS 4 (tiS 4 st x) x) := e34
      have h3 := (o34 (3) (by decide)).trans h3
      have h4 := (o34 (4) (by decide)).trans h4
      have h5 : F34 (5) = rI G (16) (haC 4 (tiC 4 ct cl cs t x) t x) := f34
      have h6 := (o34 (6) (by decide)).trans h6
      have h7 : F34 (7) = rI G (12) (haL 4 cl (tiC 4 ct cl cs t x) t x) := g34
      have h8 := (o34 (8) (by decide)).trans h8
      have h9 : F34 (9) = rI G (8) (haE 4 cs (tiC 4 ct cl cs t x) t x) := d34
      have h10 := (o34 (10) (by decide)).trans h10
      have h19 := (o34 (19) (by decide)).trans h19
      have h20 := (o34 (20) (by decide)).trans h20
      have h21 := (o34 (21) (by decide)).trans h21
      have h22 := (o34 (22) (by decide)).trans h22
      have h23 := (o34 (23) (by decide)).trans h23
      have h24 := (o34 (24) (by decide)).trans h24
      have h25 := (o34 (25) (by decide)).trans h25
      have h26 := (o34 (26) (by decide)).trans h26
      have h27 := (o34 (27) (by decide)).trans h27
      have h11___2___x := (o34 (11 + 2 * x) (by omega)).trans h11___2___x
      have h12___2___x := (o34 (12 + 2 * x) (by omega)).trans h12___2___x
      have hO : ∀ j, j = 0 ∨ 27 < j ∨ (10 < j ∧ j < 19 ∧ j ≠ 11 + 2 * x ∧ j ≠ 12 + 2 * x) → F34 j = F j := fun j hj => (o34 j (by omega)).trans (hO j hj)
      refine lv_iload X.1.1 X.1.2.1 dX5_come_99 (lv_at hl 0 rfl) ?_
      have hO2 : ∀ j, (j = 0 ∨ 27 < j) → F34 j = F j := fun j hj => hO j (by omega)
      have hKc : ∀ c, c < 4 → KV G F34 (comeF w M t 4 x) (1 + M) 1 c := fun c hc => by
        by_cases q : x = c
        · subst q; exact KV_come hok ht (by decide) hxB hc (Or.inl (by decide)) (hKV x hc) (h11___2___x.trans hKx.symm) (h12___2___x.trans hNx.symm)
        · exact KV_come hok ht (by decide) hxB hc (Or.inr q) (hKV c hc) (hO _ (by omega)) (hO _ (by omega))
      rw [hQ]
      exact sx_iret X rfl hs rfl hP dX5_come_101 (⟨⟨_, _, _, _, _, kr, r4, r6, r8, h1, h2, h3, h4, h5, h6, h7, h8, h9, h10, hkr, hco, hKc, ⟨_, _, _, _, _, _, _, rr, h19, h20, h21, h22, h23, h24, h25, h26, h27, hLV1, RB_come hok hwf.2.2.1 ht (by decide) hxB hRB (fun _ _ => rfl) (fun q => absurd q (by decide)), RC_come hok hwf.2.2.1 ht (by decide) hxB hRC (fun q => absurd q (by decide)) (fun _ _ => rfl)⟩, hRw⟩, hO2, rfl⟩)
    · exact absurd (by omega) b30
  · have hxB : x < boundF 5 := hx
    have hx : x < 2 := hx
    obtain ⟨st, ho, ct, cl, cs, kr, r4, r6, r8, h1, h2, h3, h4, h5, h6, h7, h8, h9, h10, hkr, hRV, hKV, hLg, hRw⟩ := hW
    obtain ⟨th, so, wi, lo, lc, rb, rc, rr, h19, h20, h21, h22, h23, h24, h25, h26, h27, hLV, hRB, hRC⟩ := hLg
    have h1 : F 1 = ob 5 ([rf G 2, rf G 3, rf G 4, rf G 6, rf G 8, rf G 10, rf G 19]) := h1
    have h2 : F 2 = rI G (4) (st) := h2
    have h3 : F 3 = rI G (3) (ho) := h3
    have h4 : F 4 = ob 1 ([r4, rf G 5]) := h4
    have h5 : F 5 = rI G (16) (ct) := h5
    have h6 : F 6 = ob 1 ([r6, rf G 7]) := h6
    have h7 : F 7 = rI G (12) (cl) := h7
    have h8 : F 8 = ob 1 ([r8, rf G 9]) := h8
    have h9 : F 9 = rI G (8) (cs) := h9
    have h10 : F 10 = rK G (4) (kr) := h10
    have h19 : F 19 = ob 3 ([.int (nI (M)), rf G 20, rf G 21, rf G 22, rf G 23, rf G 24, rf G 26, rf G 27]) := h19
    have h20 : F 20 = rI G (160) (th) := h20
    have h21 : F 21 = rI G (160) (so) := h21
    have h22 : F 22 = rI G (160) (wi) := h22
    have h23 : F 23 = rI G (160) (lo) := h23
    have h24 : F 24 = ob 1 ([rr, rf G 25]) := h24
    have h25 : F 25 = rI G (640) (lc) := h25
    have h26 : F 26 = rI G (160) (rb) := h26
    have h27 : F 27 = rI G (12) (rc) := h27
    have hkr : ∀ j, j < 4 → kr j = some (sx_b G + (11 + 2 * j)) := hkr
    obtain ⟨hKx, nrx, hNx, hnr⟩ := hKV x (by omega)
    have h11___2___x : F (11 + 2 * x) = ob 2 ([.int (w (43 + 12 * x)), .int (w (44 + 12 * x)), .int (w (45 + 12 * x)), .int (w (46 + 12 * x)), .int (w (47 + 12 * x)), rf G (12 + 2 * x), .int (w (52 + 12 * x)), .int (w (53 + 12 * x)), .int (w (54 + 12 * x)), .int (gdF w x M)]) := hKx
    have h12___2___x : F (12 + 2 * x) = rI G 4 nrx := hNx
    have hok := hwf.2.2.2.1
    have hwf1 := WF_come hwf hM ht (by decide) hxB hxt
    have htk := tk_rows hok hRV ht (by decide) hxB hxt
    have hco := co_rows (n := M) hok hRV ht (by decide) hxB hxt
    have hLV1 := LV_come (n := M) hok hLV ht (by decide) hxB htk.2 htk.1
    refine lv_aload_n X.1.1 X.1.2.1 dX5_come_0 rfl (lv_at hl 0 rfl) ?_
    refine sx_get X hP in_X5_come_X5 h1 (by decide) rfl 6 (by decide) lk_X5_come_fieldLink_RX5_43_RaceWatch_World_log_LRaceWatch_Log rfl dX5_come_1 ?_
    refine lv_iconst (v := nI 1) X.1.1 X.1.2.1 dX5_come_4 (by decide) ?_
    refine sx_cvI (As := [.int (nI 1)]) (rest := []) X (mX3_hasRoom l (M := M) (k := 1) (by omega) (by omega) h19) gX5_come_X3_hasRoom rfl yv_X3_hasRoom ⟨Nat.le_of_ble_eq_true rfl, Nat.le_of_ble_eq_true rfl⟩ h19 (by decide) rfl rfl hl.1 rfl (Nat.le_of_ble_eq_true rfl) dX5_come_5 ⟨Nat.le_of_ble_eq_true rfl, Nat.le_of_ble_eq_true rfl⟩ hs rfl hP (fun r35 F35 H35 l35 hp hP => ?_)
    obtain ⟨rfl, ⟨b36, rfl⟩ | ⟨b36, rfl⟩⟩ := hp
    · refine sx_if_ne X (by decide) (tgt := 14) dX5_come_8 (by decide) (fun _ => ?_) (fun h => absurd h (by decide))
      refine lv_aload_n X.1.1 X.1.2.1 dX5_come_14 rfl (lv_at hl 0 rfl) ?_
      refine lv_iload_n X.1.1 X.1.2.1 dX5_come_15 rfl (lv_at hl 1 rfl) ?_
      refine lv_iload_n X.1.1 X.1.2.1 dX5_come_16 rfl (lv_at hl 2 rfl) ?_
      refine lv_iload_n X.1.1 X.1.2.1 dX5_come_17 rfl (lv_at hl 3 rfl) ?_
      refine sx_cvV (As := [.int (nI (t)), .int (nI 5), .int (nI (x))]) (rest := []) X (mX5_takeIn l (t := t) (s := 5) (x := x) ht (by decide) hx h1 h2 h3 h4 h5 h6 h7 h8 h9) gX5_come_X5_takeIn rfl yv_X5_takeIn ⟨Nat.le_of_ble_eq_true rfl, Nat.le_of_ble_eq_true rfl⟩ h1 (by decide) rfl rfl hl.1 rfl (Nat.le_of_ble_eq_true rfl) dX5_come_18 ⟨Nat.le_of_ble_eq_true rfl, Nat.le_of_ble_eq_true rfl⟩ hs rfl hP (fun F37 H37 l37 hp hP => ?_)
      obtain ⟨e37, f37, g37, o37⟩ := hp
      have h1 := (o37 (1) (by decide)).trans h1
      have h2 : F37 (2) = rI G (4) (tiS 5 st x) := e37
      have h3 : F37 (3) = rI G (3) (tiH 5 ho t x) := f37
      have h4 := (o37 (4) (by decide)).trans h4
      have h5 : F37 (5) = rI G (16) (tiC 5 ct cl cs t x) := g37
      have h6 := (o37 (6) (by decide)).trans h6
      have h7 := (o37 (7) (by decide)).trans h7
      have h8 := (o37 (8) (by decide)).trans h8
      have h9 := (o37 (9) (by decide)).trans h9
      have h10 := (o37 (10) (by decide)).trans h10
      have h19 := (o37 (19) (by decide)).trans h19
      have h20 := (o37 (20) (by decide)).trans h20
      have h21 := (o37 (21) (by decide)).trans h21
      have h22 := (o37 (22) (by decide)).trans h22
      have h23 := (o37 (23) (by decide)).trans h23
      have h24 := (o37 (24) (by decide)).trans h24
      have h25 := (o37 (25) (by decide)).trans h25
      have h26 := (o37 (26) (by decide)).trans h26
      have h27 := (o37 (27) (by decide)).trans h27
      have h11___2___x := (o37 (11 + 2 * x) (by omega)).trans h11___2___x
      have h12___2___x := (o37 (12 + 2 * x) (by omega)).trans h12___2___x
      have hO : ∀ j, j = 0 ∨ 27 < j ∨ (10 < j ∧ j < 19 ∧ j ≠ 11 + 2 * x ∧ j ≠ 12 + 2 * x) → F37 j = F j := fun j hj => (o37 j (by omega)).trans (hO j hj)
      refine lv_aload_n X.1.1 X.1.2.1 dX5_come_21 rfl (lv_at hl 0 rfl) ?_
      refine lv_iload_n X.1.1 X.1.2.1 dX5_come_22 rfl (lv_at hl 1 rfl) ?_
      refine sx_cvI (As := [.int (nI (t))]) (rest := []) X (mX5_locksOf l (t := t) h1 h3) gX5_come_X5_locksOf rfl yv_X5_locksOf ⟨Nat.le_of_ble_eq_true rfl, Nat.le_of_ble_eq_true rfl⟩ h1 (by decide) rfl rfl hl.1 rfl (Nat.le_of_ble_eq_true rfl) dX5_come_23 ⟨Nat.le_of_ble_eq_true rfl, Nat.le_of_ble_eq_true rfl⟩ hs rfl hP (fun r38 F38 H38 l38 hp hP => ?_)
      obtain ⟨rfl, rfl⟩ := hp
      refine lv_istore (lv' := [(4, .int (heldF (tiH 5 ho t x) (nI (t)))), (0, rf G 1), (1, .int (nI (t))), (2, .int (nI 5)), (3, .int (nI (x)))]) X.1.1 X.1.2.1 dX5_come_26 hl (by decide) rfl (fun ls hl => ?_)
      refine lv_aload_n X.1.1 X.1.2.1 dX5_come_28 rfl (lv_at hl 1 rfl) ?_
      refine sx_get X hP in_X5_come_X5 h1 (by decide) rfl 6 (by decide) lk_X5_come_fieldLink_RX5_43_RaceWatch_World_log_LRaceWatch_Log rfl dX5_come_29 ?_
      refine lv_iload_n X.1.1 X.1.2.1 dX5_come_32 rfl (lv_at hl 2 rfl) ?_
      refine lv_iload_n X.1.1 X.1.2.1 dX5_come_33 rfl (lv_at hl 3 rfl) ?_
      refine lv_iload_n X.1.1 X.1.2.1 dX5_come_34 rfl (lv_at hl 4 rfl) ?_
      refine lv_iload X.1.1 X.1.2.1 dX5_come_35 (lv_at hl 0 rfl) ?_
      refine lv_aload_n X.1.1 X.1.2.1 dX5_come_37 rfl (lv_at hl 1 rfl) ?_
      refine sx_get X hP in_X5_come_X5 h1 (by decide) rfl 2 (by decide) lk_X5_come_fieldLink_RX5_23_RaceWatch_World_ofThreads_LRaceWatch_Clocks rfl dX5_come_38 ?_
      refine sx_cvI (As := [.int (nI (t)), .int (nI 5), .int (nI (x)), .int (heldF (tiH 5 ho t x) (nI (t))), rf G 4]) (rest := []) X (mX3_append l (M := M) (t := t) (s := 5) (x := x) (lk := (heldF (tiH 5 ho t x) (nI (t)))) hM ht h19 h20 h21 h22 h23 h24 h25 h4 h5) gX5_come_X3_append rfl yv_X3_append ⟨Nat.le_of_ble_eq_true rfl, Nat.le_of_ble_eq_true rfl⟩ h19 (by decide) rfl rfl hl.1 rfl (Nat.le_of_ble_eq_true rfl) dX5_come_41 ⟨Nat.le_of_ble_eq_true rfl, Nat.le_of_ble_eq_true rfl⟩ hs rfl hP (fun r39 F39 H39 l39 hp hP => ?_)
      obtain ⟨e39, f39, g39, d39, b39, a39, o39, rfl⟩ := hp
      have h1 := (o39 (1) (by decide)).trans h1
      have h2 := (o39 (2) (by decide)).trans h2
      have h3 := (o39 (3) (by decide)).trans h3
      have h4 := (o39 (4) (by decide)).trans h4
      have h5 := (o39 (5) (by decide)).trans h5
      have h6 := (o39 (6) (by decide)).trans h6
      have h7 := (o39 (7) (by decide)).trans h7
      have h8 := (o39 (8) (by decide)).trans h8
      have h9 := (o39 (9) (by decide)).trans h9
      have h10 := (o39 (10) (by decide)).trans h10
      have h19 : F39 (19) = ob 3 ([.int (nI (1 + M)), rf G 20, rf G 21, rf G 22, rf G 23, rf G 24, rf G 26, rf G 27]) := e39
      have h20 : F39 (20) = rI G (160) (upd th M (nI t)) := f39
      have h21 : F39 (21) = rI G (160) (upd so M (nI 5)) := g39
      have h22 : F39 (22) = rI G (160) (upd wi M (nI x)) := d39
      have h23 : F39 (23) = rI G (160) (upd lo M (heldF (tiH 5 ho t x) (nI (t)))) := b39
      have h24 := (o39 (24) (by decide)).trans h24
      have h25 : F39 (25) = rI G (640) (va_cpy (tiC 5 ct cl cs t x) lc (4 * t) (4 * M) 4) := a39
      have h26 := (o39 (26) (by decide)).trans h26
      have h27 := (o39 (27) (by decide)).trans h27
      have h11___2___x := (o39 (11 + 2 * x) (by omega)).trans h11___2___x
      have h12___2___x := (o39 (12 + 2 * x) (by omega)).trans h12___2___x
      have hO : ∀ j, j = 0 ∨ 27 < j ∨ (10 < j ∧ j < 19 ∧ j ≠ 11 + 2 * x ∧ j ≠ 12 + 2 * x) → F39 j = F j := fun j hj => (o39 j (by omega)).trans (hO j hj)
      refine lv_istore (lv' := [(5, .int (nI (M))), (4, .int (heldF (tiH 5 ho t x) (nI (t)))), (0, rf G 1), (1, .int (nI (t))), (2, .int (nI 5)), (3, .int (nI (x)))]) X.1.1 X.1.2.1 dX5_come_44 hl (by decide) rfl (fun ls hl => ?_)
      refine lv_iload_n X.1.1 X.1.2.1 dX5_come_46 rfl (lv_at hl 4 rfl) ?_
      refine sx_if_eq X (by decide) (tgt := 55) dX5_come_47 (by decide) (fun h => absurd h (by decide)) (fun _ => ?_)
      refine lv_iload_n X.1.1 X.1.2.1 dX5_come_50 rfl (lv_at hl 4 rfl) ?_
      refine lv_iconst (v := nI 1) X.1.1 X.1.2.1 dX5_come_51 (by decide) ?_
      refine sx_icmp_ne X (by decide) (by decide) (tgt := 92) dX5_come_52 (by decide) (fun _ => ?_) (fun h => absurd h (by decide))
      refine lv_aload_n X.1.1 X.1.2.1 dX5_come_92 rfl (lv_at hl 2 rfl) ?_
      refine lv_iload_n X.1.1 X.1.2.1 dX5_come_93 rfl (lv_at hl 3 rfl) ?_
      refine lv_iload_n X.1.1 X.1.2.1 dX5_come_94 rfl (lv_at hl 4 rfl) ?_
      refine lv_iload_n X.1.1 X.1.2.1 dX5_come_95 rfl (lv_at hl 5 rfl) ?_
      refine sx_cvV (As := [.int (nI (t)), .int (nI 5), .int (nI (x))]) (rest := []) X (mX5_handOn l (ho := ho) (t := t) (s := 5) (x := x) ht (by decide) hx h1 h2 h4 h5 h6 h7 h8 h9) gX5_come_X5_handOn rfl yv_X5_handOn ⟨Nat.le_of_ble_eq_true rfl, Nat.le_of_ble_eq_true rfl⟩ h1 (by decide) rfl rfl hl.1 rfl (Nat.le_of_ble_eq_true rfl) dX5_come_96 ⟨Nat.le_of_ble_eq_true rfl, Nat.le_of_ble_eq_true rfl⟩ hs rfl hP (fun F40 H40 l40 hp hP => ?_)
      obtain ⟨e40, f40, g40, d40, o40⟩ := hp
      have h1 := (o40 (1) (by decide)).trans h1
      have h2 : F40 (2) = rI G (4) (haS 5 (tiS 5 st x) x) := e40
      have h3 := (o40 (3) (by decide)).trans h3
      have h4 := (o40 (4) (by decide)).trans h4
      have h5 : F40 (5) = rI G (16) (haC 5 (tiC 5 ct cl cs t x) t x) := f40
      have h6 := (o40 (6) (by decide)).trans h6
      have h7 : F40 (7) = rI G (12) (haL 5 cl (tiC 5 ct cl cs t x) t x) := g40
      have h8 := (o40 (8) (by decide)).trans h8
      have h9 : F40 (9) = rI G (8) (haE 5 cs (tiC 5 ct cl cs t x) t x) := d40
      have h10 := (o40 (10) (by decide)).trans h10
      have h19 := (o40 (19) (by decide)).trans h19
      have h20 := (o40 (20) (by decide)).trans h20
      have h21 := (o40 (21) (by decide)).trans h21
      have h22 := (o40 (22) (by decide)).trans h22
      have h23 := (o40 (23) (by decide)).trans h23
      have h24 := (o40 (24) (by decide)).trans h24
      have h25 := (o40 (25) (by decide)).trans h25
      have h26 := (o40 (26) (by decide)).trans h26
      have h27 := (o40 (27) (by decide)).trans h27
      have h11___2___x := (o40 (11 + 2 * x) (by omega)).trans h11___2___x
      have h12___2___x := (o40 (12 + 2 * x) (by omega)).trans h12___2___x
      have hO : ∀ j, j = 0 ∨ 27 < j ∨ (10 < j ∧ j < 19 ∧ j ≠ 11 + 2 * x ∧ j ≠ 12 + 2 * x) → F40 j = F j := fun j hj => (o40 j (by omega)).trans (hO j hj)
      refine lv_iload X.1.1 X.1.2.1 dX5_come_99 (lv_at hl 0 rfl) ?_
      have hO2 : ∀ j, (j = 0 ∨ 27 < j) → F40 j = F j := fun j hj => hO j (by omega)
      have hKc : ∀ c, c < 4 → KV G F40 (comeF w M t 5 x) (1 + M) 1 c := fun c hc => by
        by_cases q : x = c
        · subst q; exact KV_come hok ht (by decide) hxB hc (Or.inl (by decide)) (hKV x hc) (h11___2___x.trans hKx.symm) (h12___2___x.trans hNx.symm)
        · exact KV_come hok ht (by decide) hxB hc (Or.inr q) (hKV c hc) (hO _ (by omega)) (hO _ (by omega))
      rw [hQ]
      exact sx_iret X rfl hs rfl hP dX5_come_101 (⟨⟨_, _, _, _, _, kr, r4, r6, r8, h1, h2, h3, h4, h5, h6, h7, h8, h9, h10, hkr, hco, hKc, ⟨_, _, _, _, _, _, _, rr, h19, h20, h21, h22, h23, h24, h25, h26, h27, hLV1, RB_come hok hwf.2.2.1 ht (by decide) hxB hRB (fun _ _ => rfl) (fun q => absurd q (by decide)), RC_come hok hwf.2.2.1 ht (by decide) hxB hRC (fun q => absurd q (by decide)) (fun _ _ => rfl)⟩, hRw⟩, hO2, rfl⟩)
    · exact absurd (by omega) b36
  · have hxB : x < boundF 6 := hx
    have hx : x < 4 := hx
    obtain ⟨st, ho, ct, cl, cs, kr, r4, r6, r8, h1, h2, h3, h4, h5, h6, h7, h8, h9, h10, hkr, hRV, hKV, hLg, hRw⟩ := hW
    obtain ⟨th, so, wi, lo, lc, rb, rc, rr, h19, h20, h21, h22, h23, h24, h25, h26, h27, hLV, hRB, hRC⟩ := hLg
    have h1 : F 1 = ob 5 ([rf G 2, rf G 3, rf G 4, rf G 6, rf G 8, rf G 10, rf G 19]) := h1
    have h2 : F 2 = rI G (4) (st) := h2
    have h3 : F 3 = rI G (3) (ho) := h3
    have h4 : F 4 = ob 1 ([r4, rf G 5]) := h4
    have h5 : F 5 = rI G (16) (ct) := h5
    have h6 : F 6 = ob 1 ([r6, rf G 7]) := h6
    have h7 : F 7 = rI G (12) (cl) := h7
    have h8 : F 8 = ob 1 ([r8, rf G 9]) := h8
    have h9 : F 9 = rI G (8) (cs) := h9
    have h10 : F 10 = rK G (4) (kr) := h10
    have h19 : F 19 = ob 3 ([.int (nI (M)), rf G 20, rf G 21, rf G 22, rf G 23, rf G 24, rf G 26, rf G 27]) := h19
    have h20 : F 20 = rI G (160) (th) := h20
    have h21 : F 21 = rI G (160) (so) := h21
    have h22 : F 22 = rI G (160) (wi) := h22
    have h23 : F 23 = rI G (160) (lo) := h23
    have h24 : F 24 = ob 1 ([rr, rf G 25]) := h24
    have h25 : F 25 = rI G (640) (lc) := h25
    have h26 : F 26 = rI G (160) (rb) := h26
    have h27 : F 27 = rI G (12) (rc) := h27
    have hkr : ∀ j, j < 4 → kr j = some (sx_b G + (11 + 2 * j)) := hkr
    obtain ⟨hKx, nrx, hNx, hnr⟩ := hKV x (by omega)
    have h11___2___x : F (11 + 2 * x) = ob 2 ([.int (w (43 + 12 * x)), .int (w (44 + 12 * x)), .int (w (45 + 12 * x)), .int (w (46 + 12 * x)), .int (w (47 + 12 * x)), rf G (12 + 2 * x), .int (w (52 + 12 * x)), .int (w (53 + 12 * x)), .int (w (54 + 12 * x)), .int (gdF w x M)]) := hKx
    have h12___2___x : F (12 + 2 * x) = rI G 4 nrx := hNx
    have hok := hwf.2.2.2.1
    have hwf1 := WF_come hwf hM ht (by decide) hxB hxt
    have htk := tk_rows hok hRV ht (by decide) hxB hxt
    have hco := co_rows (n := M) hok hRV ht (by decide) hxB hxt
    have hLV1 := LV_come (n := M) hok hLV ht (by decide) hxB htk.2 htk.1
    refine lv_aload_n X.1.1 X.1.2.1 dX5_come_0 rfl (lv_at hl 0 rfl) ?_
    refine sx_get X hP in_X5_come_X5 h1 (by decide) rfl 6 (by decide) lk_X5_come_fieldLink_RX5_43_RaceWatch_World_log_LRaceWatch_Log rfl dX5_come_1 ?_
    refine lv_iconst (v := nI 1) X.1.1 X.1.2.1 dX5_come_4 (by decide) ?_
    refine sx_cvI (As := [.int (nI 1)]) (rest := []) X (mX3_hasRoom l (M := M) (k := 1) (by omega) (by omega) h19) gX5_come_X3_hasRoom rfl yv_X3_hasRoom ⟨Nat.le_of_ble_eq_true rfl, Nat.le_of_ble_eq_true rfl⟩ h19 (by decide) rfl rfl hl.1 rfl (Nat.le_of_ble_eq_true rfl) dX5_come_5 ⟨Nat.le_of_ble_eq_true rfl, Nat.le_of_ble_eq_true rfl⟩ hs rfl hP (fun r41 F41 H41 l41 hp hP => ?_)
    obtain ⟨rfl, ⟨b42, rfl⟩ | ⟨b42, rfl⟩⟩ := hp
    · refine sx_if_ne X (by decide) (tgt := 14) dX5_come_8 (by decide) (fun _ => ?_) (fun h => absurd h (by decide))
      refine lv_aload_n X.1.1 X.1.2.1 dX5_come_14 rfl (lv_at hl 0 rfl) ?_
      refine lv_iload_n X.1.1 X.1.2.1 dX5_come_15 rfl (lv_at hl 1 rfl) ?_
      refine lv_iload_n X.1.1 X.1.2.1 dX5_come_16 rfl (lv_at hl 2 rfl) ?_
      refine lv_iload_n X.1.1 X.1.2.1 dX5_come_17 rfl (lv_at hl 3 rfl) ?_
      refine sx_cvV (As := [.int (nI (t)), .int (nI 6), .int (nI (x))]) (rest := []) X (mX5_takeIn l (t := t) (s := 6) (x := x) ht (by decide) hx h1 h2 h3 h4 h5 h6 h7 h8 h9) gX5_come_X5_takeIn rfl yv_X5_takeIn ⟨Nat.le_of_ble_eq_true rfl, Nat.le_of_ble_eq_true rfl⟩ h1 (by decide) rfl rfl hl.1 rfl (Nat.le_of_ble_eq_true rfl) dX5_come_18 ⟨Nat.le_of_ble_eq_true rfl, Nat.le_of_ble_eq_true rfl⟩ hs rfl hP (fun F43 H43 l43 hp hP => ?_)
      obtain ⟨e43, f43, g43, o43⟩ := hp
      have h1 := (o43 (1) (by decide)).trans h1
      have h2 : F43 (2) = rI G (4) (tiS 6 st x) := e43
      have h3 : F43 (3) = rI G (3) (tiH 6 ho t x) := f43
      have h4 := (o43 (4) (by decide)).trans h4
      have h5 : F43 (5) = rI G (16) (tiC 6 ct cl cs t x) := g43
      have h6 := (o43 (6) (by decide)).trans h6
      have h7 := (o43 (7) (by decide)).trans h7
      have h8 := (o43 (8) (by decide)).trans h8
      have h9 := (o43 (9) (by decide)).trans h9
      have h10 := (o43 (10) (by decide)).trans h10
      have h19 := (o43 (19) (by decide)).trans h19
      have h20 := (o43 (20) (by decide)).trans h20
      have h21 := (o43 (21) (by decide)).trans h21
      have h22 := (o43 (22) (by decide)).trans h22
      have h23 := (o43 (23) (by decide)).trans h23
      have h24 := (o43 (24) (by decide)).trans h24
      have h25 := (o43 (25) (by decide)).trans h25
      have h26 := (o43 (26) (by decide)).trans h26
      have h27 := (o43 (27) (by decide)).trans h27
      have h11___2___x := (o43 (11 + 2 * x) (by omega)).trans h11___2___x
      have h12___2___x := (o43 (12 + 2 * x) (by omega)).trans h12___2___x
      have hO : ∀ j, j = 0 ∨ 27 < j ∨ (10 < j ∧ j < 19 ∧ j ≠ 11 + 2 * x ∧ j ≠ 12 + 2 * x) → F43 j = F j := fun j hj => (o43 j (by omega)).trans (hO j hj)
      refine lv_aload_n X.1.1 X.1.2.1 dX5_come_21 rfl (lv_at hl 0 rfl) ?_
      refine lv_iload_n X.1.1 X.1.2.1 dX5_come_22 rfl (lv_at hl 1 rfl) ?_
      refine sx_cvI (As := [.int (nI (t))]) (rest := []) X (mX5_locksOf l (t := t) h1 h3) gX5_come_X5_locksOf rfl yv_X5_locksOf ⟨Nat.le_of_ble_eq_true rfl, Nat.le_of_ble_eq_true rfl⟩ h1 (by decide) rfl rfl hl.1 rfl (Nat.le_of_ble_eq_true rfl) dX5_come_23 ⟨Nat.le_of_ble_eq_true rfl, Nat.le_of_ble_eq_true rfl⟩ hs rfl hP (fun r44 F44 H44 l44 hp hP => ?_)
      obtain ⟨rfl, rfl⟩ := hp
      refine lv_istore (lv' := [(4, .int (heldF (tiH 6 ho t x) (nI (t)))), (0, rf G 1), (1, .int (nI (t))), (2, .int (nI 6)), (3, .int (nI (x)))]) X.1.1 X.1.2.1 dX5_come_26 hl (by decide) rfl (fun ls hl => ?_)
      refine lv_aload_n X.1.1 X.1.2.1 dX5_come_28 rfl (lv_at hl 1 rfl) ?_
      refine sx_get X hP in_X5_come_X5 h1 (by decide) rfl 6 (by decide) lk_X5_come_fieldLink_RX5_43_RaceWatch_World_log_LRaceWatch_Log rfl dX5_come_29 ?_
      refine lv_iload_n X.1.1 X.1.2.1 dX5_come_32 rfl (lv_at hl 2 rfl) ?_
      refine lv_iload_n X.1.1 X.1.2.1 dX5_come_33 rfl (lv_at hl 3 rfl) ?_
      refine lv_iload_n X.1.1 X.1.2.1 dX5_come_34 rfl (lv_at hl 4 rfl) ?_
      refine lv_iload X.1.1 X.1.2.1 dX5_come_35 (lv_at hl 0 rfl) ?_
      refine lv_aload_n X.1.1 X.1.2.1 dX5_come_37 rfl (lv_at hl 1 rfl) ?_
      refine sx_get X hP in_X5_come_X5 h1 (by decide) rfl 2 (by decide) lk_X5_come_fieldLink_RX5_23_RaceWatch_World_ofThreads_LRaceWatch_Clocks rfl dX5_come_38 ?_
      refine sx_cvI (As := [.int (nI (t)), .int (nI 6), .int (nI (x)), .int (heldF (tiH 6 ho t x) (nI (t))), rf G 4]) (rest := []) X (mX3_append l (M := M) (t := t) (s := 6) (x := x) (lk := (heldF (tiH 6 ho t x) (nI (t)))) hM ht h19 h20 h21 h22 h23 h24 h25 h4 h5) gX5_come_X3_append rfl yv_X3_append ⟨Nat.le_of_ble_eq_true rfl, Nat.le_of_ble_eq_true rfl⟩ h19 (by decide) rfl rfl hl.1 rfl (Nat.le_of_ble_eq_true rfl) dX5_come_41 ⟨Nat.le_of_ble_eq_true rfl, Nat.le_of_ble_eq_true rfl⟩ hs rfl hP (fun r45 F45 H45 l45 hp hP => ?_)
      obtain ⟨e45, f45, g45, d45, b45, a45, o45, rfl⟩ := hp
      have h1 := (o45 (1) (by decide)).trans h1
      have h2 := (o45 (2) (by decide)).trans h2
      have h3 := (o45 (3) (by decide)).trans h3
      have h4 := (o45 (4) (by decide)).trans h4
      have h5 := (o45 (5) (by decide)).trans h5
      have h6 := (o45 (6) (by decide)).trans h6
      have h7 := (o45 (7) (by decide)).trans h7
      have h8 := (o45 (8) (by decide)).trans h8
      have h9 := (o45 (9) (by decide)).trans h9
      have h10 := (o45 (10) (by decide)).trans h10
      have h19 : F45 (19) = ob 3 ([.int (nI (1 + M)), rf G 20, rf G 21, rf G 22, rf G 23, rf G 24, rf G 26, rf G 27]) := e45
      have h20 : F45 (20) = rI G (160) (upd th M (nI t)) := f45
      have h21 : F45 (21) = rI G (160) (upd so M (nI 6)) := g45
      have h22 : F45 (22) = rI G (160) (upd wi M (nI x)) := d45
      have h23 : F45 (23) = rI G (160) (upd lo M (heldF (tiH 6 ho t x) (nI (t)))) := b45
      have h24 := (o45 (24) (by decide)).trans h24
      have h25 : F45 (25) = rI G (640) (va_cpy (tiC 6 ct cl cs t x) lc (4 * t) (4 * M) 4) := a45
      have h26 := (o45 (26) (by decide)).trans h26
      have h27 := (o45 (27) (by decide)).trans h27
      have h11___2___x := (o45 (11 + 2 * x) (by omega)).trans h11___2___x
      have h12___2___x := (o45 (12 + 2 * x) (by omega)).trans h12___2___x
      have hO : ∀ j, j = 0 ∨ 27 < j ∨ (10 < j ∧ j < 19 ∧ j ≠ 11 + 2 * x ∧ j ≠ 12 + 2 * x) → F45 j = F j := fun j hj => (o45 j (by omega)).trans (hO j hj)
      refine lv_istore (lv' := [(5, .int (nI (M))), (4, .int (heldF (tiH 6 ho t x) (nI (t)))), (0, rf G 1), (1, .int (nI (t))), (2, .int (nI 6)), (3, .int (nI (x)))]) X.1.1 X.1.2.1 dX5_come_44 hl (by decide) rfl (fun ls hl => ?_)
      refine lv_iload_n X.1.1 X.1.2.1 dX5_come_46 rfl (lv_at hl 4 rfl) ?_
      refine sx_if_eq X (by decide) (tgt := 55) dX5_come_47 (by decide) (fun h => absurd h (by decide)) (fun _ => ?_)
      refine lv_iload_n X.1.1 X.1.2.1 dX5_come_50 rfl (lv_at hl 4 rfl) ?_
      refine lv_iconst (v := nI 1) X.1.1 X.1.2.1 dX5_come_51 (by decide) ?_
      refine sx_icmp_ne X (by decide) (by decide) (tgt := 92) dX5_come_52 (by decide) (fun _ => ?_) (fun h => absurd h (by decide))
      refine lv_aload_n X.1.1 X.1.2.1 dX5_come_92 rfl (lv_at hl 2 rfl) ?_
      refine lv_iload_n X.1.1 X.1.2.1 dX5_come_93 rfl (lv_at hl 3 rfl) ?_
      refine lv_iload_n X.1.1 X.1.2.1 dX5_come_94 rfl (lv_at hl 4 rfl) ?_
      refine lv_iload_n X.1.1 X.1.2.1 dX5_come_95 rfl (lv_at hl 5 rfl) ?_
      refine sx_cvV (As := [.int (nI (t)), .int (nI 6), .int (nI (x))]) (rest := []) X (mX5_handOn l (ho := ho) (t := t) (s := 6) (x := x) ht (by decide) hx h1 h2 h4 h5 h6 h7 h8 h9) gX5_come_X5_handOn rfl yv_X5_handOn ⟨Nat.le_of_ble_eq_true rfl, Nat.le_of_ble_eq_true rfl⟩ h1 (by decide) rfl rfl hl.1 rfl (Nat.le_of_ble_eq_true rfl) dX5_come_96 ⟨Nat.le_of_ble_eq_true rfl, Nat.le_of_ble_eq_true rfl⟩ hs rfl hP (fun F46 H46 l46 hp hP => ?_)
      obtain ⟨e46, f46, g46, d46, o46⟩ := hp
      have h1 := (o46 (1) (by decide)).trans h1
      have h2 : F46 (2) = rI G (4) (haS 6 (tiS 6 st x) x) := e46
      have h3 := (o46 (3) (by decide)).trans h3
      have h4 := (o46 (4) (by decide)).trans h4
      have h5 : F46 (5) = rI G (16) (haC 6 (tiC 6 ct cl cs t x) t x) := f46
      have h6 := (o46 (6) (by decide)).trans h6
      have h7 : F46 (7) = rI G (12) (haL 6 cl (tiC 6 ct cl cs t x) t x) := g46
      have h8 := (o46 (8) (by decide)).trans h8
      have h9 : F46 (9) = rI G (8) (haE 6 cs (tiC 6 ct cl cs t x) t x) := d46
      have h10 := (o46 (10) (by decide)).trans h10
      have h19 := (o46 (19) (by decide)).trans h19
      have h20 := (o46 (20) (by decide)).trans h20
      have h21 := (o46 (21) (by decide)).trans h21
      have h22 := (o46 (22) (by decide)).trans h22
      have h23 := (o46 (23) (by decide)).trans h23
      have h24 := (o46 (24) (by decide)).trans h24
      have h25 := (o46 (25) (by decide)).trans h25
      have h26 := (o46 (26) (by decide)).trans h26
      have h27 := (o46 (27) (by decide)).trans h27
      have h11___2___x := (o46 (11 + 2 * x) (by omega)).trans h11___2___x
      have h12___2___x := (o46 (12 + 2 * x) (by omega)).trans h12___2___x
      have hO : ∀ j, j = 0 ∨ 27 < j ∨ (10 < j ∧ j < 19 ∧ j ≠ 11 + 2 * x ∧ j ≠ 12 + 2 * x) → F46 j = F j := fun j hj => (o46 j (by omega)).trans (hO j hj)
      refine lv_iload X.1.1 X.1.2.1 dX5_come_99 (lv_at hl 0 rfl) ?_
      have hO2 : ∀ j, (j = 0 ∨ 27 < j) → F46 j = F j := fun j hj => hO j (by omega)
      have hKc : ∀ c, c < 4 → KV G F46 (comeF w M t 6 x) (1 + M) 1 c := fun c hc => by
        by_cases q : x = c
        · subst q; exact KV_come hok ht (by decide) hxB hc (Or.inl (by decide)) (hKV x hc) (h11___2___x.trans hKx.symm) (h12___2___x.trans hNx.symm)
        · exact KV_come hok ht (by decide) hxB hc (Or.inr q) (hKV c hc) (hO _ (by omega)) (hO _ (by omega))
      rw [hQ]
      exact sx_iret X rfl hs rfl hP dX5_come_101 (⟨⟨_, _, _, _, _, kr, r4, r6, r8, h1, h2, h3, h4, h5, h6, h7, h8, h9, h10, hkr, hco, hKc, ⟨_, _, _, _, _, _, _, rr, h19, h20, h21, h22, h23, h24, h25, h26, h27, hLV1, RB_come hok hwf.2.2.1 ht (by decide) hxB hRB (fun _ _ => rfl) (fun q => absurd q (by decide)), RC_come hok hwf.2.2.1 ht (by decide) hxB hRC (fun q => absurd q (by decide)) (fun _ _ => rfl)⟩, hRw⟩, hO2, rfl⟩)
    · exact absurd (by omega) b42
  · have hxB : x < boundF 7 := hx
    have hx : x < 4 := hx
    obtain ⟨st, ho, ct, cl, cs, kr, r4, r6, r8, h1, h2, h3, h4, h5, h6, h7, h8, h9, h10, hkr, hRV, hKV, hLg, hRw⟩ := hW
    obtain ⟨th, so, wi, lo, lc, rb, rc, rr, h19, h20, h21, h22, h23, h24, h25, h26, h27, hLV, hRB, hRC⟩ := hLg
    have h1 : F 1 = ob 5 ([rf G 2, rf G 3, rf G 4, rf G 6, rf G 8, rf G 10, rf G 19]) := h1
    have h2 : F 2 = rI G (4) (st) := h2
    have h3 : F 3 = rI G (3) (ho) := h3
    have h4 : F 4 = ob 1 ([r4, rf G 5]) := h4
    have h5 : F 5 = rI G (16) (ct) := h5
    have h6 : F 6 = ob 1 ([r6, rf G 7]) := h6
    have h7 : F 7 = rI G (12) (cl) := h7
    have h8 : F 8 = ob 1 ([r8, rf G 9]) := h8
    have h9 : F 9 = rI G (8) (cs) := h9
    have h10 : F 10 = rK G (4) (kr) := h10
    have h19 : F 19 = ob 3 ([.int (nI (M)), rf G 20, rf G 21, rf G 22, rf G 23, rf G 24, rf G 26, rf G 27]) := h19
    have h20 : F 20 = rI G (160) (th) := h20
    have h21 : F 21 = rI G (160) (so) := h21
    have h22 : F 22 = rI G (160) (wi) := h22
    have h23 : F 23 = rI G (160) (lo) := h23
    have h24 : F 24 = ob 1 ([rr, rf G 25]) := h24
    have h25 : F 25 = rI G (640) (lc) := h25
    have h26 : F 26 = rI G (160) (rb) := h26
    have h27 : F 27 = rI G (12) (rc) := h27
    have hkr : ∀ j, j < 4 → kr j = some (sx_b G + (11 + 2 * j)) := hkr
    obtain ⟨hKx, nrx, hNx, hnr⟩ := hKV x (by omega)
    have h11___2___x : F (11 + 2 * x) = ob 2 ([.int (w (43 + 12 * x)), .int (w (44 + 12 * x)), .int (w (45 + 12 * x)), .int (w (46 + 12 * x)), .int (w (47 + 12 * x)), rf G (12 + 2 * x), .int (w (52 + 12 * x)), .int (w (53 + 12 * x)), .int (w (54 + 12 * x)), .int (gdF w x M)]) := hKx
    have h12___2___x : F (12 + 2 * x) = rI G 4 nrx := hNx
    have hok := hwf.2.2.2.1
    have hwf1 := WF_come hwf hM ht (by decide) hxB hxt
    have htk := tk_rows hok hRV ht (by decide) hxB hxt
    have hco := co_rows (n := M) hok hRV ht (by decide) hxB hxt
    have hLV1 := LV_come (n := M) hok hLV ht (by decide) hxB htk.2 htk.1
    refine lv_aload_n X.1.1 X.1.2.1 dX5_come_0 rfl (lv_at hl 0 rfl) ?_
    refine sx_get X hP in_X5_come_X5 h1 (by decide) rfl 6 (by decide) lk_X5_come_fieldLink_RX5_43_RaceWatch_World_log_LRaceWatch_Log rfl dX5_come_1 ?_
    refine lv_iconst (v := nI 1) X.1.1 X.1.2.1 dX5_come_4 (by decide) ?_
    refine sx_cvI (As := [.int (nI 1)]) (rest := []) X (mX3_hasRoom l (M := M) (k := 1) (by omega) (by omega) h19) gX5_come_X3_hasRoom rfl yv_X3_hasRoom ⟨Nat.le_of_ble_eq_true rfl, Nat.le_of_ble_eq_true rfl⟩ h19 (by decide) rfl rfl hl.1 rfl (Nat.le_of_ble_eq_true rfl) dX5_come_5 ⟨Nat.le_of_ble_eq_true rfl, Nat.le_of_ble_eq_true rfl⟩ hs rfl hP (fun r47 F47 H47 l47 hp hP => ?_)
    obtain ⟨rfl, ⟨b48, rfl⟩ | ⟨b48, rfl⟩⟩ := hp
    · refine sx_if_ne X (by decide) (tgt := 14) dX5_come_8 (by decide) (fun _ => ?_) (fun h => absurd h (by decide))
      refine lv_aload_n X.1.1 X.1.2.1 dX5_come_14 rfl (lv_at hl 0 rfl) ?_
      refine lv_iload_n X.1.1 X.1.2.1 dX5_come_15 rfl (lv_at hl 1 rfl) ?_
      refine lv_iload_n X.1.1 X.1.2.1 dX5_come_16 rfl (lv_at hl 2 rfl) ?_
      refine lv_iload_n X.1.1 X.1.2.1 dX5_come_17 rfl (lv_at hl 3 rfl) ?_
      refine sx_cvV (As := [.int (nI (t)), .int (nI 7), .int (nI (x))]) (rest := []) X (mX5_takeIn l (t := t) (s := 7) (x := x) ht (by decide) hx h1 h2 h3 h4 h5 h6 h7 h8 h9) gX5_come_X5_takeIn rfl yv_X5_takeIn ⟨Nat.le_of_ble_eq_true rfl, Nat.le_of_ble_eq_true rfl⟩ h1 (by decide) rfl rfl hl.1 rfl (Nat.le_of_ble_eq_true rfl) dX5_come_18 ⟨Nat.le_of_ble_eq_true rfl, Nat.le_of_ble_eq_true rfl⟩ hs rfl hP (fun F49 H49 l49 hp hP => ?_)
      obtain ⟨e49, f49, g49, o49⟩ := hp
      have h1 := (o49 (1) (by decide)).trans h1
      have h2 : F49 (2) = rI G (4) (tiS 7 st x) := e49
      have h3 : F49 (3) = rI G (3) (tiH 7 ho t x) := f49
      have h4 := (o49 (4) (by decide)).trans h4
      have h5 : F49 (5) = rI G (16) (tiC 7 ct cl cs t x) := g49
      have h6 := (o49 (6) (by decide)).trans h6
      have h7 := (o49 (7) (by decide)).trans h7
      have h8 := (o49 (8) (by decide)).trans h8
      have h9 := (o49 (9) (by decide)).trans h9
      have h10 := (o49 (10) (by decide)).trans h10
      have h19 := (o49 (19) (by decide)).trans h19
      have h20 := (o49 (20) (by decide)).trans h20
      have h21 := (o49 (21) (by decide)).trans h21
      have h22 := (o49 (22) (by decide)).trans h22
      have h23 := (o49 (23) (by decide)).trans h23
      have h24 := (o49 (24) (by decide)).trans h24
      have h25 := (o49 (25) (by decide)).trans h25
      have h26 := (o49 (26) (by decide)).trans h26
      have h27 := (o49 (27) (by decide)).trans h27
      have h11___2___x := (o49 (11 + 2 * x) (by omega)).trans h11___2___x
      have h12___2___x := (o49 (12 + 2 * x) (by omega)).trans h12___2___x
      have hO : ∀ j, j = 0 ∨ 27 < j ∨ (10 < j ∧ j < 19 ∧ j ≠ 11 + 2 * x ∧ j ≠ 12 + 2 * x) → F49 j = F j := fun j hj => (o49 j (by omega)).trans (hO j hj)
      refine lv_aload_n X.1.1 X.1.2.1 dX5_come_21 rfl (lv_at hl 0 rfl) ?_
      refine lv_iload_n X.1.1 X.1.2.1 dX5_come_22 rfl (lv_at hl 1 rfl) ?_
      refine sx_cvI (As := [.int (nI (t))]) (rest := []) X (mX5_locksOf l (t := t) h1 h3) gX5_come_X5_locksOf rfl yv_X5_locksOf ⟨Nat.le_of_ble_eq_true rfl, Nat.le_of_ble_eq_true rfl⟩ h1 (by decide) rfl rfl hl.1 rfl (Nat.le_of_ble_eq_true rfl) dX5_come_23 ⟨Nat.le_of_ble_eq_true rfl, Nat.le_of_ble_eq_true rfl⟩ hs rfl hP (fun r50 F50 H50 l50 hp hP => ?_)
      obtain ⟨rfl, rfl⟩ := hp
      refine lv_istore (lv' := [(4, .int (heldF (tiH 7 ho t x) (nI (t)))), (0, rf G 1), (1, .int (nI (t))), (2, .int (nI 7)), (3, .int (nI (x)))]) X.1.1 X.1.2.1 dX5_come_26 hl (by decide) rfl (fun ls hl => ?_)
      refine lv_aload_n X.1.1 X.1.2.1 dX5_come_28 rfl (lv_at hl 1 rfl) ?_
      refine sx_get X hP in_X5_come_X5 h1 (by decide) rfl 6 (by decide) lk_X5_come_fieldLink_RX5_43_RaceWatch_World_log_LRaceWatch_Log rfl dX5_come_29 ?_
      refine lv_iload_n X.1.1 X.1.2.1 dX5_come_32 rfl (lv_at hl 2 rfl) ?_
      refine lv_iload_n X.1.1 X.1.2.1 dX5_come_33 rfl (lv_at hl 3 rfl) ?_
      refine lv_iload_n X.1.1 X.1.2.1 dX5_come_34 rfl (lv_at hl 4 rfl) ?_
      refine lv_iload X.1.1 X.1.2.1 dX5_come_35 (lv_at hl 0 rfl) ?_
      refine lv_aload_n X.1.1 X.1.2.1 dX5_come_37 rfl (lv_at hl 1 rfl) ?_
      refine sx_get X hP in_X5_come_X5 h1 (by decide) rfl 2 (by decide) lk_X5_come_fieldLink_RX5_23_RaceWatch_World_ofThreads_LRaceWatch_Clocks rfl dX5_come_38 ?_
      refine sx_cvI (As := [.int (nI (t)), .int (nI 7), .int (nI (x)), .int (heldF (tiH 7 ho t x) (nI (t))), rf G 4]) (rest := []) X (mX3_append l (M := M) (t := t) (s := 7) (x := x) (lk := (heldF (tiH 7 ho t x) (nI (t)))) hM ht h19 h20 h21 h22 h23 h24 h25 h4 h5) gX5_come_X3_append rfl yv_X3_append ⟨Nat.le_of_ble_eq_true rfl, Nat.le_of_ble_eq_true rfl⟩ h19 (by decide) rfl rfl hl.1 rfl (Nat.le_of_ble_eq_true rfl) dX5_come_41 ⟨Nat.le_of_ble_eq_true rfl, Nat.le_of_ble_eq_true rfl⟩ hs rfl hP (fun r51 F51 H51 l51 hp hP => ?_)
      obtain ⟨e51, f51, g51, d51, b51, a51, o51, rfl⟩ := hp
      have h1 := (o51 (1) (by decide)).trans h1
      have h2 := (o51 (2) (by decide)).trans h2
      have h3 := (o51 (3) (by decide)).trans h3
      have h4 := (o51 (4) (by decide)).trans h4
      have h5 := (o51 (5) (by decide)).trans h5
      have h6 := (o51 (6) (by decide)).trans h6
      have h7 := (o51 (7) (by decide)).trans h7
      have h8 := (o51 (8) (by decide)).trans h8
      have h9 := (o51 (9) (by decide)).trans h9
      have h10 := (o51 (10) (by decide)).trans h10
      have h19 : F51 (19) = ob 3 ([.int (nI (1 + M)), rf G 20, rf G 21, rf G 22, rf G 23, rf G 24, rf G 26, rf G 27]) := e51
      have h20 : F51 (20) = rI G (160) (upd th M (nI t)) := f51
      have h21 : F51 (21) = rI G (160) (upd so M (nI 7)) := g51
      have h22 : F51 (22) = rI G (160) (upd wi M (nI x)) := d51
      have h23 : F51 (23) = rI G (160) (upd lo M (heldF (tiH 7 ho t x) (nI (t)))) := b51
      have h24 := (o51 (24) (by decide)).trans h24
      have h25 : F51 (25) = rI G (640) (va_cpy (tiC 7 ct cl cs t x) lc (4 * t) (4 * M) 4) := a51
      have h26 := (o51 (26) (by decide)).trans h26
      have h27 := (o51 (27) (by decide)).trans h27
      have h11___2___x := (o51 (11 + 2 * x) (by omega)).trans h11___2___x
      have h12___2___x := (o51 (12 + 2 * x) (by omega)).trans h12___2___x
      have hO : ∀ j, j = 0 ∨ 27 < j ∨ (10 < j ∧ j < 19 ∧ j ≠ 11 + 2 * x ∧ j ≠ 12 + 2 * x) → F51 j = F j := fun j hj => (o51 j (by omega)).trans (hO j hj)
      refine lv_istore (lv' := [(5, .int (nI (M))), (4, .int (heldF (tiH 7 ho t x) (nI (t)))), (0, rf G 1), (1, .int (nI (t))), (2, .int (nI 7)), (3, .int (nI (x)))]) X.1.1 X.1.2.1 dX5_come_44 hl (by decide) rfl (fun ls hl => ?_)
      refine lv_iload_n X.1.1 X.1.2.1 dX5_come_46 rfl (lv_at hl 4 rfl) ?_
      refine sx_if_eq X (by decide) (tgt := 55) dX5_come_47 (by decide) (fun h => absurd h (by decide)) (fun _ => ?_)
      refine lv_iload_n X.1.1 X.1.2.1 dX5_come_50 rfl (lv_at hl 4 rfl) ?_
      refine lv_iconst (v := nI 1) X.1.1 X.1.2.1 dX5_come_51 (by decide) ?_
      refine sx_icmp_ne X (by decide) (by decide) (tgt := 92) dX5_come_52 (by decide) (fun _ => ?_) (fun h => absurd h (by decide))
      refine lv_aload_n X.1.1 X.1.2.1 dX5_come_92 rfl (lv_at hl 2 rfl) ?_
      refine lv_iload_n X.1.1 X.1.2.1 dX5_come_93 rfl (lv_at hl 3 rfl) ?_
      refine lv_iload_n X.1.1 X.1.2.1 dX5_come_94 rfl (lv_at hl 4 rfl) ?_
      refine lv_iload_n X.1.1 X.1.2.1 dX5_come_95 rfl (lv_at hl 5 rfl) ?_
      refine sx_cvV (As := [.int (nI (t)), .int (nI 7), .int (nI (x))]) (rest := []) X (mX5_handOn l (ho := ho) (t := t) (s := 7) (x := x) ht (by decide) hx h1 h2 h4 h5 h6 h7 h8 h9) gX5_come_X5_handOn rfl yv_X5_handOn ⟨Nat.le_of_ble_eq_true rfl, Nat.le_of_ble_eq_true rfl⟩ h1 (by decide) rfl rfl hl.1 rfl (Nat.le_of_ble_eq_true rfl) dX5_come_96 ⟨Nat.le_of_ble_eq_true rfl, Nat.le_of_ble_eq_true rfl⟩ hs rfl hP (fun F52 H52 l52 hp hP => ?_)
      obtain ⟨e52, f52, g52, d52, o52⟩ := hp
      have h1 := (o52 (1) (by decide)).trans h1
      have h2 : F52 (2) = rI G (4) (haS 7 (tiS 7 st x) x) := e52
      have h3 := (o52 (3) (by decide)).trans h3
      have h4 := (o52 (4) (by decide)).trans h4
      have h5 : F52 (5) = rI G (16) (haC 7 (tiC 7 ct cl cs t x) t x) := f52
      have h6 := (o52 (6) (by decide)).trans h6
      have h7 : F52 (7) = rI G (12) (haL 7 cl (tiC 7 ct cl cs t x) t x) := g52
      have h8 := (o52 (8) (by decide)).trans h8
      have h9 : F52 (9) = rI G (8) (haE 7 cs (tiC 7 ct cl cs t x) t x) := d52
      have h10 := (o52 (10) (by decide)).trans h10
      have h19 := (o52 (19) (by decide)).trans h19
      have h20 := (o52 (20) (by decide)).trans h20
      have h21 := (o52 (21) (by decide)).trans h21
      have h22 := (o52 (22) (by decide)).trans h22
      have h23 := (o52 (23) (by decide)).trans h23
      have h24 := (o52 (24) (by decide)).trans h24
      have h25 := (o52 (25) (by decide)).trans h25
      have h26 := (o52 (26) (by decide)).trans h26
      have h27 := (o52 (27) (by decide)).trans h27
      have h11___2___x := (o52 (11 + 2 * x) (by omega)).trans h11___2___x
      have h12___2___x := (o52 (12 + 2 * x) (by omega)).trans h12___2___x
      have hO : ∀ j, j = 0 ∨ 27 < j ∨ (10 < j ∧ j < 19 ∧ j ≠ 11 + 2 * x ∧ j ≠ 12 + 2 * x) → F52 j = F j := fun j hj => (o52 j (by omega)).trans (hO j hj)
      refine lv_iload X.1.1 X.1.2.1 dX5_come_99 (lv_at hl 0 rfl) ?_
      have hO2 : ∀ j, (j = 0 ∨ 27 < j) → F52 j = F j := fun j hj => hO j (by omega)
      have hKc : ∀ c, c < 4 → KV G F52 (comeF w M t 7 x) (1 + M) 1 c := fun c hc => by
        by_cases q : x = c
        · subst q; exact KV_come hok ht (by decide) hxB hc (Or.inl (by decide)) (hKV x hc) (h11___2___x.trans hKx.symm) (h12___2___x.trans hNx.symm)
        · exact KV_come hok ht (by decide) hxB hc (Or.inr q) (hKV c hc) (hO _ (by omega)) (hO _ (by omega))
      rw [hQ]
      exact sx_iret X rfl hs rfl hP dX5_come_101 (⟨⟨_, _, _, _, _, kr, r4, r6, r8, h1, h2, h3, h4, h5, h6, h7, h8, h9, h10, hkr, hco, hKc, ⟨_, _, _, _, _, _, _, rr, h19, h20, h21, h22, h23, h24, h25, h26, h27, hLV1, RB_come hok hwf.2.2.1 ht (by decide) hxB hRB (fun _ _ => rfl) (fun q => absurd q (by decide)), RC_come hok hwf.2.2.1 ht (by decide) hxB hRC (fun q => absurd q (by decide)) (fun _ _ => rfl)⟩, hRw⟩, hO2, rfl⟩)
    · exact absurd (by omega) b48
