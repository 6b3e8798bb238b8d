theorem ys_X6_cell : yX6_cell.cls ≠ "java/lang/invoke/MethodHandle" ∧ yX6_cell.cls ≠ "java/lang/invoke/VarHandle" ∧ (parseMethodDescriptor yX6_cell.desc).map (fun d => d.parameters.length) = some 2 := by decide +kernel
theorem yv_X6_cell : yX6_cell.cls = RX6 ∧ yX6_cell.cls ≠ "java/lang/invoke/MethodHandle" ∧ yX6_cell.cls ≠ "java/lang/invoke/VarHandle" ∧ (parseMethodDescriptor yX6_cell.desc).map (fun d => d.parameters.length) = some 2 := ⟨rfl, ys_X6_cell⟩
theorem in_X6_cell_X6 : ∀ w ∈ wsX60, w ∈ wsX6_cell := fun _ h => List.mem_cons_of_mem _ (List.mem_append_left _ (List.mem_append_left _ (List.mem_append_right _ (h))))
theorem lk_X6_cell_fieldLink_RX6_10_RaceWatch_world_LRaceWatch_World : (.fieldLink RX6 10 "RaceWatch" "world" "LRaceWatch$World;" : Cond) ∈ wsX6_cell := List.mem_cons_of_mem _ (List.mem_append_left _ (List.mem_append_left _ (List.mem_append_left _ (List.mem_of_getElem? (i := 1) rfl))))
theorem in_X6_cell_X5 : ∀ w ∈ wsX50, w ∈ wsX6_cell := fun _ h => List.mem_cons_of_mem _ (List.mem_append_left _ (List.mem_append_right _ (h)))
theorem lk_X6_cell_fieldLink_RX6_171_RaceWatch_World_cells_LRaceWatch_Kept : (.fieldLink RX6 171 "RaceWatch$World" "cells" "[LRaceWatch$Kept;" : Cond) ∈ wsX6_cell := List.mem_cons_of_mem _ (List.mem_append_left _ (List.mem_append_left _ (List.mem_append_left _ (List.mem_of_getElem? (i := 2) rfl))))
theorem in_X6_cell_X2 : ∀ w ∈ wsX20, w ∈ wsX6_cell := fun _ h => List.mem_cons_of_mem _ (List.mem_append_right _ (h))
theorem lk_X6_cell_fieldLink_RX6_175_RaceWatch_Kept_writer_I : (.fieldLink RX6 175 "RaceWatch$Kept" "writer" "I" : Cond) ∈ wsX6_cell := List.mem_cons_of_mem _ (List.mem_append_left _ (List.mem_append_left _ (List.mem_append_left _ (List.mem_of_getElem? (i := 3) rfl))))
theorem lk_X6_cell_fieldLink_RX6_180_RaceWatch_Kept_writeNumber_I : (.fieldLink RX6 180 "RaceWatch$Kept" "writeNumber" "I" : Cond) ∈ wsX6_cell := List.mem_cons_of_mem _ (List.mem_append_left _ (List.mem_append_left _ (List.mem_append_left _ (List.mem_of_getElem? (i := 4) rfl))))
theorem lk_X6_cell_fieldLink_RX6_183_RaceWatch_Kept_reader_I : (.fieldLink RX6 183 "RaceWatch$Kept" "reader" "I" : Cond) ∈ wsX6_cell := List.mem_cons_of_mem _ (List.mem_append_left _ (List.mem_append_left _ (List.mem_append_left _ (List.mem_of_getElem? (i := 5) rfl))))
theorem lk_X6_cell_fieldLink_RX6_186_RaceWatch_Kept_readNumber_I : (.fieldLink RX6 186 "RaceWatch$Kept" "readNumber" "I" : Cond) ∈ wsX6_cell := List.mem_cons_of_mem _ (List.mem_append_left _ (List.mem_append_left _ (List.mem_append_left _ (List.mem_of_getElem? (i := 6) rfl))))
theorem lk_X6_cell_fieldLink_RX6_189_RaceWatch_Kept_isShared_Z : (.fieldLink RX6 189 "RaceWatch$Kept" "isShared" "Z" : Cond) ∈ wsX6_cell := List.mem_cons_of_mem _ (List.mem_append_left _ (List.mem_append_left _ (List.mem_append_left _ (List.mem_of_getElem? (i := 7) rfl))))
theorem lk_X6_cell_fieldLink_RX6_193_RaceWatch_Kept_promotions_I : (.fieldLink RX6 193 "RaceWatch$Kept" "promotions" "I" : Cond) ∈ wsX6_cell := List.mem_cons_of_mem _ (List.mem_append_left _ (List.mem_append_left _ (List.mem_append_left _ (List.mem_of_getElem? (i := 8) rfl))))
theorem lk_X6_cell_fieldLink_RX6_196_RaceWatch_Kept_firstEvent_I : (.fieldLink RX6 196 "RaceWatch$Kept" "firstEvent" "I" : Cond) ∈ wsX6_cell := List.mem_cons_of_mem _ (List.mem_append_left _ (List.mem_append_left _ (List.mem_append_left _ (List.mem_of_getElem? (i := 9) rfl))))
theorem lk_X6_cell_fieldLink_RX6_199_RaceWatch_Kept_firstKind_I : (.fieldLink RX6 199 "RaceWatch$Kept" "firstKind" "I" : Cond) ∈ wsX6_cell := List.mem_cons_of_mem _ (List.mem_append_left _ (List.mem_append_left _ (List.mem_append_left _ (List.mem_of_getElem? (i := 10) rfl))))
theorem lk_X6_cell_constant_RX6_44_1000000002 : (.constant RX6 44 (-1000000002) : Cond) ∈ wsX6_cell := List.mem_cons_of_mem _ (List.mem_append_left _ (List.mem_append_left _ (List.mem_append_left _ (List.mem_of_getElem? (i := 11) rfl))))
theorem lk_X6_cell_constant_RX6_67_1000000001 : (.constant RX6 67 (-1000000001) : Cond) ∈ wsX6_cell := List.mem_cons_of_mem _ (List.mem_append_left _ (List.mem_append_left _ (List.mem_append_left _ (List.mem_of_getElem? (i := 0) rfl))))
abbrev rmX6_cell : Room := { frames := 1, cells := 0, slots := 0, locals := 21 }
set_option maxHeartbeats 800000 in
set_option maxRecDepth 100000 in
theorem mX6_cell {G : sx_G} (l : Launch) {F : Nat → va_E} {w : Nat → Int32} {M : Nat} {x o : Int32}  (hW : WV G F w M 1) (hwf : WFw w M) (h0 : F (0) = ob 6 ([rf G 1, rf G 28, rf G 83, rf G 84])) : sx_I G l yX6_cell wsX6_cell rmX6_cell [rf G 0, .int (x), .int (o)] (97) F (97) (fun r F1 => F = F1 ∧ cellF w x o = r) := by
  refine sx_enter (cc := cX6_cell) (maxL := 4) (ret := some .int) (own := RX6) (nm := "cell") (by decide) rfl rfl rfl (Nat.le_of_ble_eq_true rfl) ?_
  intro pp ee ss mm args below meth kc ls Q hQ X hs hP hl
  have hl : lv_has ls 4 [(0, rf G 0), (1, .int (x)), (2, .int (o))] := hl
  obtain ⟨st, ho, ct, cl, cs, kr, r4, r6, r8, h1, h2, h3, h4, h5, h6, h7, h8, h9, h10, hkr, hRV, hKV, hLg, hRw⟩ := hW
  obtain ⟨th, so, wi, lo, lc, rb, rc, rr, h19, h20, h21, h22, h23, h24, h25, h26, h27, hLV, hRB, hRC⟩ := hLg
  have h1 : F 1 = ob 5 ([rf G 2, rf G 3, rf G 4, rf G 6, rf G 8, rf G 10, rf G 19]) := h1
  have h2 : F 2 = rI G (4) (st) := h2
  have h3 : F 3 = rI G (3) (ho) := h3
  have h4 : F 4 = ob 1 ([r4, rf G 5]) := h4
  have h5 : F 5 = rI G (16) (ct) := h5
  have h6 : F 6 = ob 1 ([r6, rf G 7]) := h6
  have h7 : F 7 = rI G (12) (cl) := h7
  have h8 : F 8 = ob 1 ([r8, rf G 9]) := h8
  have h9 : F 9 = rI G (8) (cs) := h9
  have h10 : F 10 = rK G (4) (kr) := h10
  have h19 : F 19 = ob 3 ([.int (nI (M)), rf G 20, rf G 21, rf G 22, rf G 23, rf G 24, rf G 26, rf G 27]) := h19
  have h20 : F 20 = rI G (160) (th) := h20
  have h21 : F 21 = rI G (160) (so) := h21
  have h22 : F 22 = rI G (160) (wi) := h22
  have h23 : F 23 = rI G (160) (lo) := h23
  have h24 : F 24 = ob 1 ([rr, rf G 25]) := h24
  have h25 : F 25 = rI G (640) (lc) := h25
  have h26 : F 26 = rI G (160) (rb) := h26
  have h27 : F 27 = rI G (12) (rc) := h27
  have hkr : ∀ j, j < 4 → kr j = some (sx_b G + (11 + 2 * j)) := hkr
  refine lv_iload_n X.1.1 X.1.2.1 dX6_cell_0 rfl (lv_at hl 1 rfl) ?_
  refine lv_iconst (v := nI 4) X.1.1 X.1.2.1 dX6_cell_1 (by decide) ?_
  refine sx_csI (As := [.int (x), .int (nI 4)]) (rest := []) X (mX6_isIn l (x := (x)) (k := 4) (by omega)) gX6_cell_X6_isIn rfl ys_X6_isIn ⟨Nat.le_of_ble_eq_true rfl, Nat.le_of_ble_eq_true rfl⟩ hl.1 rfl (Nat.le_of_ble_eq_true rfl) dX6_cell_2 ⟨Nat.le_of_ble_eq_true rfl, Nat.le_of_ble_eq_true rfl⟩ hs rfl hP (fun r1 F1 H1 l1 hp hP => ?_)
  obtain ⟨rfl, ⟨b2, rfl⟩ | ⟨b2, rfl⟩⟩ := hp
  · obtain ⟨c, hc, rfl⟩ := b2
    obtain ⟨hKx, nrx, hNx, hnr⟩ := hKV c hc
    have h11___2___c : F (11 + 2 * c) = ob 2 ([.int (w (43 + 12 * c)), .int (w (44 + 12 * c)), .int (w (45 + 12 * c)), .int (w (46 + 12 * c)), .int (w (47 + 12 * c)), rf G (12 + 2 * c), .int (w (52 + 12 * c)), .int (w (53 + 12 * c)), .int (w (54 + 12 * c)), .int (gdF w c M)]) := hKx
    have h12___2___c : F (12 + 2 * c) = rI G 4 nrx := hNx
    refine sx_if_ne X (by decide) (tgt := 11) dX6_cell_5 (by decide) (fun _ => ?_) (fun h => absurd h (by decide))
    refine lv_aload_n X.1.1 X.1.2.1 dX6_cell_11 rfl (lv_at hl 0 rfl) ?_
    refine sx_get X hP in_X6_cell_X6 h0 (by decide) rfl 0 (by decide) lk_X6_cell_fieldLink_RX6_10_RaceWatch_world_LRaceWatch_World rfl dX6_cell_12 ?_
    refine sx_get X hP in_X6_cell_X5 h1 (by decide) rfl 5 (by decide) lk_X6_cell_fieldLink_RX6_171_RaceWatch_World_cells_LRaceWatch_Kept rfl dX6_cell_15 ?_
    refine lv_iload_n X.1.1 X.1.2.1 dX6_cell_18 rfl (lv_at hl 1 rfl) ?_
    refine sx_kald X hP h10 (by decide) (c) (by omega) (by decide) (q := 11 + 2 * c) ((hkr _ (by omega)).trans (congrArg some (by omega))) dX6_cell_19 ?_
    refine lv_astore_n (lv' := [(3, rf G (11 + 2 * c)), (0, rf G 0), (1, .int (nI (c))), (2, .int (o))]) X.1.1 X.1.2.1 dX6_cell_20 rfl hl (by decide) rfl (fun ls hl => ?_)
    refine lv_iload_n X.1.1 X.1.2.1 dX6_cell_21 rfl (lv_at hl 3 rfl) ?_
    by_cases ho : inR o 8
    · obtain ⟨jo, hjo, rfl⟩ := ho
      rcases (show jo = 0 ∨ jo = 1 ∨ jo = 2 ∨ jo = 3 ∨ jo = 4 ∨ jo = 5 ∨ jo = 6 ∨ jo = 7 by omega) with rfl | rfl | rfl | rfl | rfl | rfl | rfl | rfl
      · refine lv_tableIn (off := 46) (tgt := 68) X.1.1 X.1.2.1 dX6_cell_22 (by decide) (by decide) (by decide) (by decide) ?_
        refine lv_aload_n X.1.1 X.1.2.1 dX6_cell_68 rfl (lv_at hl 0 rfl) ?_
        refine sx_get X hP in_X6_cell_X2 h11___2___c (by omega) rfl 0 (by decide) lk_X6_cell_fieldLink_RX6_175_RaceWatch_Kept_writer_I rfl dX6_cell_69 ?_
        rw [hQ]
        exact sx_iret X rfl hs rfl hP dX6_cell_72 (⟨rfl, by unfold cellF; rw [cif_f (fun q => q ⟨c, hc, rfl⟩), cif_f (fun q => q ⟨0, by decide, rfl⟩), nI_clamp (n := 0) (by decide), nI_clamp (n := c) (by omega)]; rfl⟩)
      · refine lv_tableIn (off := 51) (tgt := 73) X.1.1 X.1.2.1 dX6_cell_22 (by decide) (by decide) (by decide) (by decide) ?_
        refine lv_aload_n X.1.1 X.1.2.1 dX6_cell_73 rfl (lv_at hl 0 rfl) ?_
        refine sx_get X hP in_X6_cell_X2 h11___2___c (by omega) rfl 1 (by decide) lk_X6_cell_fieldLink_RX6_180_RaceWatch_Kept_writeNumber_I rfl dX6_cell_74 ?_
        rw [hQ]
        exact sx_iret X rfl hs rfl hP dX6_cell_77 (⟨rfl, by unfold cellF; rw [cif_f (fun q => q ⟨c, hc, rfl⟩), cif_f (fun q => q ⟨1, by decide, rfl⟩), nI_clamp (n := 1) (by decide), nI_clamp (n := c) (by omega)]; rfl⟩)
      · refine lv_tableIn (off := 56) (tgt := 78) X.1.1 X.1.2.1 dX6_cell_22 (by decide) (by decide) (by decide) (by decide) ?_
        refine lv_aload_n X.1.1 X.1.2.1 dX6_cell_78 rfl (lv_at hl 0 rfl) ?_
        refine sx_get X hP in_X6_cell_X2 h11___2___c (by omega) rfl 2 (by decide) lk_X6_cell_fieldLink_RX6_183_RaceWatch_Kept_reader_I rfl dX6_cell_79 ?_
        rw [hQ]
        exact sx_iret X rfl hs rfl hP dX6_cell_82 (⟨rfl, by unfold cellF; rw [cif_f (fun q => q ⟨c, hc, rfl⟩), cif_f (fun q => q ⟨2, by decide, rfl⟩), nI_clamp (n := 2) (by decide), nI_clamp (n := c) (by omega)]; rfl⟩)
      · refine lv_tableIn (off := 61) (tgt := 83) X.1.1 X.1.2.1 dX6_cell_22 (by decide) (by decide) (by decide) (by decide) ?_
        refine lv_aload_n X.1.1 X.1.2.1 dX6_cell_83 rfl (lv_at hl 0 rfl) ?_
        refine sx_get X hP in_X6_cell_X2 h11___2___c (by omega) rfl 3 (by decide) lk_X6_cell_fieldLink_RX6_186_RaceWatch_Kept_readNumber_I rfl dX6_cell_84 ?_
        rw [hQ]
        exact sx_iret X rfl hs rfl hP dX6_cell_87 (⟨rfl, by unfold cellF; rw [cif_f (fun q => q ⟨c, hc, rfl⟩), cif_f (fun q => q ⟨3, by decide, rfl⟩), nI_clamp (n := 3) (by decide), nI_clamp (n := c) (by omega)]; rfl⟩)
      · refine lv_tableIn (off := 66) (tgt := 88) X.1.1 X.1.2.1 dX6_cell_22 (by decide) (by decide) (by decide) (by decide) ?_
        refine lv_aload_n X.1.1 X.1.2.1 dX6_cell_88 rfl (lv_at hl 0 rfl) ?_
        refine sx_get X hP in_X6_cell_X2 h11___2___c (by omega) rfl 4 (by decide) lk_X6_cell_fieldLink_RX6_189_RaceWatch_Kept_isShared_Z rfl dX6_cell_89 ?_
        refine lv_if_eq X.1.1 X.1.2.1 (tgt := 99) dX6_cell_92 (by decide) (fun c92 => ?_) (fun c92 => ?_)
        · refine lv_iconst (v := nI 0) X.1.1 X.1.2.1 dX6_cell_99 (by decide) ?_
          rw [hQ]
          exact sx_iret X rfl hs rfl hP dX6_cell_100 (⟨rfl, by unfold cellF; rw [cif_f (fun q => q ⟨c, hc, rfl⟩), cif_f (fun q => q ⟨4, by decide, rfl⟩), nI_clamp (n := 4) (by decide), nI_clamp (n := c) (by omega)]; exact (c92 : w (47 + 12 * c) = 0).trans nI_0.symm⟩)
        · refine lv_iconst (v := nI 1) X.1.1 X.1.2.1 dX6_cell_95 (by decide) ?_
          refine lv_goto (tgt := 100) X.1.1 X.1.2.1 dX6_cell_96 (by decide) ?_
          rw [hQ]
          exact sx_iret X rfl hs rfl hP dX6_cell_100 (⟨rfl, by unfold cellF; rw [cif_f (fun q => q ⟨c, hc, rfl⟩), cif_f (fun q => q ⟨4, by decide, rfl⟩), nI_clamp (n := 4) (by decide), nI_clamp (n := c) (by omega)]; exact ((hwf.2.2.2.1 c hc).2.2.elim (fun q => absurd (q.trans nI_0) c92) (fun q => q.1))⟩)
      · refine lv_tableIn (off := 79) (tgt := 101) X.1.1 X.1.2.1 dX6_cell_22 (by decide) (by decide) (by decide) (by decide) ?_
        refine lv_aload_n X.1.1 X.1.2.1 dX6_cell_101 rfl (lv_at hl 0 rfl) ?_
        refine sx_get X hP in_X6_cell_X2 h11___2___c (by omega) rfl 6 (by decide) lk_X6_cell_fieldLink_RX6_193_RaceWatch_Kept_promotions_I rfl dX6_cell_102 ?_
        rw [hQ]
        exact sx_iret X rfl hs rfl hP dX6_cell_105 (⟨rfl, by unfold cellF; rw [cif_f (fun q => q ⟨c, hc, rfl⟩), cif_f (fun q => q ⟨5, by decide, rfl⟩), nI_clamp (n := 5) (by decide), nI_clamp (n := c) (by omega)]; rfl⟩)
      · refine lv_tableIn (off := 84) (tgt := 106) X.1.1 X.1.2.1 dX6_cell_22 (by decide) (by decide) (by decide) (by decide) ?_
        refine lv_aload_n X.1.1 X.1.2.1 dX6_cell_106 rfl (lv_at hl 0 rfl) ?_
        refine sx_get X hP in_X6_cell_X2 h11___2___c (by omega) rfl 7 (by decide) lk_X6_cell_fieldLink_RX6_196_RaceWatch_Kept_firstEvent_I rfl dX6_cell_107 ?_
        rw [hQ]
        exact sx_iret X rfl hs rfl hP dX6_cell_110 (⟨rfl, by unfold cellF; rw [cif_f (fun q => q ⟨c, hc, rfl⟩), cif_f (fun q => q ⟨6, by decide, rfl⟩), nI_clamp (n := 6) (by decide), nI_clamp (n := c) (by omega)]; rfl⟩)
      · refine lv_tableIn (off := 89) (tgt := 111) X.1.1 X.1.2.1 dX6_cell_22 (by decide) (by decide) (by decide) (by decide) ?_
        refine lv_aload_n X.1.1 X.1.2.1 dX6_cell_111 rfl (lv_at hl 0 rfl) ?_
        refine sx_get X hP in_X6_cell_X2 h11___2___c (by omega) rfl 8 (by decide) lk_X6_cell_fieldLink_RX6_199_RaceWatch_Kept_firstKind_I rfl dX6_cell_112 ?_
        rw [hQ]
        exact sx_iret X rfl hs rfl hP dX6_cell_115 (⟨rfl, by unfold cellF; rw [cif_f (fun q => q ⟨c, hc, rfl⟩), cif_f (fun q => q ⟨7, by decide, rfl⟩), nI_clamp (n := 7) (by decide), nI_clamp (n := c) (by omega)]; rfl⟩)
    · refine lv_tableOut (tgt := 116) X.1.1 X.1.2.1 dX6_cell_22 (by have := sx_outk (k := 8) (by decide) ho; omega) (by decide) ?_
      refine lv_ldc (v := -1000000002) X.1.1 X.1.2.1 X.1.2.2.2.1 (X.1.2.2.2.2 _ lk_X6_cell_constant_RX6_44_1000000002) dX6_cell_116 ?_
      rw [hQ]
      exact sx_iret X rfl hs rfl hP dX6_cell_118 (⟨rfl, by unfold cellF; rw [cif_f (fun q => q ⟨c, hc, rfl⟩), cif_t ho]⟩)
  · refine sx_if_ne X (by decide) (tgt := 11) dX6_cell_5 (by decide) (fun h => absurd h (by decide)) (fun _ => ?_)
    refine lv_ldc (v := -1000000001) X.1.1 X.1.2.1 X.1.2.2.2.1 (X.1.2.2.2.2 _ lk_X6_cell_constant_RX6_67_1000000001) dX6_cell_8 ?_
    rw [hQ]
    exact sx_iret X rfl hs rfl hP dX6_cell_10 (⟨rfl, by unfold cellF; rw [cif_t b2]⟩)
theorem ys_X6_eventOf : yX6_eventOf.cls ≠ "java/lang/invoke/MethodHandle" ∧ yX6_eventOf.cls ≠ "java/lang/invoke/VarHandle" ∧ (parseMethodDescriptor yX6_eventOf.desc).map (fun d => d.parameters.length) = some 2 := by decide +kernel
theorem yv_X6_eventOf : yX6_eventOf.cls = RX6 ∧ yX6_eventOf.cls ≠ "java/lang/invoke/MethodHandle" ∧ yX6_eventOf.cls ≠ "java/lang/invoke/VarHandle" ∧ (parseMethodDescriptor yX6_eventOf.desc).map (fun d => d.parameters.length) = some 2 := ⟨rfl, ys_X6_eventOf⟩
theorem in_X6_eventOf_X6 : ∀ w ∈ wsX60, w ∈ wsX6_eventOf := fun _ h => List.mem_cons_of_mem _ (List.mem_append_left _ (List.mem_append_left _ (List.mem_append_left _ (List.mem_append_right _ (h)))))
theorem lk_X6_eventOf_fieldLink_RX6_10_RaceWatch_world_LRaceWatch_World : (.fieldLink RX6 10 "RaceWatch" "world" "LRaceWatch$World;" : Cond) ∈ wsX6_eventOf := List.mem_cons_of_mem _ (List.mem_append_left _ (List.mem_append_left _ (List.mem_append_left _ (List.mem_append_left _ (List.mem_of_getElem? (i := 0) rfl)))))
theorem in_X6_eventOf_X5 : ∀ w ∈ wsX50, w ∈ wsX6_eventOf := fun _ h => List.mem_cons_of_mem _ (List.mem_append_left _ (List.mem_append_left _ (List.mem_append_right _ (h))))
theorem lk_X6_eventOf_fieldLink_RX6_31_RaceWatch_World_log_LRaceWatch_Log : (.fieldLink RX6 31 "RaceWatch$World" "log" "LRaceWatch$Log;" : Cond) ∈ wsX6_eventOf := List.mem_cons_of_mem _ (List.mem_append_left _ (List.mem_append_left _ (List.mem_append_left _ (List.mem_append_left _ (List.mem_of_getElem? (i := 1) rfl)))))
theorem in_X6_eventOf_X3 : ∀ w ∈ wsX30, w ∈ wsX6_eventOf := fun _ h => List.mem_cons_of_mem _ (List.mem_append_left _ (List.mem_append_right _ (h)))
theorem lk_X6_eventOf_fieldLink_RX6_35_RaceWatch_Log_count_I : (.fieldLink RX6 35 "RaceWatch$Log" "count" "I" : Cond) ∈ wsX6_eventOf := List.mem_cons_of_mem _ (List.mem_append_left _ (List.mem_append_left _ (List.mem_append_left _ (List.mem_append_left _ (List.mem_of_getElem? (i := 2) rfl)))))
theorem lk_X6_eventOf_fieldLink_RX6_136_RaceWatch_Log_threads_I : (.fieldLink RX6 136 "RaceWatch$Log" "threads" "[I" : Cond) ∈ wsX6_eventOf := List.mem_cons_of_mem _ (List.mem_append_left _ (List.mem_append_left _ (List.mem_append_left _ (List.mem_append_left _ (List.mem_of_getElem? (i := 4) rfl)))))
theorem lk_X6_eventOf_fieldLink_RX6_140_RaceWatch_Log_sorts_I : (.fieldLink RX6 140 "RaceWatch$Log" "sorts" "[I" : Cond) ∈ wsX6_eventOf := List.mem_cons_of_mem _ (List.mem_append_left _ (List.mem_append_left _ (List.mem_append_left _ (List.mem_append_left _ (List.mem_of_getElem? (i := 5) rfl)))))
theorem lk_X6_eventOf_fieldLink_RX6_143_RaceWatch_Log_withs_I : (.fieldLink RX6 143 "RaceWatch$Log" "withs" "[I" : Cond) ∈ wsX6_eventOf := List.mem_cons_of_mem _ (List.mem_append_left _ (List.mem_append_left _ (List.mem_append_left _ (List.mem_append_left _ (List.mem_of_getElem? (i := 6) rfl)))))
theorem lk_X6_eventOf_fieldLink_RX6_146_RaceWatch_Log_clocks_LRaceWatch_Clocks : (.fieldLink RX6 146 "RaceWatch$Log" "clocks" "LRaceWatch$Clocks;" : Cond) ∈ wsX6_eventOf := List.mem_cons_of_mem _ (List.mem_append_left _ (List.mem_append_left _ (List.mem_append_left _ (List.mem_append_left _ (List.mem_of_getElem? (i := 7) rfl)))))
theorem lk_X6_eventOf_fieldLink_RX6_149_RaceWatch_Log_locks_I : (.fieldLink RX6 149 "RaceWatch$Log" "locks" "[I" : Cond) ∈ wsX6_eventOf := List.mem_cons_of_mem _ (List.mem_append_left _ (List.mem_append_left _ (List.mem_append_left _ (List.mem_append_left _ (List.mem_of_getElem? (i := 8) rfl)))))
theorem lk_X6_eventOf_constant_RX6_44_1000000002 : (.constant RX6 44 (-1000000002) : Cond) ∈ wsX6_eventOf := List.mem_cons_of_mem _ (List.mem_append_left _ (List.mem_append_left _ (List.mem_append_left _ (List.mem_append_left _ (List.mem_of_getElem? (i := 9) rfl)))))
theorem lk_X6_eventOf_constant_RX6_67_1000000001 : (.constant RX6 67 (-1000000001) : Cond) ∈ wsX6_eventOf := List.mem_cons_of_mem _ (List.mem_append_left _ (List.mem_append_left _ (List.mem_append_left _ (List.mem_append_left _ (List.mem_of_getElem? (i := 3) rfl)))))
abbrev rmX6_eventOf : Room := { frames := 1, cells := 0, slots := 0, locals := 22 }
set_option maxHeartbeats 800000 in
set_option maxRecDepth 100000 in
theorem mX6_eventOf {G : sx_G} (l : Launch) {F : Nat → va_E} {w : Nat → Int32} {M : Nat} {x o : Int32}  (hW : WV G F w M 1) (hwf : WFw w M) (h0 : F (0) = ob 6 ([rf G 1, rf G 28, rf G 83, rf G 84])) : sx_I G l yX6_eventOf wsX6_eventOf rmX6_eventOf [rf G 0, .int (x), .int (o)] (97) F (97) (fun r F1 => F = F1 ∧ evOfF w M x o = r) := by
  refine sx_enter (cc := cX6_eventOf) (maxL := 4) (ret := some .int) (own := RX6) (nm := "eventOf") (by decide) rfl rfl rfl (Nat.le_of_ble_eq_true rfl) ?_
  intro pp ee ss mm args below meth kc ls Q hQ X hs hP hl
  have hl : lv_has ls 4 [(0, rf G 0), (1, .int (x)), (2, .int (o))] := hl
  obtain ⟨st, ho, ct, cl, cs, kr, r4, r6, r8, h1, h2, h3, h4, h5, h6, h7, h8, h9, h10, hkr, hRV, hKV, hLg, hRw⟩ := hW
  obtain ⟨th, so, wi, lo, lc, rb, rc, rr, h19, h20, h21, h22, h23, h24, h25, h26, h27, hLV, hRB, hRC⟩ := hLg
  have h1 : F 1 = ob 5 ([rf G 2, rf G 3, rf G 4, rf G 6, rf G 8, rf G 10, rf G 19]) := h1
  have h2 : F 2 = rI G (4) (st) := h2
  have h3 : F 3 = rI G (3) (ho) := h3
  have h4 : F 4 = ob 1 ([r4, rf G 5]) := h4
  have h5 : F 5 = rI G (16) (ct) := h5
  have h6 : F 6 = ob 1 ([r6, rf G 7]) := h6
  have h7 : F 7 = rI G (12) (cl) := h7
  have h8 : F 8 = ob 1 ([r8, rf G 9]) := h8
  have h9 : F 9 = rI G (8) (cs) := h9
  have h10 : F 10 = rK G (4) (kr) := h10
  have h19 : F 19 = ob 3 ([.int (nI (M)), rf G 20, rf G 21, rf G 22, rf G 23, rf G 24, rf G 26, rf G 27]) := h19
  have h20 : F 20 = rI G (160) (th) := h20
  have h21 : F 21 = rI G (160) (so) := h21
  have h22 : F 22 = rI G (160) (wi) := h22
  have h23 : F 23 = rI G (160) (lo) := h23
  have h24 : F 24 = ob 1 ([rr, rf G 25]) := h24
  have h25 : F 25 = rI G (640) (lc) := h25
  have h26 : F 26 = rI G (160) (rb) := h26
  have h27 : F 27 = rI G (12) (rc) := h27
  have hkr : ∀ j, j < 4 → kr j = some (sx_b G + (11 + 2 * j)) := hkr
  have hM := hwf.2.1
  have hok := hwf.2.2.1
  refine lv_aload_n X.1.1 X.1.2.1 dX6_eventOf_0 rfl (lv_at hl 0 rfl) ?_
  refine sx_get X hP in_X6_eventOf_X6 h0 (by decide) rfl 0 (by decide) lk_X6_eventOf_fieldLink_RX6_10_RaceWatch_world_LRaceWatch_World rfl dX6_eventOf_1 ?_
  refine sx_get X hP in_X6_eventOf_X5 h1 (by decide) rfl 6 (by decide) lk_X6_eventOf_fieldLink_RX6_31_RaceWatch_World_log_LRaceWatch_Log rfl dX6_eventOf_4 ?_
  refine lv_astore_n (lv' := [(3, rf G 19), (0, rf G 0), (1, .int (x)), (2, .int (o))]) X.1.1 X.1.2.1 dX6_eventOf_7 rfl hl (by decide) rfl (fun ls hl => ?_)
  refine lv_iload_n X.1.1 X.1.2.1 dX6_eventOf_8 rfl (lv_at hl 2 rfl) ?_
  refine lv_aload_n X.1.1 X.1.2.1 dX6_eventOf_9 rfl (lv_at hl 0 rfl) ?_
  refine sx_get X hP in_X6_eventOf_X3 h19 (by decide) rfl 0 (by decide) lk_X6_eventOf_fieldLink_RX6_35_RaceWatch_Log_count_I rfl dX6_eventOf_10 ?_
  refine sx_csI (As := [.int (x), .int (nI (M))]) (rest := []) X (mX6_isIn l (x := (x)) (k := M) (by omega)) gX6_eventOf_X6_isIn rfl ys_X6_isIn ⟨Nat.le_of_ble_eq_true rfl, Nat.le_of_ble_eq_true rfl⟩ hl.1 rfl (Nat.le_of_ble_eq_true rfl) dX6_eventOf_13 ⟨Nat.le_of_ble_eq_true rfl, Nat.le_of_ble_eq_true rfl⟩ hs rfl hP (fun r1 F1 H1 l1 hp hP => ?_)
  obtain ⟨rfl, ⟨b2, rfl⟩ | ⟨b2, rfl⟩⟩ := hp
  · obtain ⟨e, he, rfl⟩ := b2
    refine sx_if_ne X (by decide) (tgt := 22) dX6_eventOf_16 (by decide) (fun _ => ?_) (fun h => absurd h (by decide))
    refine lv_iload_n X.1.1 X.1.2.1 dX6_eventOf_22 rfl (lv_at hl 3 rfl) ?_
    by_cases ho : inR o 8
    · obtain ⟨jo, hjo, rfl⟩ := ho
      rcases (show jo = 0 ∨ jo = 1 ∨ jo = 2 ∨ jo = 3 ∨ jo = 4 ∨ jo = 5 ∨ jo = 6 ∨ jo = 7 by omega) with rfl | rfl | rfl | rfl | rfl | rfl | rfl | rfl
      · refine lv_tableIn (off := 45) (tgt := 68) X.1.1 X.1.2.1 dX6_eventOf_23 (by decide) (by decide) (by decide) (by decide) ?_
        refine lv_aload_n X.1.1 X.1.2.1 dX6_eventOf_68 rfl (lv_at hl 0 rfl) ?_
        refine sx_get X hP in_X6_eventOf_X3 h19 (by decide) rfl 1 (by decide) lk_X6_eventOf_fieldLink_RX6_136_RaceWatch_Log_threads_I rfl dX6_eventOf_69 ?_
        refine lv_iload_n X.1.1 X.1.2.1 dX6_eventOf_72 rfl (lv_at hl 2 rfl) ?_
        refine sx_ald X hP h20 (by decide) (e) (by omega) (by decide) dX6_eventOf_73 ?_
        rw [hQ]
        exact sx_iret X rfl hs rfl hP dX6_eventOf_74 (⟨rfl, by unfold evOfF; rw [cif_f (fun q => q ⟨e, he, rfl⟩), cif_f (fun q => q ⟨0, by decide, rfl⟩), nI_clamp (n := 0) (by decide), nI_clamp (n := e) (by omega)]; exact (congrArg w (by omega)).trans ((hLV e he).1).symm⟩)
      · refine lv_tableIn (off := 52) (tgt := 75) X.1.1 X.1.2.1 dX6_eventOf_23 (by decide) (by decide) (by decide) (by decide) ?_
        refine lv_aload_n X.1.1 X.1.2.1 dX6_eventOf_75 rfl (lv_at hl 0 rfl) ?_
        refine sx_get X hP in_X6_eventOf_X3 h19 (by decide) rfl 2 (by decide) lk_X6_eventOf_fieldLink_RX6_140_RaceWatch_Log_sorts_I rfl dX6_eventOf_76 ?_
        refine lv_iload_n X.1.1 X.1.2.1 dX6_eventOf_79 rfl (lv_at hl 2 rfl) ?_
        refine sx_ald X hP h21 (by decide) (e) (by omega) (by decide) dX6_eventOf_80 ?_
        rw [hQ]
        exact sx_iret X rfl hs rfl hP dX6_eventOf_81 (⟨rfl, by unfold evOfF; rw [cif_f (fun q => q ⟨e, he, rfl⟩), cif_f (fun q => q ⟨1, by decide, rfl⟩), nI_clamp (n := 1) (by decide), nI_clamp (n := e) (by omega)]; exact (congrArg w (by omega)).trans ((hLV e he).2.1).symm⟩)
      · refine lv_tableIn (off := 59) (tgt := 82) X.1.1 X.1.2.1 dX6_eventOf_23 (by decide) (by decide) (by decide) (by decide) ?_
        refine lv_aload_n X.1.1 X.1.2.1 dX6_eventOf_82 rfl (lv_at hl 0 rfl) ?_
        refine sx_get X hP in_X6_eventOf_X3 h19 (by decide) rfl 3 (by decide) lk_X6_eventOf_fieldLink_RX6_143_RaceWatch_Log_withs_I rfl dX6_eventOf_83 ?_
        refine lv_iload_n X.1.1 X.1.2.1 dX6_eventOf_86 rfl (lv_at hl 2 rfl) ?_
        refine sx_ald X hP h22 (by decide) (e) (by omega) (by decide) dX6_eventOf_87 ?_
        rw [hQ]
        exact sx_iret X rfl hs rfl hP dX6_eventOf_88 (⟨rfl, by unfold evOfF; rw [cif_f (fun q => q ⟨e, he, rfl⟩), cif_f (fun q => q ⟨2, by decide, rfl⟩), nI_clamp (n := 2) (by decide), nI_clamp (n := e) (by omega)]; exact (congrArg w (by omega)).trans ((hLV e he).2.2.1).symm⟩)
      · refine lv_tableIn (off := 66) (tgt := 89) X.1.1 X.1.2.1 dX6_eventOf_23 (by decide) (by decide) (by decide) (by decide) ?_
        refine lv_aload_n X.1.1 X.1.2.1 dX6_eventOf_89 rfl (lv_at hl 0 rfl) ?_
        refine sx_get X hP in_X6_eventOf_X3 h19 (by decide) rfl 5 (by decide) lk_X6_eventOf_fieldLink_RX6_146_RaceWatch_Log_clocks_LRaceWatch_Clocks rfl dX6_eventOf_90 ?_
        refine lv_iload_n X.1.1 X.1.2.1 dX6_eventOf_93 rfl (lv_at hl 2 rfl) ?_
        refine lv_iload_n X.1.1 X.1.2.1 dX6_eventOf_94 rfl (lv_at hl 3 rfl) ?_
        refine lv_iconst (v := nI 3) X.1.1 X.1.2.1 dX6_eventOf_95 (by decide) ?_
        refine sx_subN X (0) (by decide) rfl dX6_eventOf_96 ?_
        refine sx_cvI (As := [.int (nI (e)), .int (nI 0)]) (rest := []) X (mX1_number l (ci := 24) (cj := 25) (L := 640) (row := e) (t := 0) (by decide) (by decide) (by decide) (by decide) (by omega) h24 h25) gX6_eventOf_X1_number rfl yv_X1_number ⟨Nat.le_of_ble_eq_true rfl, Nat.le_of_ble_eq_true rfl⟩ h24 (by decide) rfl rfl hl.1 rfl (Nat.le_of_ble_eq_true rfl) dX6_eventOf_97 ⟨Nat.le_of_ble_eq_true rfl, Nat.le_of_ble_eq_true rfl⟩ hs rfl hP (fun r3 F3 H3 l3 hp hP => ?_)
        obtain ⟨rfl, rfl⟩ := hp
        rw [show lc (4 * e + 0) = lc (4 * e) from congrArg _ (by omega)]
        rw [hQ]
        exact sx_iret X rfl hs rfl hP dX6_eventOf_100 (⟨rfl, by unfold evOfF; rw [cif_f (fun q => q ⟨e, he, rfl⟩), cif_f (fun q => q ⟨3, by decide, rfl⟩), nI_clamp (n := 3) (by decide), nI_clamp (n := e) (by omega)]; exact (congrArg w (by omega)).trans (((congrArg lc (by omega)).trans ((hLV e he).2.2.2.2 0 (by decide)))).symm⟩)
      · refine lv_tableIn (off := 66) (tgt := 89) X.1.1 X.1.2.1 dX6_eventOf_23 (by decide) (by decide) (by decide) (by decide) ?_
        refine lv_aload_n X.1.1 X.1.2.1 dX6_eventOf_89 rfl (lv_at hl 0 rfl) ?_
        refine sx_get X hP in_X6_eventOf_X3 h19 (by decide) rfl 5 (by decide) lk_X6_eventOf_fieldLink_RX6_146_RaceWatch_Log_clocks_LRaceWatch_Clocks rfl dX6_eventOf_90 ?_
        refine lv_iload_n X.1.1 X.1.2.1 dX6_eventOf_93 rfl (lv_at hl 2 rfl) ?_
        refine lv_iload_n X.1.1 X.1.2.1 dX6_eventOf_94 rfl (lv_at hl 3 rfl) ?_
        refine lv_iconst (v := nI 3) X.1.1 X.1.2.1 dX6_eventOf_95 (by decide) ?_
        refine sx_subN X (1) (by decide) rfl dX6_eventOf_96 ?_
        refine sx_cvI (As := [.int (nI (e)), .int (nI 1)]) (rest := []) X (mX1_number l (ci := 24) (cj := 25) (L := 640) (row := e) (t := 1) (by decide) (by decide) (by decide) (by decide) (by omega) h24 h25) gX6_eventOf_X1_number rfl yv_X1_number ⟨Nat.le_of_ble_eq_true rfl, Nat.le_of_ble_eq_true rfl⟩ h24 (by decide) rfl rfl hl.1 rfl (Nat.le_of_ble_eq_true rfl) dX6_eventOf_97 ⟨Nat.le_of_ble_eq_true rfl, Nat.le_of_ble_eq_true rfl⟩ hs rfl hP (fun r4 F4 H4 l4 hp hP => ?_)
        obtain ⟨rfl, rfl⟩ := hp
        rw [show lc (4 * e + 1) = lc (1 + 4 * e) from congrArg _ (by omega)]
        rw [hQ]
        exact sx_iret X rfl hs rfl hP dX6_eventOf_100 (⟨rfl, by unfold evOfF; rw [cif_f (fun q => q ⟨e, he, rfl⟩), cif_f (fun q => q ⟨4, by decide, rfl⟩), nI_clamp (n := 4) (by decide), nI_clamp (n := e) (by omega)]; exact (congrArg w (by omega)).trans (((congrArg lc (by omega)).trans ((hLV e he).2.2.2.2 1 (by decide)))).symm⟩)
      · refine lv_tableIn (off := 66) (tgt := 89) X.1.1 X.1.2.1 dX6_eventOf_23 (by decide) (by decide) (by decide) (by decide) ?_
        refine lv_aload_n X.1.1 X.1.2.1 dX6_eventOf_89 rfl (lv_at hl 0 rfl) ?_
        refine sx_get X hP in_X6_eventOf_X3 h19 (by decide) rfl 5 (by decide) lk_X6_eventOf_fieldLink_RX6_146_RaceWatch_Log_clocks_LRaceWatch_Clocks rfl dX6_eventOf_90 ?_
        refine lv_iload_n X.1.1 X.1.2.1 dX6_eventOf_93 rfl (lv_at hl 2 rfl) ?_
        refine lv_iload_n X.1.1 X.1.2.1 dX6_eventOf_94 rfl (lv_at hl 3 rfl) ?_
        refine lv_iconst (v := nI 3) X.1.1 X.1.2.1 dX6_eventOf_95 (by decide) ?_
        refine sx_subN X (2) (by decide) rfl dX6_eventOf_96 ?_
        refine sx_cvI (As := [.int (nI (e)), .int (nI 2)]) (rest := []) X (mX1_number l (ci := 24) (cj := 25) (L := 640) (row := e) (t := 2) (by decide) (by decide) (by decide) (by decide) (by omega) h24 h25) gX6_eventOf_X1_number rfl yv_X1_number ⟨Nat.le_of_ble_eq_true rfl, Nat.le_of_ble_eq_true rfl⟩ h24 (by decide) rfl rfl hl.1 rfl (Nat.le_of_ble_eq_true rfl) dX6_eventOf_97 ⟨Nat.le_of_ble_eq_true rfl, Nat.le_of_ble_eq_true rfl⟩ hs rfl hP (fun r5 F5 H5 l5 hp hP => ?_)
        obtain ⟨rfl, rfl⟩ := hp
        rw [show lc (4 * e + 2) = lc (2 + 4 * e) from congrArg _ (by omega)]
        rw [hQ]
        exact sx_iret X rfl hs rfl hP dX6_eventOf_100 (⟨rfl, by unfold evOfF; rw [cif_f (fun q => q ⟨e, he, rfl⟩), cif_f (fun q => q ⟨5, by decide, rfl⟩), nI_clamp (n := 5) (by decide), nI_clamp (n := e) (by omega)]; exact (congrArg w (by omega)).trans (((congrArg lc (by omega)).trans ((hLV e he).2.2.2.2 2 (by decide)))).symm⟩)
      · refine lv_tableIn (off := 66) (tgt := 89) X.1.1 X.1.2.1 dX6_eventOf_23 (by decide) (by decide) (by decide) (by decide) ?_
        refine lv_aload_n X.1.1 X.1.2.1 dX6_eventOf_89 rfl (lv_at hl 0 rfl) ?_
        refine sx_get X hP in_X6_eventOf_X3 h19 (by decide) rfl 5 (by decide) lk_X6_eventOf_fieldLink_RX6_146_RaceWatch_Log_clocks_LRaceWatch_Clocks rfl dX6_eventOf_90 ?_
        refine lv_iload_n X.1.1 X.1.2.1 dX6_eventOf_93 rfl (lv_at hl 2 rfl) ?_
        refine lv_iload_n X.1.1 X.1.2.1 dX6_eventOf_94 rfl (lv_at hl 3 rfl) ?_
        refine lv_iconst (v := nI 3) X.1.1 X.1.2.1 dX6_eventOf_95 (by decide) ?_
        refine sx_subN X (3) (by decide) rfl dX6_eventOf_96 ?_
        refine sx_cvI (As := [.int (nI (e)), .int (nI 3)]) (rest := []) X (mX1_number l (ci := 24) (cj := 25) (L := 640) (row := e) (t := 3) (by decide) (by decide) (by decide) (by decide) (by omega) h24 h25) gX6_eventOf_X1_number rfl yv_X1_number ⟨Nat.le_of_ble_eq_true rfl, Nat.le_of_ble_eq_true rfl⟩ h24 (by decide) rfl rfl hl.1 rfl (Nat.le_of_ble_eq_true rfl) dX6_eventOf_97 ⟨Nat.le_of_ble_eq_true rfl, Nat.le_of_ble_eq_true rfl⟩ hs rfl hP (fun r6 F6 H6 l6 hp hP => ?_)
        obtain ⟨rfl, rfl⟩ := hp
        rw [show lc (4 * e + 3) = lc (3 + 4 * e) from congrArg _ (by omega)]
        rw [hQ]
        exact sx_iret X rfl hs rfl hP dX6_eventOf_100 (⟨rfl, by unfold evOfF; rw [cif_f (fun q => q ⟨e, he, rfl⟩), cif_f (fun q => q ⟨6, by decide, rfl⟩), nI_clamp (n := 6) (by decide), nI_clamp (n := e) (by omega)]; exact (congrArg w (by omega)).trans (((congrArg lc (by omega)).trans ((hLV e he).2.2.2.2 3 (by decide)))).symm⟩)
      · refine lv_tableIn (off := 78) (tgt := 101) X.1.1 X.1.2.1 dX6_eventOf_23 (by decide) (by decide) (by decide) (by decide) ?_
        refine lv_aload_n X.1.1 X.1.2.1 dX6_eventOf_101 rfl (lv_at hl 0 rfl) ?_
        refine sx_get X hP in_X6_eventOf_X3 h19 (by decide) rfl 4 (by decide) lk_X6_eventOf_fieldLink_RX6_149_RaceWatch_Log_locks_I rfl dX6_eventOf_102 ?_
        refine lv_iload_n X.1.1 X.1.2.1 dX6_eventOf_105 rfl (lv_at hl 2 rfl) ?_
        refine sx_ald X hP h23 (by decide) (e) (by omega) (by decide) dX6_eventOf_106 ?_
        rw [hQ]
        exact sx_iret X rfl hs rfl hP dX6_eventOf_107 (⟨rfl, by unfold evOfF; rw [cif_f (fun q => q ⟨e, he, rfl⟩), cif_f (fun q => q ⟨7, by decide, rfl⟩), nI_clamp (n := 7) (by decide), nI_clamp (n := e) (by omega)]; exact (congrArg w (by omega)).trans ((hLV e he).2.2.2.1).symm⟩)
    · refine lv_tableOut (tgt := 108) X.1.1 X.1.2.1 dX6_eventOf_23 (by have := sx_outk (k := 8) (by decide) ho; omega) (by decide) ?_
      refine lv_ldc (v := -1000000002) X.1.1 X.1.2.1 X.1.2.2.2.1 (X.1.2.2.2.2 _ lk_X6_eventOf_constant_RX6_44_1000000002) dX6_eventOf_108 ?_
      rw [hQ]
      exact sx_iret X rfl hs rfl hP dX6_eventOf_110 (⟨rfl, by unfold evOfF; rw [cif_f (fun q => q ⟨e, he, rfl⟩), cif_t ho]⟩)
  · refine sx_if_ne X (by decide) (tgt := 22) dX6_eventOf_16 (by decide) (fun h => absurd h (by decide)) (fun _ => ?_)
    refine lv_ldc (v := -1000000001) X.1.1 X.1.2.1 X.1.2.2.2.1 (X.1.2.2.2.2 _ lk_X6_eventOf_constant_RX6_67_1000000001) dX6_eventOf_19 ?_
    rw [hQ]
    exact sx_iret X rfl hs rfl hP dX6_eventOf_21 (⟨rfl, by unfold evOfF; rw [cif_t b2]⟩)
