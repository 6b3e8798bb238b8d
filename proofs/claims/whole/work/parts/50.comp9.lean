theorem ys_X5_begin : yX5_begin.cls ≠ "java/lang/invoke/MethodHandle" ∧ yX5_begin.cls ≠ "java/lang/invoke/VarHandle" ∧ (parseMethodDescriptor yX5_begin.desc).map (fun d => d.parameters.length) = some 0 := by decide +kernel
theorem yv_X5_begin : yX5_begin.cls = RX5 ∧ yX5_begin.cls ≠ "java/lang/invoke/MethodHandle" ∧ yX5_begin.cls ≠ "java/lang/invoke/VarHandle" ∧ (parseMethodDescriptor yX5_begin.desc).map (fun d => d.parameters.length) = some 0 := ⟨rfl, ys_X5_begin⟩
theorem in_X5_begin_X5 : ∀ w ∈ wsX50, w ∈ wsX5_begin := fun _ h => List.mem_cons_of_mem _ (List.mem_append_left _ (List.mem_append_left _ (List.mem_append_left _ (List.mem_append_right _ (h)))))
theorem lk_X5_begin_fieldLink_RX5_9_RaceWatch_World_states_I : (.fieldLink RX5 9 "RaceWatch$World" "states" "[I" : Cond) ∈ wsX5_begin := List.mem_cons_of_mem _ (List.mem_append_left _ (List.mem_append_left _ (List.mem_append_left _ (List.mem_append_left _ (List.mem_append_left _ (List.mem_of_getElem? (i := 0) rfl))))))
theorem lk_X5_begin_fieldLink_RX5_15_RaceWatch_World_holders_I : (.fieldLink RX5 15 "RaceWatch$World" "holders" "[I" : Cond) ∈ wsX5_begin := List.mem_cons_of_mem _ (List.mem_append_left _ (List.mem_append_left _ (List.mem_append_left _ (List.mem_append_left _ (List.mem_append_left _ (List.mem_of_getElem? (i := 1) rfl))))))
theorem lk_X5_begin_fieldLink_RX5_23_RaceWatch_World_ofThreads_LRaceWatch_Clocks : (.fieldLink RX5 23 "RaceWatch$World" "ofThreads" "LRaceWatch$Clocks;" : Cond) ∈ wsX5_begin := List.mem_cons_of_mem _ (List.mem_append_left _ (List.mem_append_left _ (List.mem_append_left _ (List.mem_append_left _ (List.mem_append_left _ (List.mem_of_getElem? (i := 2) rfl))))))
theorem lk_X5_begin_fieldLink_RX5_27_RaceWatch_World_ofLocks_LRaceWatch_Clocks : (.fieldLink RX5 27 "RaceWatch$World" "ofLocks" "LRaceWatch$Clocks;" : Cond) ∈ wsX5_begin := List.mem_cons_of_mem _ (List.mem_append_left _ (List.mem_append_left _ (List.mem_append_left _ (List.mem_append_left _ (List.mem_append_left _ (List.mem_of_getElem? (i := 3) rfl))))))
theorem lk_X5_begin_fieldLink_RX5_30_RaceWatch_World_ofSeenCells_LRaceWatch_Clocks : (.fieldLink RX5 30 "RaceWatch$World" "ofSeenCells" "LRaceWatch$Clocks;" : Cond) ∈ wsX5_begin := List.mem_cons_of_mem _ (List.mem_append_left _ (List.mem_append_left _ (List.mem_append_left _ (List.mem_append_left _ (List.mem_append_left _ (List.mem_of_getElem? (i := 4) rfl))))))
theorem lk_X5_begin_fieldLink_RX5_36_RaceWatch_World_cells_LRaceWatch_Kept : (.fieldLink RX5 36 "RaceWatch$World" "cells" "[LRaceWatch$Kept;" : Cond) ∈ wsX5_begin := List.mem_cons_of_mem _ (List.mem_append_left _ (List.mem_append_left _ (List.mem_append_left _ (List.mem_append_left _ (List.mem_append_left _ (List.mem_of_getElem? (i := 5) rfl))))))
theorem lk_X5_begin_fieldLink_RX5_43_RaceWatch_World_log_LRaceWatch_Log : (.fieldLink RX5 43 "RaceWatch$World" "log" "LRaceWatch$Log;" : Cond) ∈ wsX5_begin := List.mem_cons_of_mem _ (List.mem_append_left _ (List.mem_append_left _ (List.mem_append_left _ (List.mem_append_left _ (List.mem_append_left _ (List.mem_of_getElem? (i := 6) rfl))))))
abbrev rmX5_begin : Room := { frames := 3, cells := 0, slots := 0, locals := 63 }
set_option maxHeartbeats 800000 in
set_option maxRecDepth 100000 in
theorem mX5_begin {G : sx_G} (l : Launch) {F : Nat → va_E} {n B : Nat} {w : Nat → Int32}  (hB : B + 27 ≤ n) (hS : WS G F B) : sx_V G l yX5_begin wsX5_begin rmX5_begin [rf G (B)] (n) F (n) (fun F1 => WV G F1 (iniF w) 0 B ∧ ∀ j, (j < B ∨ B + 27 ≤ j) → F1 j = F j) := by
  refine sx_enter (cc := cX5_begin) (maxL := 2) (ret := none) (own := RX5) (nm := "begin") (by decide) rfl rfl rfl (Nat.le_of_ble_eq_true rfl) ?_
  intro pp ee ss mm args below meth kc ls Q hQ X hs hP hl
  have hl : lv_has ls 2 [(0, rf G (B))] := hl
  have hO : ∀ j, j < B ∨ B + 27 ≤ j → F j = F j := fun _ _ => rfl
  obtain ⟨st, ho, ct, cl, cs, kr, hB, h1___B, h2___B, h3___B, h4___B, h5___B, h6___B, h7___B, h8___B, h9___B, hkr, hKS, th, so, wi, lo, lc, rb, rc, rr, m, h18___B, h19___B, h20___B, h21___B, h22___B, h23___B, h24___B, h25___B, h26___B⟩ := hS
  obtain ⟨a00, a01, a02, a03, a04, a06, a07, a08, a09, nr0, h10___B, h11___B⟩ := hKS 0 (by decide)
  rw [show 10 + B + 2 * 0 = 10 + B by omega, show 11 + B + 2 * 0 = 11 + B by omega] at h10___B
  rw [show 11 + B + 2 * 0 = 11 + B by omega] at h11___B
  obtain ⟨a10, a11, a12, a13, a14, a16, a17, a18, a19, nr1, h12___B, h13___B⟩ := hKS 1 (by decide)
  rw [show 10 + B + 2 * 1 = 12 + B by omega, show 11 + B + 2 * 1 = 13 + B by omega] at h12___B
  rw [show 11 + B + 2 * 1 = 13 + B by omega] at h13___B
  obtain ⟨a20, a21, a22, a23, a24, a26, a27, a28, a29, nr2, h14___B, h15___B⟩ := hKS 2 (by decide)
  rw [show 10 + B + 2 * 2 = 14 + B by omega, show 11 + B + 2 * 2 = 15 + B by omega] at h14___B
  rw [show 11 + B + 2 * 2 = 15 + B by omega] at h15___B
  obtain ⟨a30, a31, a32, a33, a34, a36, a37, a38, a39, nr3, h16___B, h17___B⟩ := hKS 3 (by decide)
  rw [show 10 + B + 2 * 3 = 16 + B by omega, show 11 + B + 2 * 3 = 17 + B by omega] at h16___B
  rw [show 11 + B + 2 * 3 = 17 + B by omega] at h17___B
  refine lv_aload_n X.1.1 X.1.2.1 dX5_begin_0 rfl (lv_at hl 0 rfl) ?_
  refine sx_get X hP in_X5_begin_X5 hB (by omega) rfl 0 (by decide) lk_X5_begin_fieldLink_RX5_9_RaceWatch_World_states_I rfl dX5_begin_1 ?_
  refine lv_iconst (v := nI 0) X.1.1 X.1.2.1 dX5_begin_4 (by decide) ?_
  refine sx_csV (As := [rf G (1 + B), .int (nI 0)]) (rest := []) X (mJ7_fill_53178 l (cj := 1 + B) (L := 4) (v := (nI (0))) (by omega) (by decide) h1___B) gX5_begin_J7_fill_53178 rfl ys_J7_fill_53178 ⟨Nat.le_of_ble_eq_true rfl, Nat.le_of_ble_eq_true rfl⟩ hl.1 rfl (Nat.le_of_ble_eq_true rfl) dX5_begin_5 ⟨Nat.le_of_ble_eq_true rfl, Nat.le_of_ble_eq_true rfl⟩ hs rfl hP (fun F1 H1 l1 hp hP => ?_)
  obtain ⟨w1, e1, hz1, o1⟩ := hp
  have h1___B : F1 (1 + B) = rI G (4) (w1) := e1
  have hB := (o1 (B) (by omega)).trans hB
  have h2___B := (o1 (2 + B) (by omega)).trans h2___B
  have h3___B := (o1 (3 + B) (by omega)).trans h3___B
  have h4___B := (o1 (4 + B) (by omega)).trans h4___B
  have h5___B := (o1 (5 + B) (by omega)).trans h5___B
  have h6___B := (o1 (6 + B) (by omega)).trans h6___B
  have h7___B := (o1 (7 + B) (by omega)).trans h7___B
  have h8___B := (o1 (8 + B) (by omega)).trans h8___B
  have h9___B := (o1 (9 + B) (by omega)).trans h9___B
  have h18___B := (o1 (18 + B) (by omega)).trans h18___B
  have h19___B := (o1 (19 + B) (by omega)).trans h19___B
  have h20___B := (o1 (20 + B) (by omega)).trans h20___B
  have h21___B := (o1 (21 + B) (by omega)).trans h21___B
  have h22___B := (o1 (22 + B) (by omega)).trans h22___B
  have h23___B := (o1 (23 + B) (by omega)).trans h23___B
  have h24___B := (o1 (24 + B) (by omega)).trans h24___B
  have h25___B := (o1 (25 + B) (by omega)).trans h25___B
  have h26___B := (o1 (26 + B) (by omega)).trans h26___B
  have h10___B := (o1 (10 + B) (by omega)).trans h10___B
  have h11___B := (o1 (11 + B) (by omega)).trans h11___B
  have h12___B := (o1 (12 + B) (by omega)).trans h12___B
  have h13___B := (o1 (13 + B) (by omega)).trans h13___B
  have h14___B := (o1 (14 + B) (by omega)).trans h14___B
  have h15___B := (o1 (15 + B) (by omega)).trans h15___B
  have h16___B := (o1 (16 + B) (by omega)).trans h16___B
  have h17___B := (o1 (17 + B) (by omega)).trans h17___B
  have hO : ∀ j, j < B ∨ B + 27 ≤ j → F1 j = F j := fun j hj => (o1 j (by omega)).trans (hO j hj)
  refine lv_aload_n X.1.1 X.1.2.1 dX5_begin_8 rfl (lv_at hl 0 rfl) ?_
  refine sx_get X hP in_X5_begin_X5 hB (by omega) rfl 0 (by decide) lk_X5_begin_fieldLink_RX5_9_RaceWatch_World_states_I rfl dX5_begin_9 ?_
  refine lv_iconst (v := nI 0) X.1.1 X.1.2.1 dX5_begin_12 (by decide) ?_
  refine lv_iconst (v := nI 1) X.1.1 X.1.2.1 dX5_begin_13 (by decide) ?_
  refine sx_ast X hP h1___B (by omega) (0) (by decide) (by decide) dX5_begin_14 (fun F2 H2 l2 e2 o2 hP => ?_)
  obtain ⟨w2, hw2⟩ : ∃ z, z = upd w1 (0) (nI (1)) := ⟨_, rfl⟩
  rw [← hw2] at e2
  have h1___B : F2 (1 + B) = rI G (4) (w2) := e2
  have hB := (o2 (B) (by omega)).trans hB
  have h2___B := (o2 (2 + B) (by omega)).trans h2___B
  have h3___B := (o2 (3 + B) (by omega)).trans h3___B
  have h4___B := (o2 (4 + B) (by omega)).trans h4___B
  have h5___B := (o2 (5 + B) (by omega)).trans h5___B
  have h6___B := (o2 (6 + B) (by omega)).trans h6___B
  have h7___B := (o2 (7 + B) (by omega)).trans h7___B
  have h8___B := (o2 (8 + B) (by omega)).trans h8___B
  have h9___B := (o2 (9 + B) (by omega)).trans h9___B
  have h18___B := (o2 (18 + B) (by omega)).trans h18___B
  have h19___B := (o2 (19 + B) (by omega)).trans h19___B
  have h20___B := (o2 (20 + B) (by omega)).trans h20___B
  have h21___B := (o2 (21 + B) (by omega)).trans h21___B
  have h22___B := (o2 (22 + B) (by omega)).trans h22___B
  have h23___B := (o2 (23 + B) (by omega)).trans h23___B
  have h24___B := (o2 (24 + B) (by omega)).trans h24___B
  have h25___B := (o2 (25 + B) (by omega)).trans h25___B
  have h26___B := (o2 (26 + B) (by omega)).trans h26___B
  have h10___B := (o2 (10 + B) (by omega)).trans h10___B
  have h11___B := (o2 (11 + B) (by omega)).trans h11___B
  have h12___B := (o2 (12 + B) (by omega)).trans h12___B
  have h13___B := (o2 (13 + B) (by omega)).trans h13___B
  have h14___B := (o2 (14 + B) (by omega)).trans h14___B
  have h15___B := (o2 (15 + B) (by omega)).trans h15___B
  have h16___B := (o2 (16 + B) (by omega)).trans h16___B
  have h17___B := (o2 (17 + B) (by omega)).trans h17___B
  have hO : ∀ j, j < B ∨ B + 27 ≤ j → F2 j = F j := fun j hj => (o2 j (by omega)).trans (hO j hj)
  refine lv_aload_n X.1.1 X.1.2.1 dX5_begin_15 rfl (lv_at hl 0 rfl) ?_
  refine sx_get X hP in_X5_begin_X5 hB (by omega) rfl 1 (by decide) lk_X5_begin_fieldLink_RX5_15_RaceWatch_World_holders_I rfl dX5_begin_16 ?_
  refine lv_iconst (v := (-1)) X.1.1 X.1.2.1 dX5_begin_19 (by decide) ?_
  refine sx_csV (As := [rf G (2 + B), .int (-1)]) (rest := []) X (mJ7_fill_53178 l (cj := 2 + B) (L := 3) (v := (-1)) (by omega) (by decide) h2___B) gX5_begin_J7_fill_53178 rfl ys_J7_fill_53178 ⟨Nat.le_of_ble_eq_true rfl, Nat.le_of_ble_eq_true rfl⟩ hl.1 rfl (Nat.le_of_ble_eq_true rfl) dX5_begin_20 ⟨Nat.le_of_ble_eq_true rfl, Nat.le_of_ble_eq_true rfl⟩ hs rfl hP (fun F3 H3 l3 hp hP => ?_)
  obtain ⟨w3, e3, hz3, o3⟩ := hp
  have h2___B : F3 (2 + B) = rI G (3) (w3) := e3
  have hB := (o3 (B) (by omega)).trans hB
  have h1___B := (o3 (1 + B) (by omega)).trans h1___B
  have h3___B := (o3 (3 + B) (by omega)).trans h3___B
  have h4___B := (o3 (4 + B) (by omega)).trans h4___B
  have h5___B := (o3 (5 + B) (by omega)).trans h5___B
  have h6___B := (o3 (6 + B) (by omega)).trans h6___B
  have h7___B := (o3 (7 + B) (by omega)).trans h7___B
  have h8___B := (o3 (8 + B) (by omega)).trans h8___B
  have h9___B := (o3 (9 + B) (by omega)).trans h9___B
  have h18___B := (o3 (18 + B) (by omega)).trans h18___B
  have h19___B := (o3 (19 + B) (by omega)).trans h19___B
  have h20___B := (o3 (20 + B) (by omega)).trans h20___B
  have h21___B := (o3 (21 + B) (by omega)).trans h21___B
  have h22___B := (o3 (22 + B) (by omega)).trans h22___B
  have h23___B := (o3 (23 + B) (by omega)).trans h23___B
  have h24___B := (o3 (24 + B) (by omega)).trans h24___B
  have h25___B := (o3 (25 + B) (by omega)).trans h25___B
  have h26___B := (o3 (26 + B) (by omega)).trans h26___B
  have h10___B := (o3 (10 + B) (by omega)).trans h10___B
  have h11___B := (o3 (11 + B) (by omega)).trans h11___B
  have h12___B := (o3 (12 + B) (by omega)).trans h12___B
  have h13___B := (o3 (13 + B) (by omega)).trans h13___B
  have h14___B := (o3 (14 + B) (by omega)).trans h14___B
  have h15___B := (o3 (15 + B) (by omega)).trans h15___B
  have h16___B := (o3 (16 + B) (by omega)).trans h16___B
  have h17___B := (o3 (17 + B) (by omega)).trans h17___B
  have hO : ∀ j, j < B ∨ B + 27 ≤ j → F3 j = F j := fun j hj => (o3 j (by omega)).trans (hO j hj)
  refine lv_aload_n X.1.1 X.1.2.1 dX5_begin_23 rfl (lv_at hl 0 rfl) ?_
  refine sx_get X hP in_X5_begin_X5 hB (by omega) rfl 2 (by decide) lk_X5_begin_fieldLink_RX5_23_RaceWatch_World_ofThreads_LRaceWatch_Clocks rfl dX5_begin_24 ?_
  refine sx_cvV (As := []) (rest := []) X (mX1_clear l (ci := 3 + B) (cj := 4 + B) (L := 16) (by omega) (by omega) (by decide) (by omega) h3___B h4___B) gX5_begin_X1_clear rfl yv_X1_clear ⟨Nat.le_of_ble_eq_true rfl, Nat.le_of_ble_eq_true rfl⟩ h3___B (by omega) rfl rfl hl.1 rfl (Nat.le_of_ble_eq_true rfl) dX5_begin_27 ⟨Nat.le_of_ble_eq_true rfl, Nat.le_of_ble_eq_true rfl⟩ hs rfl hP (fun F4 H4 l4 hp hP => ?_)
  obtain ⟨w4, e4, hz4, o4⟩ := hp
  have h4___B : F4 (4 + B) = rI G (16) (w4) := e4
  have hB := (o4 (B) (by omega)).trans hB
  have h1___B := (o4 (1 + B) (by omega)).trans h1___B
  have h2___B := (o4 (2 + B) (by omega)).trans h2___B
  have h3___B := (o4 (3 + B) (by omega)).trans h3___B
  have h5___B := (o4 (5 + B) (by omega)).trans h5___B
  have h6___B := (o4 (6 + B) (by omega)).trans h6___B
  have h7___B := (o4 (7 + B) (by omega)).trans h7___B
  have h8___B := (o4 (8 + B) (by omega)).trans h8___B
  have h9___B := (o4 (9 + B) (by omega)).trans h9___B
  have h18___B := (o4 (18 + B) (by omega)).trans h18___B
  have h19___B := (o4 (19 + B) (by omega)).trans h19___B
  have h20___B := (o4 (20 + B) (by omega)).trans h20___B
  have h21___B := (o4 (21 + B) (by omega)).trans h21___B
  have h22___B := (o4 (22 + B) (by omega)).trans h22___B
  have h23___B := (o4 (23 + B) (by omega)).trans h23___B
  have h24___B := (o4 (24 + B) (by omega)).trans h24___B
  have h25___B := (o4 (25 + B) (by omega)).trans h25___B
  have h26___B := (o4 (26 + B) (by omega)).trans h26___B
  have h10___B := (o4 (10 + B) (by omega)).trans h10___B
  have h11___B := (o4 (11 + B) (by omega)).trans h11___B
  have h12___B := (o4 (12 + B) (by omega)).trans h12___B
  have h13___B := (o4 (13 + B) (by omega)).trans h13___B
  have h14___B := (o4 (14 + B) (by omega)).trans h14___B
  have h15___B := (o4 (15 + B) (by omega)).trans h15___B
  have h16___B := (o4 (16 + B) (by omega)).trans h16___B
  have h17___B := (o4 (17 + B) (by omega)).trans h17___B
  have hO : ∀ j, j < B ∨ B + 27 ≤ j → F4 j = F j := fun j hj => (o4 j (by omega)).trans (hO j hj)
  refine lv_iconst (v := nI 0) X.1.1 X.1.2.1 dX5_begin_30 (by decide) ?_
  refine lv_istore_n (lv' := [(1, .int (nI 0)), (0, rf G (B))]) X.1.1 X.1.2.1 dX5_begin_31 rfl hl (by decide) rfl (fun ls hl => ?_)
  refine lv_iload_n X.1.1 X.1.2.1 dX5_begin_32 rfl (lv_at hl 0 rfl) ?_
  refine lv_iconst (v := nI 4) X.1.1 X.1.2.1 dX5_begin_33 (by decide) ?_
  refine sx_icmp_ge X (by decide) (by decide) (tgt := 53) dX5_begin_34 (by decide) (fun h => absurd h (by decide)) (fun _ => ?_)
  refine lv_aload_n X.1.1 X.1.2.1 dX5_begin_37 rfl (lv_at hl 1 rfl) ?_
  refine sx_get X hP in_X5_begin_X5 hB (by omega) rfl 2 (by decide) lk_X5_begin_fieldLink_RX5_23_RaceWatch_World_ofThreads_LRaceWatch_Clocks rfl dX5_begin_38 ?_
  refine lv_iload_n X.1.1 X.1.2.1 dX5_begin_41 rfl (lv_at hl 0 rfl) ?_
  refine lv_iload_n X.1.1 X.1.2.1 dX5_begin_42 rfl (lv_at hl 0 rfl) ?_
  refine lv_iconst (v := nI 1) X.1.1 X.1.2.1 dX5_begin_43 (by decide) ?_
  refine sx_cvV (As := [.int (nI 0), .int (nI 0), .int (nI 1)]) (rest := []) X (mX1_set l (ci := 3 + B) (cj := 4 + B) (L := 16) (row := 0) (t := 0) (v := (nI (1))) (by omega) (by omega) (by decide) (by omega) (by omega) h3___B h4___B) gX5_begin_X1_set rfl yv_X1_set ⟨Nat.le_of_ble_eq_true rfl, Nat.le_of_ble_eq_true rfl⟩ h3___B (by omega) rfl rfl hl.1 rfl (Nat.le_of_ble_eq_true rfl) dX5_begin_44 ⟨Nat.le_of_ble_eq_true rfl, Nat.le_of_ble_eq_true rfl⟩ hs rfl hP (fun F5 H5 l5 hp hP => ?_)
  obtain ⟨e5, o5⟩ := hp
  rw [show 4 * 0 + 0 = 0 by omega] at e5
  obtain ⟨w5, hw5⟩ : ∃ z, z = upd w4 (0) (nI (1)) := ⟨_, rfl⟩
  rw [← hw5] at e5
  have h4___B : F5 (4 + B) = rI G (16) (w5) := e5
  have hB := (o5 (B) (by omega)).trans hB
  have h1___B := (o5 (1 + B) (by omega)).trans h1___B
  have h2___B := (o5 (2 + B) (by omega)).trans h2___B
  have h3___B := (o5 (3 + B) (by omega)).trans h3___B
  have h5___B := (o5 (5 + B) (by omega)).trans h5___B
  have h6___B := (o5 (6 + B) (by omega)).trans h6___B
  have h7___B := (o5 (7 + B) (by omega)).trans h7___B
  have h8___B := (o5 (8 + B) (by omega)).trans h8___B
  have h9___B := (o5 (9 + B) (by omega)).trans h9___B
  have h18___B := (o5 (18 + B) (by omega)).trans h18___B
  have h19___B := (o5 (19 + B) (by omega)).trans h19___B
  have h20___B := (o5 (20 + B) (by omega)).trans h20___B
  have h21___B := (o5 (21 + B) (by omega)).trans h21___B
  have h22___B := (o5 (22 + B) (by omega)).trans h22___B
  have h23___B := (o5 (23 + B) (by omega)).trans h23___B
  have h24___B := (o5 (24 + B) (by omega)).trans h24___B
  have h25___B := (o5 (25 + B) (by omega)).trans h25___B
  have h26___B := (o5 (26 + B) (by omega)).trans h26___B
  have h10___B := (o5 (10 + B) (by omega)).trans h10___B
  have h11___B := (o5 (11 + B) (by omega)).trans h11___B
  have h12___B := (o5 (12 + B) (by omega)).trans h12___B
  have h13___B := (o5 (13 + B) (by omega)).trans h13___B
  have h14___B := (o5 (14 + B) (by omega)).trans h14___B
  have h15___B := (o5 (15 + B) (by omega)).trans h15___B
  have h16___B := (o5 (16 + B) (by omega)).trans h16___B
  have h17___B := (o5 (17 + B) (by omega)).trans h17___B
  have hO : ∀ j, j < B ∨ B + 27 ≤ j → F5 j = F j := fun j hj => (o5 j (by omega)).trans (hO j hj)
  refine lv_iinc (v := (nI (1))) (lv' := [(1, .int (nI 1)), (0, rf G (B))]) X.1.1 X.1.2.1 dX5_begin_47 hl (k := 0) rfl (by decide) (by decide) rfl (fun ls hl => ?_)
  refine lv_goto (tgt := 32) X.1.1 X.1.2.1 dX5_begin_50 (by decide) ?_
  refine lv_iload_n X.1.1 X.1.2.1 dX5_begin_32 rfl (lv_at hl 0 rfl) ?_
  refine lv_iconst (v := nI 4) X.1.1 X.1.2.1 dX5_begin_33 (by decide) ?_
  refine sx_icmp_ge X (by decide) (by decide) (tgt := 53) dX5_begin_34 (by decide) (fun h => absurd h (by decide)) (fun _ => ?_)
  refine lv_aload_n X.1.1 X.1.2.1 dX5_begin_37 rfl (lv_at hl 1 rfl) ?_
  refine sx_get X hP in_X5_begin_X5 hB (by omega) rfl 2 (by decide) lk_X5_begin_fieldLink_RX5_23_RaceWatch_World_ofThreads_LRaceWatch_Clocks rfl dX5_begin_38 ?_
  refine lv_iload_n X.1.1 X.1.2.1 dX5_begin_41 rfl (lv_at hl 0 rfl) ?_
  refine lv_iload_n X.1.1 X.1.2.1 dX5_begin_42 rfl (lv_at hl 0 rfl) ?_
  refine lv_iconst (v := nI 1) X.1.1 X.1.2.1 dX5_begin_43 (by decide) ?_
  refine sx_cvV (As := [.int (nI 1), .int (nI 1), .int (nI 1)]) (rest := []) X (mX1_set l (ci := 3 + B) (cj := 4 + B) (L := 16) (row := 1) (t := 1) (v := (nI (1))) (by omega) (by omega) (by decide) (by omega) (by omega) h3___B h4___B) gX5_begin_X1_set rfl yv_X1_set ⟨Nat.le_of_ble_eq_true rfl, Nat.le_of_ble_eq_true rfl⟩ h3___B (by omega) rfl rfl hl.1 rfl (Nat.le_of_ble_eq_true rfl) dX5_begin_44 ⟨Nat.le_of_ble_eq_true rfl, Nat.le_of_ble_eq_true rfl⟩ hs rfl hP (fun F6 H6 l6 hp hP => ?_)
  obtain ⟨e6, o6⟩ := hp
  rw [show 4 * 1 + 1 = 5 by omega] at e6
  obtain ⟨w6, hw6⟩ : ∃ z, z = upd w5 (5) (nI (1)) := ⟨_, rfl⟩
  rw [← hw6] at e6
  have h4___B : F6 (4 + B) = rI G (16) (w6) := e6
  have hB := (o6 (B) (by omega)).trans hB
  have h1___B := (o6 (1 + B) (by omega)).trans h1___B
  have h2___B := (o6 (2 + B) (by omega)).trans h2___B
  have h3___B := (o6 (3 + B) (by omega)).trans h3___B
  have h5___B := (o6 (5 + B) (by omega)).trans h5___B
  have h6___B := (o6 (6 + B) (by omega)).trans h6___B
  have h7___B := (o6 (7 + B) (by omega)).trans h7___B
  have h8___B := (o6 (8 + B) (by omega)).trans h8___B
  have h9___B := (o6 (9 + B) (by omega)).trans h9___B
  have h18___B := (o6 (18 + B) (by omega)).trans h18___B
  have h19___B := (o6 (19 + B) (by omega)).trans h19___B
  have h20___B := (o6 (20 + B) (by omega)).trans h20___B
  have h21___B := (o6 (21 + B) (by omega)).trans h21___B
  have h22___B := (o6 (22 + B) (by omega)).trans h22___B
  have h23___B := (o6 (23 + B) (by omega)).trans h23___B
  have h24___B := (o6 (24 + B) (by omega)).trans h24___B
  have h25___B := (o6 (25 + B) (by omega)).trans h25___B
  have h26___B := (o6 (26 + B) (by omega)).trans h26___B
  have h10___B := (o6 (10 + B) (by omega)).trans h10___B
  have h11___B := (o6 (11 + B) (by omega)).trans h11___B
  have h12___B := (o6 (12 + B) (by omega)).trans h12___B
  have h13___B := (o6 (13 + B) (by omega)).trans h13___B
  have h14___B := (o6 (14 + B) (by omega)).trans h14___B
  have h15___B := (o6 (15 + B) (by omega)).trans h15___B
  have h16___B := (o6 (16 + B) (by omega)).trans h16___B
  have h17___B := (o6 (17 + B) (by omega)).trans h17___B
  have hO : ∀ j, j < B ∨ B + 27 ≤ j → F6 j = F j := fun j hj => (o6 j (by omega)).trans (hO j hj)
  refine lv_iinc (v := (nI (2))) (lv' := [(1, .int (nI 2)), (0, rf G (B))]) X.1.1 X.1.2.1 dX5_begin_47 hl (k := 0) rfl (by decide) (by decide) rfl (fun ls hl => ?_)
  refine lv_goto (tgt := 32) X.1.1 X.1.2.1 dX5_begin_50 (by decide) ?_
  refine lv_iload_n X.1.1 X.1.2.1 dX5_begin_32 rfl (lv_at hl 0 rfl) ?_
  refine lv_iconst (v := nI 4) X.1.1 X.1.2.1 dX5_begin_33 (by decide) ?_
  refine sx_icmp_ge X (by decide) (by decide) (tgt := 53) dX5_begin_34 (by decide) (fun h => absurd h (by decide)) (fun _ => ?_)
  refine lv_aload_n X.1.1 X.1.2.1 dX5_begin_37 rfl (lv_at hl 1 rfl) ?_
  refine sx_get X hP in_X5_begin_X5 hB (by omega) rfl 2 (by decide) lk_X5_begin_fieldLink_RX5_23_RaceWatch_World_ofThreads_LRaceWatch_Clocks rfl dX5_begin_38 ?_
  refine lv_iload_n X.1.1 X.1.2.1 dX5_begin_41 rfl (lv_at hl 0 rfl) ?_
  refine lv_iload_n X.1.1 X.1.2.1 dX5_begin_42 rfl (lv_at hl 0 rfl) ?_
  refine lv_iconst (v := nI 1) X.1.1 X.1.2.1 dX5_begin_43 (by decide) ?_
  refine sx_cvV (As := [.int (nI 2), .int (nI 2), .int (nI 1)]) (rest := []) X (mX1_set l (ci := 3 + B) (cj := 4 + B) (L := 16) (row := 2) (t := 2) (v := (nI (1))) (by omega) (by omega) (by decide) (by omega) (by omega) h3___B h4___B) gX5_begin_X1_set rfl yv_X1_set ⟨Nat.le_of_ble_eq_true rfl, Nat.le_of_ble_eq_true rfl⟩ h3___B (by omega) rfl rfl hl.1 rfl (Nat.le_of_ble_eq_true rfl) dX5_begin_44 ⟨Nat.le_of_ble_eq_true rfl, Nat.le_of_ble_eq_true rfl⟩ hs rfl hP (fun F7 H7 l7 hp hP => ?_)
  obtain ⟨e7, o7⟩ := hp
  rw [show 4 * 2 + 2 = 10 by omega] at e7
  obtain ⟨w7, hw7⟩ : ∃ z, z = upd w6 (10) (nI (1)) := ⟨_, rfl⟩
  rw [← hw7] at e7
  have h4___B : F7 (4 + B) = rI G (16) (w7) := e7
  have hB := (o7 (B) (by omega)).trans hB
  have h1___B := (o7 (1 + B) (by omega)).trans h1___B
  have h2___B := (o7 (2 + B) (by omega)).trans h2___B
  have h3___B := (o7 (3 + B) (by omega)).trans h3___B
  have h5___B := (o7 (5 + B) (by omega)).trans h5___B
  have h6___B := (o7 (6 + B) (by omega)).trans h6___B
  have h7___B := (o7 (7 + B) (by omega)).trans h7___B
  have h8___B := (o7 (8 + B) (by omega)).trans h8___B
  have h9___B := (o7 (9 + B) (by omega)).trans h9___B
  have h18___B := (o7 (18 + B) (by omega)).trans h18___B
  have h19___B := (o7 (19 + B) (by omega)).trans h19___B
  have h20___B := (o7 (20 + B) (by omega)).trans h20___B
  have h21___B := (o7 (21 + B) (by omega)).trans h21___B
  have h22___B := (o7 (22 + B) (by omega)).trans h22___B
  have h23___B := (o7 (23 + B) (by omega)).trans h23___B
  have h24___B := (o7 (24 + B) (by omega)).trans h24___B
  have h25___B := (o7 (25 + B) (by omega)).trans h25___B
  have h26___B := (o7 (26 + B) (by omega)).trans h26___B
  have h10___B := (o7 (10 + B) (by omega)).trans h10___B
  have h11___B := (o7 (11 + B) (by omega)).trans h11___B
  have h12___B := (o7 (12 + B) (by omega)).trans h12___B
  have h13___B := (o7 (13 + B) (by omega)).trans h13___B
  have h14___B := (o7 (14 + B) (by omega)).trans h14___B
  have h15___B := (o7 (15 + B) (by omega)).trans h15___B
  have h16___B := (o7 (16 + B) (by omega)).trans h16___B
  have h17___B := (o7 (17 + B) (by omega)).trans h17___B
  have hO : ∀ j, j < B ∨ B + 27 ≤ j → F7 j = F j := fun j hj => (o7 j (by omega)).trans (hO j hj)
  refine lv_iinc (v := (nI (3))) (lv' := [(1, .int (nI 3)), (0, rf G (B))]) X.1.1 X.1.2.1 dX5_begin_47 hl (k := 0) rfl (by decide) (by decide) rfl (fun ls hl => ?_)
  refine lv_goto (tgt := 32) X.1.1 X.1.2.1 dX5_begin_50 (by decide) ?_
  refine lv_iload_n X.1.1 X.1.2.1 dX5_begin_32 rfl (lv_at hl 0 rfl) ?_
  refine lv_iconst (v := nI 4) X.1.1 X.1.2.1 dX5_begin_33 (by decide) ?_
  refine sx_icmp_ge X (by decide) (by decide) (tgt := 53) dX5_begin_34 (by decide) (fun h => absurd h (by decide)) (fun _ => ?_)
  refine lv_aload_n X.1.1 X.1.2.1 dX5_begin_37 rfl (lv_at hl 1 rfl) ?_
  refine sx_get X hP in_X5_begin_X5 hB (by omega) rfl 2 (by decide) lk_X5_begin_fieldLink_RX5_23_RaceWatch_World_ofThreads_LRaceWatch_Clocks rfl dX5_begin_38 ?_
  refine lv_iload_n X.1.1 X.1.2.1 dX5_begin_41 rfl (lv_at hl 0 rfl) ?_
  refine lv_iload_n X.1.1 X.1.2.1 dX5_begin_42 rfl (lv_at hl 0 rfl) ?_
  refine lv_iconst (v := nI 1) X.1.1 X.1.2.1 dX5_begin_43 (by decide) ?_
  refine sx_cvV (As := [.int (nI 3), .int (nI 3), .int (nI 1)]) (rest := []) X (mX1_set l (ci := 3 + B) (cj := 4 + B) (L := 16) (row := 3) (t := 3) (v := (nI (1))) (by omega) (by omega) (by decide) (by omega) (by omega) h3___B h4___B) gX5_begin_X1_set rfl yv_X1_set ⟨Nat.le_of_ble_eq_true rfl, Nat.le_of_ble_eq_true rfl⟩ h3___B (by omega) rfl rfl hl.1 rfl (Nat.le_of_ble_eq_true rfl) dX5_begin_44 ⟨Nat.le_of_ble_eq_true rfl, Nat.le_of_ble_eq_true rfl⟩ hs rfl hP (fun F8 H8 l8 hp hP => ?_)
  obtain ⟨e8, o8⟩ := hp
  rw [show 4 * 3 + 3 = 15 by omega] at e8
  obtain ⟨w8, hw8⟩ : ∃ z, z = upd w7 (15) (nI (1)) := ⟨_, rfl⟩
  rw [← hw8] at e8
  have h4___B : F8 (4 + B) = rI G (16) (w8) := e8
  have hB := (o8 (B) (by omega)).trans hB
  have h1___B := (o8 (1 + B) (by omega)).trans h1___B
  have h2___B := (o8 (2 + B) (by omega)).trans h2___B
  have h3___B := (o8 (3 + B) (by omega)).trans h3___B
  have h5___B := (o8 (5 + B) (by omega)).trans h5___B
  have h6___B := (o8 (6 + B) (by omega)).trans h6___B
  have h7___B := (o8 (7 + B) (by omega)).trans h7___B
  have h8___B := (o8 (8 + B) (by omega)).trans h8___B
  have h9___B := (o8 (9 + B) (by omega)).trans h9___B
  have h18___B := (o8 (18 + B) (by omega)).trans h18___B
  have h19___B := (o8 (19 + B) (by omega)).trans h19___B
  have h20___B := (o8 (20 + B) (by omega)).trans h20___B
  have h21___B := (o8 (21 + B) (by omega)).trans h21___B
  have h22___B := (o8 (22 + B) (by omega)).trans h22___B
  have h23___B := (o8 (23 + B) (by omega)).trans h23___B
  have h24___B := (o8 (24 + B) (by omega)).trans h24___B
  have h25___B := (o8 (25 + B) (by omega)).trans h25___B
  have h26___B := (o8 (26 + B) (by omega)).trans h26___B
  have h10___B := (o8 (10 + B) (by omega)).trans h10___B
  have h11___B := (o8 (11 + B) (by omega)).trans h11___B
  have h12___B := (o8 (12 + B) (by omega)).trans h12___B
  have h13___B := (o8 (13 + B) (by omega)).trans h13___B
  have h14___B := (o8 (14 + B) (by omega)).trans h14___B
  have h15___B := (o8 (15 + B) (by omega)).trans h15___B
  have h16___B := (o8 (16 + B) (by omega)).trans h16___B
  have h17___B := (o8 (17 + B) (by omega)).trans h17___B
  have hO : ∀ j, j < B ∨ B + 27 ≤ j → F8 j = F j := fun j hj => (o8 j (by omega)).trans (hO j hj)
  refine lv_iinc (v := (nI (4))) (lv' := [(1, .int (nI 4)), (0, rf G (B))]) X.1.1 X.1.2.1 dX5_begin_47 hl (k := 0) rfl (by decide) (by decide) rfl (fun ls hl => ?_)
  refine lv_goto (tgt := 32) X.1.1 X.1.2.1 dX5_begin_50 (by decide) ?_
  refine lv_iload_n X.1.1 X.1.2.1 dX5_begin_32 rfl (lv_at hl 0 rfl) ?_
  refine lv_iconst (v := nI 4) X.1.1 X.1.2.1 dX5_begin_33 (by decide) ?_
  refine sx_icmp_ge X (by decide) (by decide) (tgt := 53) dX5_begin_34 (by decide) (fun _ => ?_) (fun h => absurd h (by decide))
  refine lv_aload_n X.1.1 X.1.2.1 dX5_begin_53 rfl (lv_at hl 1 rfl) ?_
  refine sx_get X hP in_X5_begin_X5 hB (by omega) rfl 3 (by decide) lk_X5_begin_fieldLink_RX5_27_RaceWatch_World_ofLocks_LRaceWatch_Clocks rfl dX5_begin_54 ?_
  refine sx_cvV (As := []) (rest := []) X (mX1_clear l (ci := 5 + B) (cj := 6 + B) (L := 12) (by omega) (by omega) (by decide) (by omega) h5___B h6___B) gX5_begin_X1_clear rfl yv_X1_clear ⟨Nat.le_of_ble_eq_true rfl, Nat.le_of_ble_eq_true rfl⟩ h5___B (by omega) rfl rfl hl.1 rfl (Nat.le_of_ble_eq_true rfl) dX5_begin_57 ⟨Nat.le_of_ble_eq_true rfl, Nat.le_of_ble_eq_true rfl⟩ hs rfl hP (fun F9 H9 l9 hp hP => ?_)
  obtain ⟨w9, e9, hz9, o9⟩ := hp
  have h6___B : F9 (6 + B) = rI G (12) (w9) := e9
  have hB := (o9 (B) (by omega)).trans hB
  have h1___B := (o9 (1 + B) (by omega)).trans h1___B
  have h2___B := (o9 (2 + B) (by omega)).trans h2___B
  have h3___B := (o9 (3 + B) (by omega)).trans h3___B
  have h4___B := (o9 (4 + B) (by omega)).trans h4___B
  have h5___B := (o9 (5 + B) (by omega)).trans h5___B
  have h7___B := (o9 (7 + B) (by omega)).trans h7___B
  have h8___B := (o9 (8 + B) (by omega)).trans h8___B
  have h9___B := (o9 (9 + B) (by omega)).trans h9___B
  have h18___B := (o9 (18 + B) (by omega)).trans h18___B
  have h19___B := (o9 (19 + B) (by omega)).trans h19___B
  have h20___B := (o9 (20 + B) (by omega)).trans h20___B
  have h21___B := (o9 (21 + B) (by omega)).trans h21___B
  have h22___B := (o9 (22 + B) (by omega)).trans h22___B
  have h23___B := (o9 (23 + B) (by omega)).trans h23___B
  have h24___B := (o9 (24 + B) (by omega)).trans h24___B
  have h25___B := (o9 (25 + B) (by omega)).trans h25___B
  have h26___B := (o9 (26 + B) (by omega)).trans h26___B
  have h10___B := (o9 (10 + B) (by omega)).trans h10___B
  have h11___B := (o9 (11 + B) (by omega)).trans h11___B
  have h12___B := (o9 (12 + B) (by omega)).trans h12___B
  have h13___B := (o9 (13 + B) (by omega)).trans h13___B
  have h14___B := (o9 (14 + B) (by omega)).trans h14___B
  have h15___B := (o9 (15 + B) (by omega)).trans h15___B
  have h16___B := (o9 (16 + B) (by omega)).trans h16___B
  have h17___B := (o9 (17 + B) (by omega)).trans h17___B
  have hO : ∀ j, j < B ∨ B + 27 ≤ j → F9 j = F j := fun j hj => (o9 j (by omega)).trans (hO j hj)
  refine lv_aload_n X.1.1 X.1.2.1 dX5_begin_60 rfl (lv_at hl 1 rfl) ?_
  refine sx_get X hP in_X5_begin_X5 hB (by omega) rfl 4 (by decide) lk_X5_begin_fieldLink_RX5_30_RaceWatch_World_ofSeenCells_LRaceWatch_Clocks rfl dX5_begin_61 ?_
  refine sx_cvV (As := []) (rest := []) X (mX1_clear l (ci := 7 + B) (cj := 8 + B) (L := 8) (by omega) (by omega) (by decide) (by omega) h7___B h8___B) gX5_begin_X1_clear rfl yv_X1_clear ⟨Nat.le_of_ble_eq_true rfl, Nat.le_of_ble_eq_true rfl⟩ h7___B (by omega) rfl rfl hl.1 rfl (Nat.le_of_ble_eq_true rfl) dX5_begin_64 ⟨Nat.le_of_ble_eq_true rfl, Nat.le_of_ble_eq_true rfl⟩ hs rfl hP (fun F10 H10 l10 hp hP => ?_)
  obtain ⟨w10, e10, hz10, o10⟩ := hp
  have h8___B : F10 (8 + B) = rI G (8) (w10) := e10
  have hB := (o10 (B) (by omega)).trans hB
  have h1___B := (o10 (1 + B) (by omega)).trans h1___B
  have h2___B := (o10 (2 + B) (by omega)).trans h2___B
  have h3___B := (o10 (3 + B) (by omega)).trans h3___B
  have h4___B := (o10 (4 + B) (by omega)).trans h4___B
  have h5___B := (o10 (5 + B) (by omega)).trans h5___B
  have h6___B := (o10 (6 + B) (by omega)).trans h6___B
  have h7___B := (o10 (7 + B) (by omega)).trans h7___B
  have h9___B := (o10 (9 + B) (by omega)).trans h9___B
  have h18___B := (o10 (18 + B) (by omega)).trans h18___B
  have h19___B := (o10 (19 + B) (by omega)).trans h19___B
  have h20___B := (o10 (20 + B) (by omega)).trans h20___B
  have h21___B := (o10 (21 + B) (by omega)).trans h21___B
  have h22___B := (o10 (22 + B) (by omega)).trans h22___B
  have h23___B := (o10 (23 + B) (by omega)).trans h23___B
  have h24___B := (o10 (24 + B) (by omega)).trans h24___B
  have h25___B := (o10 (25 + B) (by omega)).trans h25___B
  have h26___B := (o10 (26 + B) (by omega)).trans h26___B
  have h10___B := (o10 (10 + B) (by omega)).trans h10___B
  have h11___B := (o10 (11 + B) (by omega)).trans h11___B
  have h12___B := (o10 (12 + B) (by omega)).trans h12___B
  have h13___B := (o10 (13 + B) (by omega)).trans h13___B
  have h14___B := (o10 (14 + B) (by omega)).trans h14___B
  have h15___B := (o10 (15 + B) (by omega)).trans h15___B
  have h16___B := (o10 (16 + B) (by omega)).trans h16___B
  have h17___B := (o10 (17 + B) (by omega)).trans h17___B
  have hO : ∀ j, j < B ∨ B + 27 ≤ j → F10 j = F j := fun j hj => (o10 j (by omega)).trans (hO j hj)
  refine lv_iconst (v := nI 0) X.1.1 X.1.2.1 dX5_begin_67 (by decide) ?_
  refine lv_istore_n (lv' := [(1, .int (nI 0)), (0, rf G (B))]) X.1.1 X.1.2.1 dX5_begin_68 rfl hl (by decide) rfl (fun ls hl => ?_)
  refine lv_iload_n X.1.1 X.1.2.1 dX5_begin_69 rfl (lv_at hl 0 rfl) ?_
  refine lv_iconst (v := nI 4) X.1.1 X.1.2.1 dX5_begin_70 (by decide) ?_
  refine sx_icmp_ge X (by decide) (by decide) (tgt := 89) dX5_begin_71 (by decide) (fun h => absurd h (by decide)) (fun _ => ?_)
  refine lv_aload_n X.1.1 X.1.2.1 dX5_begin_74 rfl (lv_at hl 1 rfl) ?_
  refine sx_get X hP in_X5_begin_X5 hB (by omega) rfl 5 (by decide) lk_X5_begin_fieldLink_RX5_36_RaceWatch_World_cells_LRaceWatch_Kept rfl dX5_begin_75 ?_
  refine lv_iload_n X.1.1 X.1.2.1 dX5_begin_78 rfl (lv_at hl 0 rfl) ?_
  refine sx_kald X hP h9___B (by omega) (0) (by decide) (by decide) (q := 10 + B) ((hkr _ (by omega)).trans (congrArg some (by omega))) dX5_begin_79 ?_
  refine sx_cvV (As := []) (rest := []) X (mX2_begin l (ki := 10 + B) (kj := 11 + B) (by omega) (by omega) (by omega) h10___B h11___B) gX5_begin_X2_begin rfl yv_X2_begin ⟨Nat.le_of_ble_eq_true rfl, Nat.le_of_ble_eq_true rfl⟩ h10___B (by omega) rfl rfl hl.1 rfl (Nat.le_of_ble_eq_true rfl) dX5_begin_80 ⟨Nat.le_of_ble_eq_true rfl, Nat.le_of_ble_eq_true rfl⟩ hs rfl hP (fun F11 H11 l11 hp hP => ?_)
  obtain ⟨e11, ⟨w11, f11, hz11⟩, o11⟩ := hp
  have hB := (o11 (B) (by omega)).trans hB
  have h1___B := (o11 (1 + B) (by omega)).trans h1___B
  have h2___B := (o11 (2 + B) (by omega)).trans h2___B
  have h3___B := (o11 (3 + B) (by omega)).trans h3___B
  have h4___B := (o11 (4 + B) (by omega)).trans h4___B
  have h5___B := (o11 (5 + B) (by omega)).trans h5___B
  have h6___B := (o11 (6 + B) (by omega)).trans h6___B
  have h7___B := (o11 (7 + B) (by omega)).trans h7___B
  have h8___B := (o11 (8 + B) (by omega)).trans h8___B
  have h9___B := (o11 (9 + B) (by omega)).trans h9___B
  have h18___B := (o11 (18 + B) (by omega)).trans h18___B
  have h19___B := (o11 (19 + B) (by omega)).trans h19___B
  have h20___B := (o11 (20 + B) (by omega)).trans h20___B
  have h21___B := (o11 (21 + B) (by omega)).trans h21___B
  have h22___B := (o11 (22 + B) (by omega)).trans h22___B
  have h23___B := (o11 (23 + B) (by omega)).trans h23___B
  have h24___B := (o11 (24 + B) (by omega)).trans h24___B
  have h25___B := (o11 (25 + B) (by omega)).trans h25___B
  have h26___B := (o11 (26 + B) (by omega)).trans h26___B
  have h10___B : F11 (10 + B) = ob 2 ([.int (-1), .int (nI 0), .int (-1), .int (nI 0), .int (nI 0), rf G (11 + B), .int (nI 0), .int (-1), .int (-1), .int (nI 7)]) := e11
  have h11___B : F11 (11 + B) = rI G (4) (w11) := f11
  have h12___B := (o11 (12 + B) (by omega)).trans h12___B
  have h13___B := (o11 (13 + B) (by omega)).trans h13___B
  have h14___B := (o11 (14 + B) (by omega)).trans h14___B
  have h15___B := (o11 (15 + B) (by omega)).trans h15___B
  have h16___B := (o11 (16 + B) (by omega)).trans h16___B
  have h17___B := (o11 (17 + B) (by omega)).trans h17___B
  have hO : ∀ j, j < B ∨ B + 27 ≤ j → F11 j = F j := fun j hj => (o11 j (by omega)).trans (hO j hj)
  refine lv_iinc (v := (nI (1))) (lv' := [(1, .int (nI 1)), (0, rf G (B))]) X.1.1 X.1.2.1 dX5_begin_83 hl (k := 0) rfl (by decide) (by decide) rfl (fun ls hl => ?_)
  refine lv_goto (tgt := 69) X.1.1 X.1.2.1 dX5_begin_86 (by decide) ?_
  refine lv_iload_n X.1.1 X.1.2.1 dX5_begin_69 rfl (lv_at hl 0 rfl) ?_
  refine lv_iconst (v := nI 4) X.1.1 X.1.2.1 dX5_begin_70 (by decide) ?_
  refine sx_icmp_ge X (by decide) (by decide) (tgt := 89) dX5_begin_71 (by decide) (fun h => absurd h (by decide)) (fun _ => ?_)
  refine lv_aload_n X.1.1 X.1.2.1 dX5_begin_74 rfl (lv_at hl 1 rfl) ?_
  refine sx_get X hP in_X5_begin_X5 hB (by omega) rfl 5 (by decide) lk_X5_begin_fieldLink_RX5_36_RaceWatch_World_cells_LRaceWatch_Kept rfl dX5_begin_75 ?_
  refine lv_iload_n X.1.1 X.1.2.1 dX5_begin_78 rfl (lv_at hl 0 rfl) ?_
  refine sx_kald X hP h9___B (by omega) (1) (by decide) (by decide) (q := 12 + B) ((hkr _ (by omega)).trans (congrArg some (by omega))) dX5_begin_79 ?_
  refine sx_cvV (As := []) (rest := []) X (mX2_begin l (ki := 12 + B) (kj := 13 + B) (by omega) (by omega) (by omega) h12___B h13___B) gX5_begin_X2_begin rfl yv_X2_begin ⟨Nat.le_of_ble_eq_true rfl, Nat.le_of_ble_eq_true rfl⟩ h12___B (by omega) rfl rfl hl.1 rfl (Nat.le_of_ble_eq_true rfl) dX5_begin_80 ⟨Nat.le_of_ble_eq_true rfl, Nat.le_of_ble_eq_true rfl⟩ hs rfl hP (fun F12 H12 l12 hp hP => ?_)
  obtain ⟨e12, ⟨w12, f12, hz12⟩, o12⟩ := hp
  have hB := (o12 (B) (by omega)).trans hB
  have h1___B := (o12 (1 + B) (by omega)).trans h1___B
  have h2___B := (o12 (2 + B) (by omega)).trans h2___B
  have h3___B := (o12 (3 + B) (by omega)).trans h3___B
  have h4___B := (o12 (4 + B) (by omega)).trans h4___B
  have h5___B := (o12 (5 + B) (by omega)).trans h5___B
  have h6___B := (o12 (6 + B) (by omega)).trans h6___B
  have h7___B := (o12 (7 + B) (by omega)).trans h7___B
  have h8___B := (o12 (8 + B) (by omega)).trans h8___B
  have h9___B := (o12 (9 + B) (by omega)).trans h9___B
  have h18___B := (o12 (18 + B) (by omega)).trans h18___B
  have h19___B := (o12 (19 + B) (by omega)).trans h19___B
  have h20___B := (o12 (20 + B) (by omega)).trans h20___B
  have h21___B := (o12 (21 + B) (by omega)).trans h21___B
  have h22___B := (o12 (22 + B) (by omega)).trans h22___B
  have h23___B := (o12 (23 + B) (by omega)).trans h23___B
  have h24___B := (o12 (24 + B) (by omega)).trans h24___B
  have h25___B := (o12 (25 + B) (by omega)).trans h25___B
  have h26___B := (o12 (26 + B) (by omega)).trans h26___B
  have h10___B := (o12 (10 + B) (by omega)).trans h10___B
  have h11___B := (o12 (11 + B) (by omega)).trans h11___B
  have h12___B : F12 (12 + B) = ob 2 ([.int (-1), .int (nI 0), .int (-1), .int (nI 0), .int (nI 0), rf G (13 + B), .int (nI 0), .int (-1), .int (-1), .int (nI 7)]) := e12
  have h13___B : F12 (13 + B) = rI G (4) (w12) := f12
  have h14___B := (o12 (14 + B) (by omega)).trans h14___B
  have h15___B := (o12 (15 + B) (by omega)).trans h15___B
  have h16___B := (o12 (16 + B) (by omega)).trans h16___B
  have h17___B := (o12 (17 + B) (by omega)).trans h17___B
  have hO : ∀ j, j < B ∨ B + 27 ≤ j → F12 j = F j := fun j hj => (o12 j (by omega)).trans (hO j hj)
  refine lv_iinc (v := (nI (2))) (lv' := [(1, .int (nI 2)), (0, rf G (B))]) X.1.1 X.1.2.1 dX5_begin_83 hl (k := 0) rfl (by decide) (by decide) rfl (fun ls hl => ?_)
  refine lv_goto (tgt := 69) X.1.1 X.1.2.1 dX5_begin_86 (by decide) ?_
  refine lv_iload_n X.1.1 X.1.2.1 dX5_begin_69 rfl (lv_at hl 0 rfl) ?_
  refine lv_iconst (v := nI 4) X.1.1 X.1.2.1 dX5_begin_70 (by decide) ?_
  refine sx_icmp_ge X (by decide) (by decide) (tgt := 89) dX5_begin_71 (by decide) (fun h => absurd h (by decide)) (fun _ => ?_)
  refine lv_aload_n X.1.1 X.1.2.1 dX5_begin_74 rfl (lv_at hl 1 rfl) ?_
  refine sx_get X hP in_X5_begin_X5 hB (by omega) rfl 5 (by decide) lk_X5_begin_fieldLink_RX5_36_RaceWatch_World_cells_LRaceWatch_Kept rfl dX5_begin_75 ?_
  refine lv_iload_n X.1.1 X.1.2.1 dX5_begin_78 rfl (lv_at hl 0 rfl) ?_
  refine sx_kald X hP h9___B (by omega) (2) (by decide) (by decide) (q := 14 + B) ((hkr _ (by omega)).trans (congrArg some (by omega))) dX5_begin_79 ?_
  refine sx_cvV (As := []) (rest := []) X (mX2_begin l (ki := 14 + B) (kj := 15 + B) (by omega) (by omega) (by omega) h14___B h15___B) gX5_begin_X2_begin rfl yv_X2_begin ⟨Nat.le_of_ble_eq_true rfl, Nat.le_of_ble_eq_true rfl⟩ h14___B (by omega) rfl rfl hl.1 rfl (Nat.le_of_ble_eq_true rfl) dX5_begin_80 ⟨Nat.le_of_ble_eq_true rfl, Nat.le_of_ble_eq_true rfl⟩ hs rfl hP (fun F13 H13 l13 hp hP => ?_)
  obtain ⟨e13, ⟨w13, f13, hz13⟩, o13⟩ := hp
  have hB := (o13 (B) (by omega)).trans hB
  have h1___B := (o13 (1 + B) (by omega)).trans h1___B
  have h2___B := (o13 (2 + B) (by omega)).trans h2___B
  have h3___B := (o13 (3 + B) (by omega)).trans h3___B
  have h4___B := (o13 (4 + B) (by omega)).trans h4___B
  have h5___B := (o13 (5 + B) (by omega)).trans h5___B
  have h6___B := (o13 (6 + B) (by omega)).trans h6___B
  have h7___B := (o13 (7 + B) (by omega)).trans h7___B
  have h8___B := (o13 (8 + B) (by omega)).trans h8___B
  have h9___B := (o13 (9 + B) (by omega)).trans h9___B
  have h18___B := (o13 (18 + B) (by omega)).trans h18___B
  have h19___B := (o13 (19 + B) (by omega)).trans h19___B
  have h20___B := (o13 (20 + B) (by omega)).trans h20___B
  have h21___B := (o13 (21 + B) (by omega)).trans h21___B
  have h22___B := (o13 (22 + B) (by omega)).trans h22___B
  have h23___B := (o13 (23 + B) (by omega)).trans h23___B
  have h24___B := (o13 (24 + B) (by omega)).trans h24___B
  have h25___B := (o13 (25 + B) (by omega)).trans h25___B
  have h26___B := (o13 (26 + B) (by omega)).trans h26___B
  have h10___B := (o13 (10 + B) (by omega)).trans h10___B
  have h11___B := (o13 (11 + B) (by omega)).trans h11___B
  have h12___B := (o13 (12 + B) (by omega)).trans h12___B
  have h13___B := (o13 (13 + B) (by omega)).trans h13___B
  have h14___B : F13 (14 + B) = ob 2 ([.int (-1), .int (nI 0), .int (-1), .int (nI 0), .int (nI 0), rf G (15 + B), .int (nI 0), .int (-1), .int (-1), .int (nI 7)]) := e13
  have h15___B : F13 (15 + B) = rI G (4) (w13) := f13
  have h16___B := (o13 (16 + B) (by omega)).trans h16___B
  have h17___B := (o13 (17 + B) (by omega)).trans h17___B
  have hO : ∀ j, j < B ∨ B + 27 ≤ j → F13 j = F j := fun j hj => (o13 j (by omega)).trans (hO j hj)
  refine lv_iinc (v := (nI (3))) (lv' := [(1, .int (nI 3)), (0, rf G (B))]) X.1.1 X.1.2.1 dX5_begin_83 hl (k := 0) rfl (by decide) (by decide) rfl (fun ls hl => ?_)
  refine lv_goto (tgt := 69) X.1.1 X.1.2.1 dX5_begin_86 (by decide) ?_
  refine lv_iload_n X.1.1 X.1.2.1 dX5_begin_69 rfl (lv_at hl 0 rfl) ?_
  refine lv_iconst (v := nI 4) X.1.1 X.1.2.1 dX5_begin_70 (by decide) ?_
  refine sx_icmp_ge X (by decide) (by decide) (tgt := 89) dX5_begin_71 (by decide) (fun h => absurd h (by decide)) (fun _ => ?_)
  refine lv_aload_n X.1.1 X.1.2.1 dX5_begin_74 rfl (lv_at hl 1 rfl) ?_
  refine sx_get X hP in_X5_begin_X5 hB (by omega) rfl 5 (by decide) lk_X5_begin_fieldLink_RX5_36_RaceWatch_World_cells_LRaceWatch_Kept rfl dX5_begin_75 ?_
  refine lv_iload_n X.1.1 X.1.2.1 dX5_begin_78 rfl (lv_at hl 0 rfl) ?_
  refine sx_kald X hP h9___B (by omega) (3) (by decide) (by decide) (q := 16 + B) ((hkr _ (by omega)).trans (congrArg some (by omega))) dX5_begin_79 ?_
  refine sx_cvV (As := []) (rest := []) X (mX2_begin l (ki := 16 + B) (kj := 17 + B) (by omega) (by omega) (by omega) h16___B h17___B) gX5_begin_X2_begin rfl yv_X2_begin ⟨Nat.le_of_ble_eq_true rfl, Nat.le_of_ble_eq_true rfl⟩ h16___B (by omega) rfl rfl hl.1 rfl (Nat.le_of_ble_eq_true rfl) dX5_begin_80 ⟨Nat.le_of_ble_eq_true rfl, Nat.le_of_ble_eq_true rfl⟩ hs rfl hP (fun F14 H14 l14 hp hP => ?_)
  obtain ⟨e14, ⟨w14, f14, hz14⟩, o14⟩ := hp
  have hB := (o14 (B) (by omega)).trans hB
  have h1___B := (o14 (1 + B) (by omega)).trans h1___B
  have h2___B := (o14 (2 + B) (by omega)).trans h2___B
  have h3___B := (o14 (3 + B) (by omega)).trans h3___B
  have h4___B := (o14 (4 + B) (by omega)).trans h4___B
  have h5___B := (o14 (5 + B) (by omega)).trans h5___B
  have h6___B := (o14 (6 + B) (by omega)).trans h6___B
  have h7___B := (o14 (7 + B) (by omega)).trans h7___B
  have h8___B := (o14 (8 + B) (by omega)).trans h8___B
  have h9___B := (o14 (9 + B) (by omega)).trans h9___B
  have h18___B := (o14 (18 + B) (by omega)).trans h18___B
  have h19___B := (o14 (19 + B) (by omega)).trans h19___B
  have h20___B := (o14 (20 + B) (by omega)).trans h20___B
  have h21___B := (o14 (21 + B) (by omega)).trans h21___B
  have h22___B := (o14 (22 + B) (by omega)).trans h22___B
  have h23___B := (o14 (23 + B) (by omega)).trans h23___B
  have h24___B := (o14 (24 + B) (by omega)).trans h24___B
  have h25___B := (o14 (25 + B) (by omega)).trans h25___B
  have h26___B := (o14 (26 + B) (by omega)).trans h26___B
  have h10___B := (o14 (10 + B) (by omega)).trans h10___B
  have h11___B := (o14 (11 + B) (by omega)).trans h11___B
  have h12___B := (o14 (12 + B) (by omega)).trans h12___B
  have h13___B := (o14 (13 + B) (by omega)).trans h13___B
  have h14___B := (o14 (14 + B) (by omega)).trans h14___B
  have h15___B := (o14 (15 + B) (by omega)).trans h15___B
  have h16___B : F14 (16 + B) = ob 2 ([.int (-1), .int (nI 0), .int (-1), .int (nI 0), .int (nI 0), rf G (17 + B), .int (nI 0), .int (-1), .int (-1), .int (nI 7)]) := e14
  have h17___B : F14 (17 + B) = rI G (4) (w14) := f14
  have hO : ∀ j, j < B ∨ B + 27 ≤ j → F14 j = F j := fun j hj => (o14 j (by omega)).trans (hO j hj)
  refine lv_iinc (v := (nI (4))) (lv' := [(1, .int (nI 4)), (0, rf G (B))]) X.1.1 X.1.2.1 dX5_begin_83 hl (k := 0) rfl (by decide) (by decide) rfl (fun ls hl => ?_)
  refine lv_goto (tgt := 69) X.1.1 X.1.2.1 dX5_begin_86 (by decide) ?_
  refine lv_iload_n X.1.1 X.1.2.1 dX5_begin_69 rfl (lv_at hl 0 rfl) ?_
  refine lv_iconst (v := nI 4) X.1.1 X.1.2.1 dX5_begin_70 (by decide) ?_
  refine sx_icmp_ge X (by decide) (by decide) (tgt := 89) dX5_begin_71 (by decide) (fun _ => ?_) (fun h => absurd h (by decide))
  refine lv_aload_n X.1.1 X.1.2.1 dX5_begin_89 rfl (lv_at hl 1 rfl) ?_
  refine sx_get X hP in_X5_begin_X5 hB (by omega) rfl 6 (by decide) lk_X5_begin_fieldLink_RX5_43_RaceWatch_World_log_LRaceWatch_Log rfl dX5_begin_90 ?_
  refine sx_cvV (As := []) (rest := []) X (mX3_begin l (B := B) (by omega) h18___B h26___B) gX5_begin_X3_begin rfl yv_X3_begin ⟨Nat.le_of_ble_eq_true rfl, Nat.le_of_ble_eq_true rfl⟩ h18___B (by omega) rfl rfl hl.1 rfl (Nat.le_of_ble_eq_true rfl) dX5_begin_93 ⟨Nat.le_of_ble_eq_true rfl, Nat.le_of_ble_eq_true rfl⟩ hs rfl hP (fun F15 H15 l15 hp hP => ?_)
  obtain ⟨e15, ⟨w15, f15, hz15⟩, o15⟩ := hp
  have hB := (o15 (B) (by omega)).trans hB
  have h1___B := (o15 (1 + B) (by omega)).trans h1___B
  have h2___B := (o15 (2 + B) (by omega)).trans h2___B
  have h3___B := (o15 (3 + B) (by omega)).trans h3___B
  have h4___B := (o15 (4 + B) (by omega)).trans h4___B
  have h5___B := (o15 (5 + B) (by omega)).trans h5___B
  have h6___B := (o15 (6 + B) (by omega)).trans h6___B
  have h7___B := (o15 (7 + B) (by omega)).trans h7___B
  have h8___B := (o15 (8 + B) (by omega)).trans h8___B
  have h9___B := (o15 (9 + B) (by omega)).trans h9___B
  have h18___B : F15 (18 + B) = ob 3 ([.int (nI 0), rf G (19 + B), rf G (20 + B), rf G (21 + B), rf G (22 + B), rf G (23 + B), rf G (25 + B), rf G (26 + B)]) := e15
  have h19___B := (o15 (19 + B) (by omega)).trans h19___B
  have h20___B := (o15 (20 + B) (by omega)).trans h20___B
  have h21___B := (o15 (21 + B) (by omega)).trans h21___B
  have h22___B := (o15 (22 + B) (by omega)).trans h22___B
  have h23___B := (o15 (23 + B) (by omega)).trans h23___B
  have h24___B := (o15 (24 + B) (by omega)).trans h24___B
  have h25___B := (o15 (25 + B) (by omega)).trans h25___B
  have h26___B : F15 (26 + B) = rI G (12) (w15) := f15
  have h10___B := (o15 (10 + B) (by omega)).trans h10___B
  have h11___B := (o15 (11 + B) (by omega)).trans h11___B
  have h12___B := (o15 (12 + B) (by omega)).trans h12___B
  have h13___B := (o15 (13 + B) (by omega)).trans h13___B
  have h14___B := (o15 (14 + B) (by omega)).trans h14___B
  have h15___B := (o15 (15 + B) (by omega)).trans h15___B
  have h16___B := (o15 (16 + B) (by omega)).trans h16___B
  have h17___B := (o15 (17 + B) (by omega)).trans h17___B
  have hO : ∀ j, j < B ∨ B + 27 ≤ j → F15 j = F j := fun j hj => (o15 j (by omega)).trans (hO j hj)
  have hKc : ∀ c, c < 4 → KV G F15 (iniF w) 0 B c := fun c hc => by
    obtain ⟨i1, i2, i3, i4, i5, i6, i7, i8, i9⟩ := ini_c (w := w) hc
    unfold KV
    rw [i1, i2, i3, i4, i5, i6, i7, i8]
    rcases (show c = 0 ∨ c = 1 ∨ c = 2 ∨ c = 3 by omega) with rfl | rfl | rfl | rfl
    · rw [show 10 + B + 2 * 0 = 10 + B by omega, show 11 + B + 2 * 0 = 11 + B by omega]; exact ⟨h10___B, _, h11___B, fun k hk => (hz11 k hk).trans (i9 k hk).symm⟩
    · rw [show 10 + B + 2 * 1 = 12 + B by omega, show 11 + B + 2 * 1 = 13 + B by omega]; exact ⟨h12___B, _, h13___B, fun k hk => (hz12 k hk).trans (i9 k hk).symm⟩
    · rw [show 10 + B + 2 * 2 = 14 + B by omega, show 11 + B + 2 * 2 = 15 + B by omega]; exact ⟨h14___B, _, h15___B, fun k hk => (hz13 k hk).trans (i9 k hk).symm⟩
    · rw [show 10 + B + 2 * 3 = 16 + B by omega, show 11 + B + 2 * 3 = 17 + B by omega]; exact ⟨h16___B, _, h17___B, fun k hk => (hz14 k hk).trans (i9 k hk).symm⟩
  obtain ⟨hL1, hL2, hL3⟩ := Lg_ini (w := iniF w) (th := th) (so := so) (wi := wi) (lo := lo) (lc := lc) (rb := rb) hz15
  have hst : ∀ k, k < 4 → w2 k = iniF w k := by rw [hw2]; exact ini_st hz1
  have hct : ∀ k, k < 16 → w8 k = iniF w (4 + k) := by rw [hw8, hw7, hw6, hw5]; exact ini_ct hz4
  rw [hQ]
  exact sx_vret X rfl hs rfl hP dX5_begin_96 (⟨⟨_, _, _, _, _, kr, _, _, _, hB, h1___B, h2___B, h3___B, h4___B, h5___B, h6___B, h7___B, h8___B, h9___B, hkr, ⟨hst, ini_ho hz3, hct, ini_cl hz9, ini_cs hz10⟩, hKc, ⟨th, so, wi, lo, lc, rb, _, rr, h18___B, h19___B, h20___B, h21___B, h22___B, h23___B, h24___B, h25___B, h26___B, hL1, hL2, hL3⟩, rfl, rfl, rfl⟩, hO⟩)
theorem ys_X5_copy : yX5_copy.cls ≠ "java/lang/invoke/MethodHandle" ∧ yX5_copy.cls ≠ "java/lang/invoke/VarHandle" ∧ (parseMethodDescriptor yX5_copy.desc).map (fun d => d.parameters.length) = some 1 := by decide +kernel
theorem yv_X5_copy : yX5_copy.cls = RX5 ∧ yX5_copy.cls ≠ "java/lang/invoke/MethodHandle" ∧ yX5_copy.cls ≠ "java/lang/invoke/VarHandle" ∧ (parseMethodDescriptor yX5_copy.desc).map (fun d => d.parameters.length) = some 1 := ⟨rfl, ys_X5_copy⟩
theorem in_X5_copy_X5 : ∀ w ∈ wsX50, w ∈ wsX5_copy := fun _ h => List.mem_cons_of_mem _ (List.mem_append_left _ (List.mem_append_left _ (List.mem_append_left _ (List.mem_append_right _ (h)))))
theorem lk_X5_copy_fieldLink_RX5_9_RaceWatch_World_states_I : (.fieldLink RX5 9 "RaceWatch$World" "states" "[I" : Cond) ∈ wsX5_copy := List.mem_cons_of_mem _ (List.mem_append_left _ (List.mem_append_left _ (List.mem_append_left _ (List.mem_append_left _ (List.mem_append_left _ (List.mem_of_getElem? (i := 0) rfl))))))
theorem lk_X5_copy_methodLink_RX5_65_arraycopyName : (.methodLink RX5 65 arraycopyName : Cond) ∈ wsX5_copy := List.mem_cons_of_mem _ (List.mem_append_left _ (List.mem_append_left _ (List.mem_append_left _ (List.mem_append_left _ (List.mem_append_left _ (List.mem_of_getElem? (i := 1) rfl))))))
theorem lk_X5_copy_native_arraycopyName : (.native arraycopyName : Cond) ∈ wsX5_copy := List.mem_cons_of_mem _ (List.mem_append_left _ (List.mem_append_left _ (List.mem_append_left _ (List.mem_append_left _ (List.mem_append_left _ (List.mem_of_getElem? (i := 2) rfl))))))
theorem lk_X5_copy_static_arraycopyName : (.static arraycopyName : Cond) ∈ wsX5_copy := List.mem_cons_of_mem _ (List.mem_append_left _ (List.mem_append_left _ (List.mem_append_left _ (List.mem_append_left _ (List.mem_append_left _ (List.mem_of_getElem? (i := 3) rfl))))))
theorem lk_X5_copy_initialized_java_lang_System : (.initialized "java/lang/System" : Cond) ∈ wsX5_copy := List.mem_cons_of_mem _ (List.mem_append_left _ (List.mem_append_left _ (List.mem_append_left _ (List.mem_append_left _ (List.mem_append_left _ (List.mem_of_getElem? (i := 4) rfl))))))
theorem lk_X5_copy_fieldLink_RX5_15_RaceWatch_World_holders_I : (.fieldLink RX5 15 "RaceWatch$World" "holders" "[I" : Cond) ∈ wsX5_copy := List.mem_cons_of_mem _ (List.mem_append_left _ (List.mem_append_left _ (List.mem_append_left _ (List.mem_append_left _ (List.mem_append_left _ (List.mem_of_getElem? (i := 5) rfl))))))
theorem lk_X5_copy_fieldLink_RX5_23_RaceWatch_World_ofThreads_LRaceWatch_Clocks : (.fieldLink RX5 23 "RaceWatch$World" "ofThreads" "LRaceWatch$Clocks;" : Cond) ∈ wsX5_copy := List.mem_cons_of_mem _ (List.mem_append_left _ (List.mem_append_left _ (List.mem_append_left _ (List.mem_append_left _ (List.mem_append_left _ (List.mem_of_getElem? (i := 6) rfl))))))
theorem lk_X5_copy_fieldLink_RX5_27_RaceWatch_World_ofLocks_LRaceWatch_Clocks : (.fieldLink RX5 27 "RaceWatch$World" "ofLocks" "LRaceWatch$Clocks;" : Cond) ∈ wsX5_copy := List.mem_cons_of_mem _ (List.mem_append_left _ (List.mem_append_left _ (List.mem_append_left _ (List.mem_append_left _ (List.mem_append_left _ (List.mem_of_getElem? (i := 7) rfl))))))
theorem lk_X5_copy_fieldLink_RX5_30_RaceWatch_World_ofSeenCells_LRaceWatch_Clocks : (.fieldLink RX5 30 "RaceWatch$World" "ofSeenCells" "LRaceWatch$Clocks;" : Cond) ∈ wsX5_copy := List.mem_cons_of_mem _ (List.mem_append_left _ (List.mem_append_left _ (List.mem_append_left _ (List.mem_append_left _ (List.mem_append_left _ (List.mem_of_getElem? (i := 8) rfl))))))
theorem lk_X5_copy_fieldLink_RX5_36_RaceWatch_World_cells_LRaceWatch_Kept : (.fieldLink RX5 36 "RaceWatch$World" "cells" "[LRaceWatch$Kept;" : Cond) ∈ wsX5_copy := List.mem_cons_of_mem _ (List.mem_append_left _ (List.mem_append_left _ (List.mem_append_left _ (List.mem_append_left _ (List.mem_append_left _ (List.mem_of_getElem? (i := 9) rfl))))))
theorem lk_X5_copy_fieldLink_RX5_43_RaceWatch_World_log_LRaceWatch_Log : (.fieldLink RX5 43 "RaceWatch$World" "log" "LRaceWatch$Log;" : Cond) ∈ wsX5_copy := List.mem_cons_of_mem _ (List.mem_append_left _ (List.mem_append_left _ (List.mem_append_left _ (List.mem_append_left _ (List.mem_append_left _ (List.mem_of_getElem? (i := 10) rfl))))))
abbrev rmX5_copy : Room := { frames := 3, cells := 0, slots := 0, locals := 103 }
set_option maxHeartbeats 800000 in
set_option maxRecDepth 100000 in
theorem mX5_copy {G : sx_G} (l : Launch) {F : Nat → va_E} {n B C M : Nat} {w : Nat → Int32}  (hB : B + 27 ≤ n) (hC : C + 27 ≤ n) (hd : C + 27 ≤ B ∨ B + 27 ≤ C) (hM : M ≤ 160) (hwf : WFw w M) (hS : WS G F B) (hW : WV G F w M C) : sx_V G l yX5_copy wsX5_copy rmX5_copy [rf G (B), rf G (C)] (n) F (n) (fun F1 => WV G F1 w M B ∧ ∀ j, (j < B ∨ B + 27 ≤ j) → F1 j = F j) := by
  refine sx_enter (cc := cX5_copy) (maxL := 3) (ret := none) (own := RX5) (nm := "copy") (by decide) rfl rfl rfl (Nat.le_of_ble_eq_true rfl) ?_
  intro pp ee ss mm args below meth kc ls Q hQ X hs hP hl
  have hl : lv_has ls 3 [(0, rf G (B)), (1, rf G (C))] := hl
  have hO : ∀ j, j < B ∨ B + 27 ≤ j → F j = F j := fun _ _ => rfl
  obtain ⟨st, ho, ct, cl, cs, kr, hB, h1___B, h2___B, h3___B, h4___B, h5___B, h6___B, h7___B, h8___B, h9___B, hkr, hKS, th, so, wi, lo, lc, rb, rc, rr, m, h18___B, h19___B, h20___B, h21___B, h22___B, h23___B, h24___B, h25___B, h26___B⟩ := hS
  obtain ⟨a00, a01, a02, a03, a04, a06, a07, a08, a09, nr0, h10___B, h11___B⟩ := hKS 0 (by decide)
  rw [show 10 + B + 2 * 0 = 10 + B by omega, show 11 + B + 2 * 0 = 11 + B by omega] at h10___B
  rw [show 11 + B + 2 * 0 = 11 + B by omega] at h11___B
  obtain ⟨a10, a11, a12, a13, a14, a16, a17, a18, a19, nr1, h12___B, h13___B⟩ := hKS 1 (by decide)
  rw [show 10 + B + 2 * 1 = 12 + B by omega, show 11 + B + 2 * 1 = 13 + B by omega] at h12___B
  rw [show 11 + B + 2 * 1 = 13 + B by omega] at h13___B
  obtain ⟨a20, a21, a22, a23, a24, a26, a27, a28, a29, nr2, h14___B, h15___B⟩ := hKS 2 (by decide)
  rw [show 10 + B + 2 * 2 = 14 + B by omega, show 11 + B + 2 * 2 = 15 + B by omega] at h14___B
  rw [show 11 + B + 2 * 2 = 15 + B by omega] at h15___B
  obtain ⟨a30, a31, a32, a33, a34, a36, a37, a38, a39, nr3, h16___B, h17___B⟩ := hKS 3 (by decide)
  rw [show 10 + B + 2 * 3 = 16 + B by omega, show 11 + B + 2 * 3 = 17 + B by omega] at h16___B
  rw [show 11 + B + 2 * 3 = 17 + B by omega] at h17___B
  obtain ⟨st2, ho2, ct2, cl2, cs2, kr2, r4, r6, r8, hC, h1___C, h2___C, h3___C, h4___C, h5___C, h6___C, h7___C, h8___C, h9___C, hkr2, hRV, hKV, ⟨th2, so2, wi2, lo2, lc2, rb2, rc2, rr2, h18___C, h19___C, h20___C, h21___C, h22___C, h23___C, h24___C, h25___C, h26___C, hLV, hRB, hRC⟩, rfl, rfl, rfl⟩ := hW
  obtain ⟨h10___C, nq0, h11___C, hq0⟩ := hKV 0 (by decide)
  rw [show 10 + C + 2 * 0 = 10 + C by omega, show 11 + C + 2 * 0 = 11 + C by omega] at h10___C
  rw [show 11 + C + 2 * 0 = 11 + C by omega] at h11___C
  obtain ⟨h12___C, nq1, h13___C, hq1⟩ := hKV 1 (by decide)
  rw [show 10 + C + 2 * 1 = 12 + C by omega, show 11 + C + 2 * 1 = 13 + C by omega] at h12___C
  rw [show 11 + C + 2 * 1 = 13 + C by omega] at h13___C
  obtain ⟨h14___C, nq2, h15___C, hq2⟩ := hKV 2 (by decide)
  rw [show 10 + C + 2 * 2 = 14 + C by omega, show 11 + C + 2 * 2 = 15 + C by omega] at h14___C
  rw [show 11 + C + 2 * 2 = 15 + C by omega] at h15___C
  obtain ⟨h16___C, nq3, h17___C, hq3⟩ := hKV 3 (by decide)
  rw [show 10 + C + 2 * 3 = 16 + C by omega, show 11 + C + 2 * 3 = 17 + C by omega] at h16___C
  rw [show 11 + C + 2 * 3 = 17 + C by omega] at h17___C
  refine lv_aload_n X.1.1 X.1.2.1 dX5_copy_0 rfl (lv_at hl 1 rfl) ?_
  refine sx_get X hP in_X5_copy_X5 hC (by omega) rfl 0 (by decide) lk_X5_copy_fieldLink_RX5_9_RaceWatch_World_states_I rfl dX5_copy_1 ?_
  refine lv_iconst (v := nI 0) X.1.1 X.1.2.1 dX5_copy_4 (by decide) ?_
  refine lv_aload_n X.1.1 X.1.2.1 dX5_copy_5 rfl (lv_at hl 0 rfl) ?_
  refine sx_get X hP in_X5_copy_X5 hB (by omega) rfl 0 (by decide) lk_X5_copy_fieldLink_RX5_9_RaceWatch_World_states_I rfl dX5_copy_6 ?_
  refine lv_iconst (v := nI 0) X.1.1 X.1.2.1 dX5_copy_9 (by decide) ?_
  refine lv_iconst (v := nI 4) X.1.1 X.1.2.1 dX5_copy_10 (by decide) ?_
  refine sx_copy X hP hl.1 lk_X5_copy_methodLink_RX5_65_arraycopyName lk_X5_copy_native_arraycopyName lk_X5_copy_static_arraycopyName lk_X5_copy_initialized_java_lang_System h1___C h1___B (by omega) (by omega) (0) (0) (4) (by decide) (by decide) (by decide) (by decide) (Nat.le_of_ble_eq_true rfl) (Nat.le_of_ble_eq_true rfl) dX5_copy_11 (fun F1 H1 l1 e1 o1 hP => ?_)
  obtain ⟨w1, hw1⟩ : ∃ z, z = va_cpy st2 st (0) (0) (4) := ⟨_, rfl⟩
  rw [← hw1] at e1
  have h1___B : F1 (1 + B) = rI G (4) (w1) := e1
  have hB := (o1 (B) (by omega)).trans hB
  have h2___B := (o1 (2 + B) (by omega)).trans h2___B
  have h3___B := (o1 (3 + B) (by omega)).trans h3___B
  have h4___B := (o1 (4 + B) (by omega)).trans h4___B
  have h5___B := (o1 (5 + B) (by omega)).trans h5___B
  have h6___B := (o1 (6 + B) (by omega)).trans h6___B
  have h7___B := (o1 (7 + B) (by omega)).trans h7___B
  have h8___B := (o1 (8 + B) (by omega)).trans h8___B
  have h9___B := (o1 (9 + B) (by omega)).trans h9___B
  have h18___B := (o1 (18 + B) (by omega)).trans h18___B
  have h19___B := (o1 (19 + B) (by omega)).trans h19___B
  have h20___B := (o1 (20 + B) (by omega)).trans h20___B
  have h21___B := (o1 (21 + B) (by omega)).trans h21___B
  have h22___B := (o1 (22 + B) (by omega)).trans h22___B
  have h23___B := (o1 (23 + B) (by omega)).trans h23___B
  have h24___B := (o1 (24 + B) (by omega)).trans h24___B
  have h25___B := (o1 (25 + B) (by omega)).trans h25___B
  have h26___B := (o1 (26 + B) (by omega)).trans h26___B
  have h10___B := (o1 (10 + B) (by omega)).trans h10___B
  have h11___B := (o1 (11 + B) (by omega)).trans h11___B
  have h12___B := (o1 (12 + B) (by omega)).trans h12___B
  have h13___B := (o1 (13 + B) (by omega)).trans h13___B
  have h14___B := (o1 (14 + B) (by omega)).trans h14___B
  have h15___B := (o1 (15 + B) (by omega)).trans h15___B
  have h16___B := (o1 (16 + B) (by omega)).trans h16___B
  have h17___B := (o1 (17 + B) (by omega)).trans h17___B
  have hC := (o1 (C) (by omega)).trans hC
  have h1___C := (o1 (1 + C) (by omega)).trans h1___C
  have h2___C := (o1 (2 + C) (by omega)).trans h2___C
  have h3___C := (o1 (3 + C) (by omega)).trans h3___C
  have h4___C := (o1 (4 + C) (by omega)).trans h4___C
  have h5___C := (o1 (5 + C) (by omega)).trans h5___C
  have h6___C := (o1 (6 + C) (by omega)).trans h6___C
  have h7___C := (o1 (7 + C) (by omega)).trans h7___C
  have h8___C := (o1 (8 + C) (by omega)).trans h8___C
  have h9___C := (o1 (9 + C) (by omega)).trans h9___C
  have h18___C := (o1 (18 + C) (by omega)).trans h18___C
  have h19___C := (o1 (19 + C) (by omega)).trans h19___C
  have h20___C := (o1 (20 + C) (by omega)).trans h20___C
  have h21___C := (o1 (21 + C) (by omega)).trans h21___C
  have h22___C := (o1 (22 + C) (by omega)).trans h22___C
  have h23___C := (o1 (23 + C) (by omega)).trans h23___C
  have h24___C := (o1 (24 + C) (by omega)).trans h24___C
  have h25___C := (o1 (25 + C) (by omega)).trans h25___C
  have h26___C := (o1 (26 + C) (by omega)).trans h26___C
  have h10___C := (o1 (10 + C) (by omega)).trans h10___C
  have h11___C := (o1 (11 + C) (by omega)).trans h11___C
  have h12___C := (o1 (12 + C) (by omega)).trans h12___C
  have h13___C := (o1 (13 + C) (by omega)).trans h13___C
  have h14___C := (o1 (14 + C) (by omega)).trans h14___C
  have h15___C := (o1 (15 + C) (by omega)).trans h15___C
  have h16___C := (o1 (16 + C) (by omega)).trans h16___C
  have h17___C := (o1 (17 + C) (by omega)).trans h17___C
  have hO : ∀ j, j < B ∨ B + 27 ≤ j → F1 j = F j := fun j hj => (o1 j (by omega)).trans (hO j hj)
  refine lv_aload_n X.1.1 X.1.2.1 dX5_copy_14 rfl (lv_at hl 1 rfl) ?_
  refine sx_get X hP in_X5_copy_X5 hC (by omega) rfl 1 (by decide) lk_X5_copy_fieldLink_RX5_15_RaceWatch_World_holders_I rfl dX5_copy_15 ?_
  refine lv_iconst (v := nI 0) X.1.1 X.1.2.1 dX5_copy_18 (by decide) ?_
  refine lv_aload_n X.1.1 X.1.2.1 dX5_copy_19 rfl (lv_at hl 0 rfl) ?_
  refine sx_get X hP in_X5_copy_X5 hB (by omega) rfl 1 (by decide) lk_X5_copy_fieldLink_RX5_15_RaceWatch_World_holders_I rfl dX5_copy_20 ?_
  refine lv_iconst (v := nI 0) X.1.1 X.1.2.1 dX5_copy_23 (by decide) ?_
  refine lv_iconst (v := nI 3) X.1.1 X.1.2.1 dX5_copy_24 (by decide) ?_
  refine sx_copy X hP hl.1 lk_X5_copy_methodLink_RX5_65_arraycopyName lk_X5_copy_native_arraycopyName lk_X5_copy_static_arraycopyName lk_X5_copy_initialized_java_lang_System h2___C h2___B (by omega) (by omega) (0) (0) (3) (by decide) (by decide) (by decide) (by decide) (Nat.le_of_ble_eq_true rfl) (Nat.le_of_ble_eq_true rfl) dX5_copy_25 (fun F2 H2 l2 e2 o2 hP => ?_)
  obtain ⟨w2, hw2⟩ : ∃ z, z = va_cpy ho2 ho (0) (0) (3) := ⟨_, rfl⟩
  rw [← hw2] at e2
  have h2___B : F2 (2 + B) = rI G (3) (w2) := e2
  have hB := (o2 (B) (by omega)).trans hB
  have h1___B := (o2 (1 + B) (by omega)).trans h1___B
  have h3___B := (o2 (3 + B) (by omega)).trans h3___B
  have h4___B := (o2 (4 + B) (by omega)).trans h4___B
  have h5___B := (o2 (5 + B) (by omega)).trans h5___B
  have h6___B := (o2 (6 + B) (by omega)).trans h6___B
  have h7___B := (o2 (7 + B) (by omega)).trans h7___B
  have h8___B := (o2 (8 + B) (by omega)).trans h8___B
  have h9___B := (o2 (9 + B) (by omega)).trans h9___B
  have h18___B := (o2 (18 + B) (by omega)).trans h18___B
  have h19___B := (o2 (19 + B) (by omega)).trans h19___B
  have h20___B := (o2 (20 + B) (by omega)).trans h20___B
  have h21___B := (o2 (21 + B) (by omega)).trans h21___B
  have h22___B := (o2 (22 + B) (by omega)).trans h22___B
  have h23___B := (o2 (23 + B) (by omega)).trans h23___B
  have h24___B := (o2 (24 + B) (by omega)).trans h24___B
  have h25___B := (o2 (25 + B) (by omega)).trans h25___B
  have h26___B := (o2 (26 + B) (by omega)).trans h26___B
  have h10___B := (o2 (10 + B) (by omega)).trans h10___B
  have h11___B := (o2 (11 + B) (by omega)).trans h11___B
  have h12___B := (o2 (12 + B) (by omega)).trans h12___B
  have h13___B := (o2 (13 + B) (by omega)).trans h13___B
  have h14___B := (o2 (14 + B) (by omega)).trans h14___B
  have h15___B := (o2 (15 + B) (by omega)).trans h15___B
  have h16___B := (o2 (16 + B) (by omega)).trans h16___B
  have h17___B := (o2 (17 + B) (by omega)).trans h17___B
  have hC := (o2 (C) (by omega)).trans hC
  have h1___C := (o2 (1 + C) (by omega)).trans h1___C
  have h2___C := (o2 (2 + C) (by omega)).trans h2___C
  have h3___C := (o2 (3 + C) (by omega)).trans h3___C
  have h4___C := (o2 (4 + C) (by omega)).trans h4___C
  have h5___C := (o2 (5 + C) (by omega)).trans h5___C
  have h6___C := (o2 (6 + C) (by omega)).trans h6___C
  have h7___C := (o2 (7 + C) (by omega)).trans h7___C
  have h8___C := (o2 (8 + C) (by omega)).trans h8___C
  have h9___C := (o2 (9 + C) (by omega)).trans h9___C
  have h18___C := (o2 (18 + C) (by omega)).trans h18___C
  have h19___C := (o2 (19 + C) (by omega)).trans h19___C
  have h20___C := (o2 (20 + C) (by omega)).trans h20___C
  have h21___C := (o2 (21 + C) (by omega)).trans h21___C
  have h22___C := (o2 (22 + C) (by omega)).trans h22___C
  have h23___C := (o2 (23 + C) (by omega)).trans h23___C
  have h24___C := (o2 (24 + C) (by omega)).trans h24___C
  have h25___C := (o2 (25 + C) (by omega)).trans h25___C
  have h26___C := (o2 (26 + C) (by omega)).trans h26___C
  have h10___C := (o2 (10 + C) (by omega)).trans h10___C
  have h11___C := (o2 (11 + C) (by omega)).trans h11___C
  have h12___C := (o2 (12 + C) (by omega)).trans h12___C
  have h13___C := (o2 (13 + C) (by omega)).trans h13___C
  have h14___C := (o2 (14 + C) (by omega)).trans h14___C
  have h15___C := (o2 (15 + C) (by omega)).trans h15___C
  have h16___C := (o2 (16 + C) (by omega)).trans h16___C
  have h17___C := (o2 (17 + C) (by omega)).trans h17___C
  have hO : ∀ j, j < B ∨ B + 27 ≤ j → F2 j = F j := fun j hj => (o2 j (by omega)).trans (hO j hj)
  refine lv_aload_n X.1.1 X.1.2.1 dX5_copy_28 rfl (lv_at hl 0 rfl) ?_
  refine sx_get X hP in_X5_copy_X5 hB (by omega) rfl 2 (by decide) lk_X5_copy_fieldLink_RX5_23_RaceWatch_World_ofThreads_LRaceWatch_Clocks rfl dX5_copy_29 ?_
  refine lv_aload_n X.1.1 X.1.2.1 dX5_copy_32 rfl (lv_at hl 1 rfl) ?_
  refine sx_get X hP in_X5_copy_X5 hC (by omega) rfl 2 (by decide) lk_X5_copy_fieldLink_RX5_23_RaceWatch_World_ofThreads_LRaceWatch_Clocks rfl dX5_copy_33 ?_
  refine lv_iconst (v := nI 4) X.1.1 X.1.2.1 dX5_copy_36 (by decide) ?_
  refine sx_cvV (As := [rf G (3 + C), .int (nI 4)]) (rest := []) X (mX1_copyRows l (ci := 3 + B) (cj := 4 + B) (ck := 3 + C) (cl := 4 + C) (L := 16) (M := 16) (cnt := 4) (by omega) (by omega) (by omega) (by omega) (by decide) (by decide) (by omega) (by omega) (by omega) (by omega) (by omega) (by omega) h3___B h4___B h3___C h4___C) gX5_copy_X1_copyRows rfl yv_X1_copyRows ⟨Nat.le_of_ble_eq_true rfl, Nat.le_of_ble_eq_true rfl⟩ h3___B (by omega) rfl rfl hl.1 rfl (Nat.le_of_ble_eq_true rfl) dX5_copy_37 ⟨Nat.le_of_ble_eq_true rfl, Nat.le_of_ble_eq_true rfl⟩ hs rfl hP (fun F3 H3 l3 hp hP => ?_)
  obtain ⟨e3, o3⟩ := hp
  obtain ⟨w3, hw3⟩ : ∃ z, z = va_cpy ct2 ct 0 0 (4 * 4) := ⟨_, rfl⟩
  rw [← hw3] at e3
  have h4___B : F3 (4 + B) = rI G (16) (w3) := e3
  have hB := (o3 (B) (by omega)).trans hB
  have h1___B := (o3 (1 + B) (by omega)).trans h1___B
  have h2___B := (o3 (2 + B) (by omega)).trans h2___B
  have h3___B := (o3 (3 + B) (by omega)).trans h3___B
  have h5___B := (o3 (5 + B) (by omega)).trans h5___B
  have h6___B := (o3 (6 + B) (by omega)).trans h6___B
  have h7___B := (o3 (7 + B) (by omega)).trans h7___B
  have h8___B := (o3 (8 + B) (by omega)).trans h8___B
  have h9___B := (o3 (9 + B) (by omega)).trans h9___B
  have h18___B := (o3 (18 + B) (by omega)).trans h18___B
  have h19___B := (o3 (19 + B) (by omega)).trans h19___B
  have h20___B := (o3 (20 + B) (by omega)).trans h20___B
  have h21___B := (o3 (21 + B) (by omega)).trans h21___B
  have h22___B := (o3 (22 + B) (by omega)).trans h22___B
  have h23___B := (o3 (23 + B) (by omega)).trans h23___B
  have h24___B := (o3 (24 + B) (by omega)).trans h24___B
  have h25___B := (o3 (25 + B) (by omega)).trans h25___B
  have h26___B := (o3 (26 + B) (by omega)).trans h26___B
  have h10___B := (o3 (10 + B) (by omega)).trans h10___B
  have h11___B := (o3 (11 + B) (by omega)).trans h11___B
  have h12___B := (o3 (12 + B) (by omega)).trans h12___B
  have h13___B := (o3 (13 + B) (by omega)).trans h13___B
  have h14___B := (o3 (14 + B) (by omega)).trans h14___B
  have h15___B := (o3 (15 + B) (by omega)).trans h15___B
  have h16___B := (o3 (16 + B) (by omega)).trans h16___B
  have h17___B := (o3 (17 + B) (by omega)).trans h17___B
  have hC := (o3 (C) (by omega)).trans hC
  have h1___C := (o3 (1 + C) (by omega)).trans h1___C
  have h2___C := (o3 (2 + C) (by omega)).trans h2___C
  have h3___C := (o3 (3 + C) (by omega)).trans h3___C
  have h4___C := (o3 (4 + C) (by omega)).trans h4___C
  have h5___C := (o3 (5 + C) (by omega)).trans h5___C
  have h6___C := (o3 (6 + C) (by omega)).trans h6___C
  have h7___C := (o3 (7 + C) (by omega)).trans h7___C
  have h8___C := (o3 (8 + C) (by omega)).trans h8___C
  have h9___C := (o3 (9 + C) (by omega)).trans h9___C
  have h18___C := (o3 (18 + C) (by omega)).trans h18___C
  have h19___C := (o3 (19 + C) (by omega)).trans h19___C
  have h20___C := (o3 (20 + C) (by omega)).trans h20___C
  have h21___C := (o3 (21 + C) (by omega)).trans h21___C
  have h22___C := (o3 (22 + C) (by omega)).trans h22___C
  have h23___C := (o3 (23 + C) (by omega)).trans h23___C
  have h24___C := (o3 (24 + C) (by omega)).trans h24___C
  have h25___C := (o3 (25 + C) (by omega)).trans h25___C
  have h26___C := (o3 (26 + C) (by omega)).trans h26___C
  have h10___C := (o3 (10 + C) (by omega)).trans h10___C
  have h11___C := (o3 (11 + C) (by omega)).trans h11___C
  have h12___C := (o3 (12 + C) (by omega)).trans h12___C
  have h13___C := (o3 (13 + C) (by omega)).trans h13___C
  have h14___C := (o3 (14 + C) (by omega)).trans h14___C
  have h15___C := (o3 (15 + C) (by omega)).trans h15___C
  have h16___C := (o3 (16 + C) (by omega)).trans h16___C
  have h17___C := (o3 (17 + C) (by omega)).trans h17___C
  have hO : ∀ j, j < B ∨ B + 27 ≤ j → F3 j = F j := fun j hj => (o3 j (by omega)).trans (hO j hj)
  refine lv_aload_n X.1.1 X.1.2.1 dX5_copy_40 rfl (lv_at hl 0 rfl) ?_
  refine sx_get X hP in_X5_copy_X5 hB (by omega) rfl 3 (by decide) lk_X5_copy_fieldLink_RX5_27_RaceWatch_World_ofLocks_LRaceWatch_Clocks rfl dX5_copy_41 ?_
  refine lv_aload_n X.1.1 X.1.2.1 dX5_copy_44 rfl (lv_at hl 1 rfl) ?_
  refine sx_get X hP in_X5_copy_X5 hC (by omega) rfl 3 (by decide) lk_X5_copy_fieldLink_RX5_27_RaceWatch_World_ofLocks_LRaceWatch_Clocks rfl dX5_copy_45 ?_
  refine lv_iconst (v := nI 3) X.1.1 X.1.2.1 dX5_copy_48 (by decide) ?_
  refine sx_cvV (As := [rf G (5 + C), .int (nI 3)]) (rest := []) X (mX1_copyRows l (ci := 5 + B) (cj := 6 + B) (ck := 5 + C) (cl := 6 + C) (L := 12) (M := 12) (cnt := 3) (by omega) (by omega) (by omega) (by omega) (by decide) (by decide) (by omega) (by omega) (by omega) (by omega) (by omega) (by omega) h5___B h6___B h5___C h6___C) gX5_copy_X1_copyRows rfl yv_X1_copyRows ⟨Nat.le_of_ble_eq_true rfl, Nat.le_of_ble_eq_true rfl⟩ h5___B (by omega) rfl rfl hl.1 rfl (Nat.le_of_ble_eq_true rfl) dX5_copy_49 ⟨Nat.le_of_ble_eq_true rfl, Nat.le_of_ble_eq_true rfl⟩ hs rfl hP (fun F4 H4 l4 hp hP => ?_)
  obtain ⟨e4, o4⟩ := hp
  obtain ⟨w4, hw4⟩ : ∃ z, z = va_cpy cl2 cl 0 0 (4 * 3) := ⟨_, rfl⟩
  rw [← hw4] at e4
  have h6___B : F4 (6 + B) = rI G (12) (w4) := e4
  have hB := (o4 (B) (by omega)).trans hB
  have h1___B := (o4 (1 + B) (by omega)).trans h1___B
  have h2___B := (o4 (2 + B) (by omega)).trans h2___B
  have h3___B := (o4 (3 + B) (by omega)).trans h3___B
  have h4___B := (o4 (4 + B) (by omega)).trans h4___B
  have h5___B := (o4 (5 + B) (by omega)).trans h5___B
  have h7___B := (o4 (7 + B) (by omega)).trans h7___B
  have h8___B := (o4 (8 + B) (by omega)).trans h8___B
  have h9___B := (o4 (9 + B) (by omega)).trans h9___B
  have h18___B := (o4 (18 + B) (by omega)).trans h18___B
  have h19___B := (o4 (19 + B) (by omega)).trans h19___B
  have h20___B := (o4 (20 + B) (by omega)).trans h20___B
  have h21___B := (o4 (21 + B) (by omega)).trans h21___B
  have h22___B := (o4 (22 + B) (by omega)).trans h22___B
  have h23___B := (o4 (23 + B) (by omega)).trans h23___B
  have h24___B := (o4 (24 + B) (by omega)).trans h24___B
  have h25___B := (o4 (25 + B) (by omega)).trans h25___B
  have h26___B := (o4 (26 + B) (by omega)).trans h26___B
  have h10___B := (o4 (10 + B) (by omega)).trans h10___B
  have h11___B := (o4 (11 + B) (by omega)).trans h11___B
  have h12___B := (o4 (12 + B) (by omega)).trans h12___B
  have h13___B := (o4 (13 + B) (by omega)).trans h13___B
  have h14___B := (o4 (14 + B) (by omega)).trans h14___B
  have h15___B := (o4 (15 + B) (by omega)).trans h15___B
  have h16___B := (o4 (16 + B) (by omega)).trans h16___B
  have h17___B := (o4 (17 + B) (by omega)).trans h17___B
  have hC := (o4 (C) (by omega)).trans hC
  have h1___C := (o4 (1 + C) (by omega)).trans h1___C
  have h2___C := (o4 (2 + C) (by omega)).trans h2___C
  have h3___C := (o4 (3 + C) (by omega)).trans h3___C
  have h4___C := (o4 (4 + C) (by omega)).trans h4___C
  have h5___C := (o4 (5 + C) (by omega)).trans h5___C
  have h6___C := (o4 (6 + C) (by omega)).trans h6___C
  have h7___C := (o4 (7 + C) (by omega)).trans h7___C
  have h8___C := (o4 (8 + C) (by omega)).trans h8___C
  have h9___C := (o4 (9 + C) (by omega)).trans h9___C
  have h18___C := (o4 (18 + C) (by omega)).trans h18___C
  have h19___C := (o4 (19 + C) (by omega)).trans h19___C
  have h20___C := (o4 (20 + C) (by omega)).trans h20___C
  have h21___C := (o4 (21 + C) (by omega)).trans h21___C
  have h22___C := (o4 (22 + C) (by omega)).trans h22___C
  have h23___C := (o4 (23 + C) (by omega)).trans h23___C
  have h24___C := (o4 (24 + C) (by omega)).trans h24___C
  have h25___C := (o4 (25 + C) (by omega)).trans h25___C
  have h26___C := (o4 (26 + C) (by omega)).trans h26___C
  have h10___C := (o4 (10 + C) (by omega)).trans h10___C
  have h11___C := (o4 (11 + C) (by omega)).trans h11___C
  have h12___C := (o4 (12 + C) (by omega)).trans h12___C
  have h13___C := (o4 (13 + C) (by omega)).trans h13___C
  have h14___C := (o4 (14 + C) (by omega)).trans h14___C
  have h15___C := (o4 (15 + C) (by omega)).trans h15___C
  have h16___C := (o4 (16 + C) (by omega)).trans h16___C
  have h17___C := (o4 (17 + C) (by omega)).trans h17___C
  have hO : ∀ j, j < B ∨ B + 27 ≤ j → F4 j = F j := fun j hj => (o4 j (by omega)).trans (hO j hj)
  refine lv_aload_n X.1.1 X.1.2.1 dX5_copy_52 rfl (lv_at hl 0 rfl) ?_
  refine sx_get X hP in_X5_copy_X5 hB (by omega) rfl 4 (by decide) lk_X5_copy_fieldLink_RX5_30_RaceWatch_World_ofSeenCells_LRaceWatch_Clocks rfl dX5_copy_53 ?_
  refine lv_aload_n X.1.1 X.1.2.1 dX5_copy_56 rfl (lv_at hl 1 rfl) ?_
  refine sx_get X hP in_X5_copy_X5 hC (by omega) rfl 4 (by decide) lk_X5_copy_fieldLink_RX5_30_RaceWatch_World_ofSeenCells_LRaceWatch_Clocks rfl dX5_copy_57 ?_
  refine lv_iconst (v := nI 2) X.1.1 X.1.2.1 dX5_copy_60 (by decide) ?_
  refine sx_cvV (As := [rf G (7 + C), .int (nI 2)]) (rest := []) X (mX1_copyRows l (ci := 7 + B) (cj := 8 + B) (ck := 7 + C) (cl := 8 + C) (L := 8) (M := 8) (cnt := 2) (by omega) (by omega) (by omega) (by omega) (by decide) (by decide) (by omega) (by omega) (by omega) (by omega) (by omega) (by omega) h7___B h8___B h7___C h8___C) gX5_copy_X1_copyRows rfl yv_X1_copyRows ⟨Nat.le_of_ble_eq_true rfl, Nat.le_of_ble_eq_true rfl⟩ h7___B (by omega) rfl rfl hl.1 rfl (Nat.le_of_ble_eq_true rfl) dX5_copy_61 ⟨Nat.le_of_ble_eq_true rfl, Nat.le_of_ble_eq_true rfl⟩ hs rfl hP (fun F5 H5 l5 hp hP => ?_)
  obtain ⟨e5, o5⟩ := hp
  obtain ⟨w5, hw5⟩ : ∃ z, z = va_cpy cs2 cs 0 0 (4 * 2) := ⟨_, rfl⟩
  rw [← hw5] at e5
  have h8___B : F5 (8 + B) = rI G (8) (w5) := e5
  have hB := (o5 (B) (by omega)).trans hB
  have h1___B := (o5 (1 + B) (by omega)).trans h1___B
  have h2___B := (o5 (2 + B) (by omega)).trans h2___B
  have h3___B := (o5 (3 + B) (by omega)).trans h3___B
  have h4___B := (o5 (4 + B) (by omega)).trans h4___B
  have h5___B := (o5 (5 + B) (by omega)).trans h5___B
  have h6___B := (o5 (6 + B) (by omega)).trans h6___B
  have h7___B := (o5 (7 + B) (by omega)).trans h7___B
  have h9___B := (o5 (9 + B) (by omega)).trans h9___B
  have h18___B := (o5 (18 + B) (by omega)).trans h18___B
  have h19___B := (o5 (19 + B) (by omega)).trans h19___B
  have h20___B := (o5 (20 + B) (by omega)).trans h20___B
  have h21___B := (o5 (21 + B) (by omega)).trans h21___B
  have h22___B := (o5 (22 + B) (by omega)).trans h22___B
  have h23___B := (o5 (23 + B) (by omega)).trans h23___B
  have h24___B := (o5 (24 + B) (by omega)).trans h24___B
  have h25___B := (o5 (25 + B) (by omega)).trans h25___B
  have h26___B := (o5 (26 + B) (by omega)).trans h26___B
  have h10___B := (o5 (10 + B) (by omega)).trans h10___B
  have h11___B := (o5 (11 + B) (by omega)).trans h11___B
  have h12___B := (o5 (12 + B) (by omega)).trans h12___B
  have h13___B := (o5 (13 + B) (by omega)).trans h13___B
  have h14___B := (o5 (14 + B) (by omega)).trans h14___B
  have h15___B := (o5 (15 + B) (by omega)).trans h15___B
  have h16___B := (o5 (16 + B) (by omega)).trans h16___B
  have h17___B := (o5 (17 + B) (by omega)).trans h17___B
  have hC := (o5 (C) (by omega)).trans hC
  have h1___C := (o5 (1 + C) (by omega)).trans h1___C
  have h2___C := (o5 (2 + C) (by omega)).trans h2___C
  have h3___C := (o5 (3 + C) (by omega)).trans h3___C
  have h4___C := (o5 (4 + C) (by omega)).trans h4___C
  have h5___C := (o5 (5 + C) (by omega)).trans h5___C
  have h6___C := (o5 (6 + C) (by omega)).trans h6___C
  have h7___C := (o5 (7 + C) (by omega)).trans h7___C
  have h8___C := (o5 (8 + C) (by omega)).trans h8___C
  have h9___C := (o5 (9 + C) (by omega)).trans h9___C
  have h18___C := (o5 (18 + C) (by omega)).trans h18___C
  have h19___C := (o5 (19 + C) (by omega)).trans h19___C
  have h20___C := (o5 (20 + C) (by omega)).trans h20___C
  have h21___C := (o5 (21 + C) (by omega)).trans h21___C
  have h22___C := (o5 (22 + C) (by omega)).trans h22___C
  have h23___C := (o5 (23 + C) (by omega)).trans h23___C
  have h24___C := (o5 (24 + C) (by omega)).trans h24___C
  have h25___C := (o5 (25 + C) (by omega)).trans h25___C
  have h26___C := (o5 (26 + C) (by omega)).trans h26___C
  have h10___C := (o5 (10 + C) (by omega)).trans h10___C
  have h11___C := (o5 (11 + C) (by omega)).trans h11___C
  have h12___C := (o5 (12 + C) (by omega)).trans h12___C
  have h13___C := (o5 (13 + C) (by omega)).trans h13___C
  have h14___C := (o5 (14 + C) (by omega)).trans h14___C
  have h15___C := (o5 (15 + C) (by omega)).trans h15___C
  have h16___C := (o5 (16 + C) (by omega)).trans h16___C
  have h17___C := (o5 (17 + C) (by omega)).trans h17___C
  have hO : ∀ j, j < B ∨ B + 27 ≤ j → F5 j = F j := fun j hj => (o5 j (by omega)).trans (hO j hj)
  refine lv_iconst (v := nI 0) X.1.1 X.1.2.1 dX5_copy_64 (by decide) ?_
  refine lv_istore_n (lv' := [(2, .int (nI 0)), (0, rf G (B)), (1, rf G (C))]) X.1.1 X.1.2.1 dX5_copy_65 rfl hl (by decide) rfl (fun ls hl => ?_)
  refine lv_iload_n X.1.1 X.1.2.1 dX5_copy_66 rfl (lv_at hl 0 rfl) ?_
  refine lv_iconst (v := nI 4) X.1.1 X.1.2.1 dX5_copy_67 (by decide) ?_
  refine sx_icmp_ge X (by decide) (by decide) (tgt := 92) dX5_copy_68 (by decide) (fun h => absurd h (by decide)) (fun _ => ?_)
  refine lv_aload_n X.1.1 X.1.2.1 dX5_copy_71 rfl (lv_at hl 1 rfl) ?_
  refine sx_get X hP in_X5_copy_X5 hB (by omega) rfl 5 (by decide) lk_X5_copy_fieldLink_RX5_36_RaceWatch_World_cells_LRaceWatch_Kept rfl dX5_copy_72 ?_
  refine lv_iload_n X.1.1 X.1.2.1 dX5_copy_75 rfl (lv_at hl 0 rfl) ?_
  refine sx_kald X hP h9___B (by omega) (0) (by decide) (by decide) (q := 10 + B) ((hkr _ (by omega)).trans (congrArg some (by omega))) dX5_copy_76 ?_
  refine lv_aload_n X.1.1 X.1.2.1 dX5_copy_77 rfl (lv_at hl 2 rfl) ?_
  refine sx_get X hP in_X5_copy_X5 hC (by omega) rfl 5 (by decide) lk_X5_copy_fieldLink_RX5_36_RaceWatch_World_cells_LRaceWatch_Kept rfl dX5_copy_78 ?_
  refine lv_iload_n X.1.1 X.1.2.1 dX5_copy_81 rfl (lv_at hl 0 rfl) ?_
  refine sx_kald X hP h9___C (by omega) (0) (by decide) (by decide) (q := 10 + C) ((hkr2 _ (by omega)).trans (congrArg some (by omega))) dX5_copy_82 ?_
  have hkb0 := kb_ok ((hwf.2.2.2.1 0 (by decide)).2.2.elim Or.inl (fun q => Or.inr q.1))
  refine sx_cvV (As := [rf G (10 + C)]) (rest := []) X (mX2_copy l (ki := 10 + B) (kj := 11 + B) (pi := 10 + C) (pj := 11 + C) (by omega) (by omega) (by omega) (by omega) (by omega) (by omega) (by omega) (by omega) (by omega) (by omega) hkb0.1 hkb0.2 h10___B h11___B h10___C h11___C) gX5_copy_X2_copy rfl yv_X2_copy ⟨Nat.le_of_ble_eq_true rfl, Nat.le_of_ble_eq_true rfl⟩ h10___B (by omega) rfl rfl hl.1 rfl (Nat.le_of_ble_eq_true rfl) dX5_copy_83 ⟨Nat.le_of_ble_eq_true rfl, Nat.le_of_ble_eq_true rfl⟩ hs rfl hP (fun F6 H6 l6 hp hP => ?_)
  obtain ⟨e6, ⟨w6, f6, hz6⟩, o6⟩ := hp
  have hB := (o6 (B) (by omega)).trans hB
  have h1___B := (o6 (1 + B) (by omega)).trans h1___B
  have h2___B := (o6 (2 + B) (by omega)).trans h2___B
  have h3___B := (o6 (3 + B) (by omega)).trans h3___B
  have h4___B := (o6 (4 + B) (by omega)).trans h4___B
  have h5___B := (o6 (5 + B) (by omega)).trans h5___B
  have h6___B := (o6 (6 + B) (by omega)).trans h6___B
  have h7___B := (o6 (7 + B) (by omega)).trans h7___B
  have h8___B := (o6 (8 + B) (by omega)).trans h8___B
  have h9___B := (o6 (9 + B) (by omega)).trans h9___B
  have h18___B := (o6 (18 + B) (by omega)).trans h18___B
  have h19___B := (o6 (19 + B) (by omega)).trans h19___B
  have h20___B := (o6 (20 + B) (by omega)).trans h20___B
  have h21___B := (o6 (21 + B) (by omega)).trans h21___B
  have h22___B := (o6 (22 + B) (by omega)).trans h22___B
  have h23___B := (o6 (23 + B) (by omega)).trans h23___B
  have h24___B := (o6 (24 + B) (by omega)).trans h24___B
  have h25___B := (o6 (25 + B) (by omega)).trans h25___B
  have h26___B := (o6 (26 + B) (by omega)).trans h26___B
  have h10___B : F6 (10 + B) = ob 2 ([.int (w (43 + 12 * 0)), .int (w (44 + 12 * 0)), .int (w (45 + 12 * 0)), .int (w (46 + 12 * 0)), .int (w (47 + 12 * 0)), rf G (11 + B), .int (w (52 + 12 * 0)), .int (w (53 + 12 * 0)), .int (w (54 + 12 * 0)), .int (gdF w 0 M)]) := e6
  have h11___B : F6 (11 + B) = rI G (4) (w6) := f6
  have h12___B := (o6 (12 + B) (by omega)).trans h12___B
  have h13___B := (o6 (13 + B) (by omega)).trans h13___B
  have h14___B := (o6 (14 + B) (by omega)).trans h14___B
  have h15___B := (o6 (15 + B) (by omega)).trans h15___B
  have h16___B := (o6 (16 + B) (by omega)).trans h16___B
  have h17___B := (o6 (17 + B) (by omega)).trans h17___B
  have hC := (o6 (C) (by omega)).trans hC
  have h1___C := (o6 (1 + C) (by omega)).trans h1___C
  have h2___C := (o6 (2 + C) (by omega)).trans h2___C
  have h3___C := (o6 (3 + C) (by omega)).trans h3___C
  have h4___C := (o6 (4 + C) (by omega)).trans h4___C
  have h5___C := (o6 (5 + C) (by omega)).trans h5___C
  have h6___C := (o6 (6 + C) (by omega)).trans h6___C
  have h7___C := (o6 (7 + C) (by omega)).trans h7___C
  have h8___C := (o6 (8 + C) (by omega)).trans h8___C
  have h9___C := (o6 (9 + C) (by omega)).trans h9___C
  have h18___C := (o6 (18 + C) (by omega)).trans h18___C
  have h19___C := (o6 (19 + C) (by omega)).trans h19___C
  have h20___C := (o6 (20 + C) (by omega)).trans h20___C
  have h21___C := (o6 (21 + C) (by omega)).trans h21___C
  have h22___C := (o6 (22 + C) (by omega)).trans h22___C
  have h23___C := (o6 (23 + C) (by omega)).trans h23___C
  have h24___C := (o6 (24 + C) (by omega)).trans h24___C
  have h25___C := (o6 (25 + C) (by omega)).trans h25___C
  have h26___C := (o6 (26 + C) (by omega)).trans h26___C
  have h10___C := (o6 (10 + C) (by omega)).trans h10___C
  have h11___C := (o6 (11 + C) (by omega)).trans h11___C
  have h12___C := (o6 (12 + C) (by omega)).trans h12___C
  have h13___C := (o6 (13 + C) (by omega)).trans h13___C
  have h14___C := (o6 (14 + C) (by omega)).trans h14___C
  have h15___C := (o6 (15 + C) (by omega)).trans h15___C
  have h16___C := (o6 (16 + C) (by omega)).trans h16___C
  have h17___C := (o6 (17 + C) (by omega)).trans h17___C
  have hO : ∀ j, j < B ∨ B + 27 ≤ j → F6 j = F j := fun j hj => (o6 j (by omega)).trans (hO j hj)
  refine lv_iinc (v := (nI (1))) (lv' := [(2, .int (nI 1)), (0, rf G (B)), (1, rf G (C))]) X.1.1 X.1.2.1 dX5_copy_86 hl (k := 0) rfl (by decide) (by decide) rfl (fun ls hl => ?_)
  refine lv_goto (tgt := 66) X.1.1 X.1.2.1 dX5_copy_89 (by decide) ?_
  refine lv_iload_n X.1.1 X.1.2.1 dX5_copy_66 rfl (lv_at hl 0 rfl) ?_
  refine lv_iconst (v := nI 4) X.1.1 X.1.2.1 dX5_copy_67 (by decide) ?_
  refine sx_icmp_ge X (by decide) (by decide) (tgt := 92) dX5_copy_68 (by decide) (fun h => absurd h (by decide)) (fun _ => ?_)
  refine lv_aload_n X.1.1 X.1.2.1 dX5_copy_71 rfl (lv_at hl 1 rfl) ?_
  refine sx_get X hP in_X5_copy_X5 hB (by omega) rfl 5 (by decide) lk_X5_copy_fieldLink_RX5_36_RaceWatch_World_cells_LRaceWatch_Kept rfl dX5_copy_72 ?_
  refine lv_iload_n X.1.1 X.1.2.1 dX5_copy_75 rfl (lv_at hl 0 rfl) ?_
  refine sx_kald X hP h9___B (by omega) (1) (by decide) (by decide) (q := 12 + B) ((hkr _ (by omega)).trans (congrArg some (by omega))) dX5_copy_76 ?_
  refine lv_aload_n X.1.1 X.1.2.1 dX5_copy_77 rfl (lv_at hl 2 rfl) ?_
  refine sx_get X hP in_X5_copy_X5 hC (by omega) rfl 5 (by decide) lk_X5_copy_fieldLink_RX5_36_RaceWatch_World_cells_LRaceWatch_Kept rfl dX5_copy_78 ?_
  refine lv_iload_n X.1.1 X.1.2.1 dX5_copy_81 rfl (lv_at hl 0 rfl) ?_
  refine sx_kald X hP h9___C (by omega) (1) (by decide) (by decide) (q := 12 + C) ((hkr2 _ (by omega)).trans (congrArg some (by omega))) dX5_copy_82 ?_
  have hkb1 := kb_ok ((hwf.2.2.2.1 1 (by decide)).2.2.elim Or.inl (fun q => Or.inr q.1))
  refine sx_cvV (As := [rf G (12 + C)]) (rest := []) X (mX2_copy l (ki := 12 + B) (kj := 13 + B) (pi := 12 + C) (pj := 13 + C) (by omega) (by omega) (by omega) (by omega) (by omega) (by omega) (by omega) (by omega) (by omega) (by omega) hkb1.1 hkb1.2 h12___B h13___B h12___C h13___C) gX5_copy_X2_copy rfl yv_X2_copy ⟨Nat.le_of_ble_eq_true rfl, Nat.le_of_ble_eq_true rfl⟩ h12___B (by omega) rfl rfl hl.1 rfl (Nat.le_of_ble_eq_true rfl) dX5_copy_83 ⟨Nat.le_of_ble_eq_true rfl, Nat.le_of_ble_eq_true rfl⟩ hs rfl hP (fun F7 H7 l7 hp hP => ?_)
  obtain ⟨e7, ⟨w7, f7, hz7⟩, o7⟩ := hp
  have hB := (o7 (B) (by omega)).trans hB
  have h1___B := (o7 (1 + B) (by omega)).trans h1___B
  have h2___B := (o7 (2 + B) (by omega)).trans h2___B
  have h3___B := (o7 (3 + B) (by omega)).trans h3___B
  have h4___B := (o7 (4 + B) (by omega)).trans h4___B
  have h5___B := (o7 (5 + B) (by omega)).trans h5___B
  have h6___B := (o7 (6 + B) (by omega)).trans h6___B
  have h7___B := (o7 (7 + B) (by omega)).trans h7___B
  have h8___B := (o7 (8 + B) (by omega)).trans h8___B
  have h9___B := (o7 (9 + B) (by omega)).trans h9___B
  have h18___B := (o7 (18 + B) (by omega)).trans h18___B
  have h19___B := (o7 (19 + B) (by omega)).trans h19___B
  have h20___B := (o7 (20 + B) (by omega)).trans h20___B
  have h21___B := (o7 (21 + B) (by omega)).trans h21___B
  have h22___B := (o7 (22 + B) (by omega)).trans h22___B
  have h23___B := (o7 (23 + B) (by omega)).trans h23___B
  have h24___B := (o7 (24 + B) (by omega)).trans h24___B
  have h25___B := (o7 (25 + B) (by omega)).trans h25___B
  have h26___B := (o7 (26 + B) (by omega)).trans h26___B
  have h10___B := (o7 (10 + B) (by omega)).trans h10___B
  have h11___B := (o7 (11 + B) (by omega)).trans h11___B
  have h12___B : F7 (12 + B) = ob 2 ([.int (w (43 + 12 * 1)), .int (w (44 + 12 * 1)), .int (w (45 + 12 * 1)), .int (w (46 + 12 * 1)), .int (w (47 + 12 * 1)), rf G (13 + B), .int (w (52 + 12 * 1)), .int (w (53 + 12 * 1)), .int (w (54 + 12 * 1)), .int (gdF w 1 M)]) := e7
  have h13___B : F7 (13 + B) = rI G (4) (w7) := f7
  have h14___B := (o7 (14 + B) (by omega)).trans h14___B
  have h15___B := (o7 (15 + B) (by omega)).trans h15___B
  have h16___B := (o7 (16 + B) (by omega)).trans h16___B
  have h17___B := (o7 (17 + B) (by omega)).trans h17___B
  have hC := (o7 (C) (by omega)).trans hC
  have h1___C := (o7 (1 + C) (by omega)).trans h1___C
  have h2___C := (o7 (2 + C) (by omega)).trans h2___C
  have h3___C := (o7 (3 + C) (by omega)).trans h3___C
  have h4___C := (o7 (4 + C) (by omega)).trans h4___C
  have h5___C := (o7 (5 + C) (by omega)).trans h5___C
  have h6___C := (o7 (6 + C) (by omega)).trans h6___C
  have h7___C := (o7 (7 + C) (by omega)).trans h7___C
  have h8___C := (o7 (8 + C) (by omega)).trans h8___C
  have h9___C := (o7 (9 + C) (by omega)).trans h9___C
  have h18___C := (o7 (18 + C) (by omega)).trans h18___C
  have h19___C := (o7 (19 + C) (by omega)).trans h19___C
  have h20___C := (o7 (20 + C) (by omega)).trans h20___C
  have h21___C := (o7 (21 + C) (by omega)).trans h21___C
  have h22___C := (o7 (22 + C) (by omega)).trans h22___C
  have h23___C := (o7 (23 + C) (by omega)).trans h23___C
  have h24___C := (o7 (24 + C) (by omega)).trans h24___C
  have h25___C := (o7 (25 + C) (by omega)).trans h25___C
  have h26___C := (o7 (26 + C) (by omega)).trans h26___C
  have h10___C := (o7 (10 + C) (by omega)).trans h10___C
  have h11___C := (o7 (11 + C) (by omega)).trans h11___C
  have h12___C := (o7 (12 + C) (by omega)).trans h12___C
  have h13___C := (o7 (13 + C) (by omega)).trans h13___C
  have h14___C := (o7 (14 + C) (by omega)).trans h14___C
  have h15___C := (o7 (15 + C) (by omega)).trans h15___C
  have h16___C := (o7 (16 + C) (by omega)).trans h16___C
  have h17___C := (o7 (17 + C) (by omega)).trans h17___C
  have hO : ∀ j, j < B ∨ B + 27 ≤ j → F7 j = F j := fun j hj => (o7 j (by omega)).trans (hO j hj)
  refine lv_iinc (v := (nI (2))) (lv' := [(2, .int (nI 2)), (0, rf G (B)), (1, rf G (C))]) X.1.1 X.1.2.1 dX5_copy_86 hl (k := 0) rfl (by decide) (by decide) rfl (fun ls hl => ?_)
  refine lv_goto (tgt := 66) X.1.1 X.1.2.1 dX5_copy_89 (by decide) ?_
  refine lv_iload_n X.1.1 X.1.2.1 dX5_copy_66 rfl (lv_at hl 0 rfl) ?_
  refine lv_iconst (v := nI 4) X.1.1 X.1.2.1 dX5_copy_67 (by decide) ?_
  refine sx_icmp_ge X (by decide) (by decide) (tgt := 92) dX5_copy_68 (by decide) (fun h => absurd h (by decide)) (fun _ => ?_)
  refine lv_aload_n X.1.1 X.1.2.1 dX5_copy_71 rfl (lv_at hl 1 rfl) ?_
  refine sx_get X hP in_X5_copy_X5 hB (by omega) rfl 5 (by decide) lk_X5_copy_fieldLink_RX5_36_RaceWatch_World_cells_LRaceWatch_Kept rfl dX5_copy_72 ?_
  refine lv_iload_n X.1.1 X.1.2.1 dX5_copy_75 rfl (lv_at hl 0 rfl) ?_
  refine sx_kald X hP h9___B (by omega) (2) (by decide) (by decide) (q := 14 + B) ((hkr _ (by omega)).trans (congrArg some (by omega))) dX5_copy_76 ?_
  refine lv_aload_n X.1.1 X.1.2.1 dX5_copy_77 rfl (lv_at hl 2 rfl) ?_
  refine sx_get X hP in_X5_copy_X5 hC (by omega) rfl 5 (by decide) lk_X5_copy_fieldLink_RX5_36_RaceWatch_World_cells_LRaceWatch_Kept rfl dX5_copy_78 ?_
  refine lv_iload_n X.1.1 X.1.2.1 dX5_copy_81 rfl (lv_at hl 0 rfl) ?_
  refine sx_kald X hP h9___C (by omega) (2) (by decide) (by decide) (q := 14 + C) ((hkr2 _ (by omega)).trans (congrArg some (by omega))) dX5_copy_82 ?_
  have hkb2 := kb_ok ((hwf.2.2.2.1 2 (by decide)).2.2.elim Or.inl (fun q => Or.inr q.1))
  refine sx_cvV (As := [rf G (14 + C)]) (rest := []) X (mX2_copy l (ki := 14 + B) (kj := 15 + B) (pi := 14 + C) (pj := 15 + C) (by omega) (by omega) (by omega) (by omega) (by omega) (by omega) (by omega) (by omega) (by omega) (by omega) hkb2.1 hkb2.2 h14___B h15___B h14___C h15___C) gX5_copy_X2_copy rfl yv_X2_copy ⟨Nat.le_of_ble_eq_true rfl, Nat.le_of_ble_eq_true rfl⟩ h14___B (by omega) rfl rfl hl.1 rfl (Nat.le_of_ble_eq_true rfl) dX5_copy_83 ⟨Nat.le_of_ble_eq_true rfl, Nat.le_of_ble_eq_true rfl⟩ hs rfl hP (fun F8 H8 l8 hp hP => ?_)
  obtain ⟨e8, ⟨w8, f8, hz8⟩, o8⟩ := hp
  have hB := (o8 (B) (by omega)).trans hB
  have h1___B := (o8 (1 + B) (by omega)).trans h1___B
  have h2___B := (o8 (2 + B) (by omega)).trans h2___B
  have h3___B := (o8 (3 + B) (by omega)).trans h3___B
  have h4___B := (o8 (4 + B) (by omega)).trans h4___B
  have h5___B := (o8 (5 + B) (by omega)).trans h5___B
  have h6___B := (o8 (6 + B) (by omega)).trans h6___B
  have h7___B := (o8 (7 + B) (by omega)).trans h7___B
  have h8___B := (o8 (8 + B) (by omega)).trans h8___B
  have h9___B := (o8 (9 + B) (by omega)).trans h9___B
  have h18___B := (o8 (18 + B) (by omega)).trans h18___B
  have h19___B := (o8 (19 + B) (by omega)).trans h19___B
  have h20___B := (o8 (20 + B) (by omega)).trans h20___B
  have h21___B := (o8 (21 + B) (by omega)).trans h21___B
  have h22___B := (o8 (22 + B) (by omega)).trans h22___B
  have h23___B := (o8 (23 + B) (by omega)).trans h23___B
  have h24___B := (o8 (24 + B) (by omega)).trans h24___B
  have h25___B := (o8 (25 + B) (by omega)).trans h25___B
  have h26___B := (o8 (26 + B) (by omega)).trans h26___B
  have h10___B := (o8 (10 + B) (by omega)).trans h10___B
  have h11___B := (o8 (11 + B) (by omega)).trans h11___B
  have h12___B := (o8 (12 + B) (by omega)).trans h12___B
  have h13___B := (o8 (13 + B) (by omega)).trans h13___B
  have h14___B : F8 (14 + B) = ob 2 ([.int (w (43 + 12 * 2)), .int (w (44 + 12 * 2)), .int (w (45 + 12 * 2)), .int (w (46 + 12 * 2)), .int (w (47 + 12 * 2)), rf G (15 + B), .int (w (52 + 12 * 2)), .int (w (53 + 12 * 2)), .int (w (54 + 12 * 2)), .int (gdF w 2 M)]) := e8
  have h15___B : F8 (15 + B) = rI G (4) (w8) := f8
  have h16___B := (o8 (16 + B) (by omega)).trans h16___B
  have h17___B := (o8 (17 + B) (by omega)).trans h17___B
  have hC := (o8 (C) (by omega)).trans hC
  have h1___C := (o8 (1 + C) (by omega)).trans h1___C
  have h2___C := (o8 (2 + C) (by omega)).trans h2___C
  have h3___C := (o8 (3 + C) (by omega)).trans h3___C
  have h4___C := (o8 (4 + C) (by omega)).trans h4___C
  have h5___C := (o8 (5 + C) (by omega)).trans h5___C
  have h6___C := (o8 (6 + C) (by omega)).trans h6___C
  have h7___C := (o8 (7 + C) (by omega)).trans h7___C
  have h8___C := (o8 (8 + C) (by omega)).trans h8___C
  have h9___C := (o8 (9 + C) (by omega)).trans h9___C
  have h18___C := (o8 (18 + C) (by omega)).trans h18___C
  have h19___C := (o8 (19 + C) (by omega)).trans h19___C
  have h20___C := (o8 (20 + C) (by omega)).trans h20___C
  have h21___C := (o8 (21 + C) (by omega)).trans h21___C
  have h22___C := (o8 (22 + C) (by omega)).trans h22___C
  have h23___C := (o8 (23 + C) (by omega)).trans h23___C
  have h24___C := (o8 (24 + C) (by omega)).trans h24___C
  have h25___C := (o8 (25 + C) (by omega)).trans h25___C
  have h26___C := (o8 (26 + C) (by omega)).trans h26___C
  have h10___C := (o8 (10 + C) (by omega)).trans h10___C
  have h11___C := (o8 (11 + C) (by omega)).trans h11___C
  have h12___C := (o8 (12 + C) (by omega)).trans h12___C
  have h13___C := (o8 (13 + C) (by omega)).trans h13___C
  have h14___C := (o8 (14 + C) (by omega)).trans h14___C
  have h15___C := (o8 (15 + C) (by omega)).trans h15___C
  have h16___C := (o8 (16 + C) (by omega)).trans h16___C
  have h17___C := (o8 (17 + C) (by omega)).trans h17___C
  have hO : ∀ j, j < B ∨ B + 27 ≤ j → F8 j = F j := fun j hj => (o8 j (by omega)).trans (hO j hj)
  refine lv_iinc (v := (nI (3))) (lv' := [(2, .int (nI 3)), (0, rf G (B)), (1, rf G (C))]) X.1.1 X.1.2.1 dX5_copy_86 hl (k := 0) rfl (by decide) (by decide) rfl (fun ls hl => ?_)
  refine lv_goto (tgt := 66) X.1.1 X.1.2.1 dX5_copy_89 (by decide) ?_
  refine lv_iload_n X.1.1 X.1.2.1 dX5_copy_66 rfl (lv_at hl 0 rfl) ?_
  refine lv_iconst (v := nI 4) X.1.1 X.1.2.1 dX5_copy_67 (by decide) ?_
  refine sx_icmp_ge X (by decide) (by decide) (tgt := 92) dX5_copy_68 (by decide) (fun h => absurd h (by decide)) (fun _ => ?_)
  refine lv_aload_n X.1.1 X.1.2.1 dX5_copy_71 rfl (lv_at hl 1 rfl) ?_
  refine sx_get X hP in_X5_copy_X5 hB (by omega) rfl 5 (by decide) lk_X5_copy_fieldLink_RX5_36_RaceWatch_World_cells_LRaceWatch_Kept rfl dX5_copy_72 ?_
  refine lv_iload_n X.1.1 X.1.2.1 dX5_copy_75 rfl (lv_at hl 0 rfl) ?_
  refine sx_kald X hP h9___B (by omega) (3) (by decide) (by decide) (q := 16 + B) ((hkr _ (by omega)).trans (congrArg some (by omega))) dX5_copy_76 ?_
  refine lv_aload_n X.1.1 X.1.2.1 dX5_copy_77 rfl (lv_at hl 2 rfl) ?_
  refine sx_get X hP in_X5_copy_X5 hC (by omega) rfl 5 (by decide) lk_X5_copy_fieldLink_RX5_36_RaceWatch_World_cells_LRaceWatch_Kept rfl dX5_copy_78 ?_
  refine lv_iload_n X.1.1 X.1.2.1 dX5_copy_81 rfl (lv_at hl 0 rfl) ?_
  refine sx_kald X hP h9___C (by omega) (3) (by decide) (by decide) (q := 16 + C) ((hkr2 _ (by omega)).trans (congrArg some (by omega))) dX5_copy_82 ?_
  have hkb3 := kb_ok ((hwf.2.2.2.1 3 (by decide)).2.2.elim Or.inl (fun q => Or.inr q.1))
  refine sx_cvV (As := [rf G (16 + C)]) (rest := []) X (mX2_copy l (ki := 16 + B) (kj := 17 + B) (pi := 16 + C) (pj := 17 + C) (by omega) (by omega) (by omega) (by omega) (by omega) (by omega) (by omega) (by omega) (by omega) (by omega) hkb3.1 hkb3.2 h16___B h17___B h16___C h17___C) gX5_copy_X2_copy rfl yv_X2_copy ⟨Nat.le_of_ble_eq_true rfl, Nat.le_of_ble_eq_true rfl⟩ h16___B (by omega) rfl rfl hl.1 rfl (Nat.le_of_ble_eq_true rfl) dX5_copy_83 ⟨Nat.le_of_ble_eq_true rfl, Nat.le_of_ble_eq_true rfl⟩ hs rfl hP (fun F9 H9 l9 hp hP => ?_)
  obtain ⟨e9, ⟨w9, f9, hz9⟩, o9⟩ := hp
  have hB := (o9 (B) (by omega)).trans hB
  have h1___B := (o9 (1 + B) (by omega)).trans h1___B
  have h2___B := (o9 (2 + B) (by omega)).trans h2___B
  have h3___B := (o9 (3 + B) (by omega)).trans h3___B
  have h4___B := (o9 (4 + B) (by omega)).trans h4___B
  have h5___B := (o9 (5 + B) (by omega)).trans h5___B
  have h6___B := (o9 (6 + B) (by omega)).trans h6___B
  have h7___B := (o9 (7 + B) (by omega)).trans h7___B
  have h8___B := (o9 (8 + B) (by omega)).trans h8___B
  have h9___B := (o9 (9 + B) (by omega)).trans h9___B
  have h18___B := (o9 (18 + B) (by omega)).trans h18___B
  have h19___B := (o9 (19 + B) (by omega)).trans h19___B
  have h20___B := (o9 (20 + B) (by omega)).trans h20___B
  have h21___B := (o9 (21 + B) (by omega)).trans h21___B
  have h22___B := (o9 (22 + B) (by omega)).trans h22___B
  have h23___B := (o9 (23 + B) (by omega)).trans h23___B
  have h24___B := (o9 (24 + B) (by omega)).trans h24___B
  have h25___B := (o9 (25 + B) (by omega)).trans h25___B
  have h26___B := (o9 (26 + B) (by omega)).trans h26___B
  have h10___B := (o9 (10 + B) (by omega)).trans h10___B
  have h11___B := (o9 (11 + B) (by omega)).trans h11___B
  have h12___B := (o9 (12 + B) (by omega)).trans h12___B
  have h13___B := (o9 (13 + B) (by omega)).trans h13___B
  have h14___B := (o9 (14 + B) (by omega)).trans h14___B
  have h15___B := (o9 (15 + B) (by omega)).trans h15___B
  have h16___B : F9 (16 + B) = ob 2 ([.int (w (43 + 12 * 3)), .int (w (44 + 12 * 3)), .int (w (45 + 12 * 3)), .int (w (46 + 12 * 3)), .int (w (47 + 12 * 3)), rf G (17 + B), .int (w (52 + 12 * 3)), .int (w (53 + 12 * 3)), .int (w (54 + 12 * 3)), .int (gdF w 3 M)]) := e9
  have h17___B : F9 (17 + B) = rI G (4) (w9) := f9
  have hC := (o9 (C) (by omega)).trans hC
  have h1___C := (o9 (1 + C) (by omega)).trans h1___C
  have h2___C := (o9 (2 + C) (by omega)).trans h2___C
  have h3___C := (o9 (3 + C) (by omega)).trans h3___C
  have h4___C := (o9 (4 + C) (by omega)).trans h4___C
  have h5___C := (o9 (5 + C) (by omega)).trans h5___C
  have h6___C := (o9 (6 + C) (by omega)).trans h6___C
  have h7___C := (o9 (7 + C) (by omega)).trans h7___C
  have h8___C := (o9 (8 + C) (by omega)).trans h8___C
  have h9___C := (o9 (9 + C) (by omega)).trans h9___C
  have h18___C := (o9 (18 + C) (by omega)).trans h18___C
  have h19___C := (o9 (19 + C) (by omega)).trans h19___C
  have h20___C := (o9 (20 + C) (by omega)).trans h20___C
  have h21___C := (o9 (21 + C) (by omega)).trans h21___C
  have h22___C := (o9 (22 + C) (by omega)).trans h22___C
  have h23___C := (o9 (23 + C) (by omega)).trans h23___C
  have h24___C := (o9 (24 + C) (by omega)).trans h24___C
  have h25___C := (o9 (25 + C) (by omega)).trans h25___C
  have h26___C := (o9 (26 + C) (by omega)).trans h26___C
  have h10___C := (o9 (10 + C) (by omega)).trans h10___C
  have h11___C := (o9 (11 + C) (by omega)).trans h11___C
  have h12___C := (o9 (12 + C) (by omega)).trans h12___C
  have h13___C := (o9 (13 + C) (by omega)).trans h13___C
  have h14___C := (o9 (14 + C) (by omega)).trans h14___C
  have h15___C := (o9 (15 + C) (by omega)).trans h15___C
  have h16___C := (o9 (16 + C) (by omega)).trans h16___C
  have h17___C := (o9 (17 + C) (by omega)).trans h17___C
  have hO : ∀ j, j < B ∨ B + 27 ≤ j → F9 j = F j := fun j hj => (o9 j (by omega)).trans (hO j hj)
  refine lv_iinc (v := (nI (4))) (lv' := [(2, .int (nI 4)), (0, rf G (B)), (1, rf G (C))]) X.1.1 X.1.2.1 dX5_copy_86 hl (k := 0) rfl (by decide) (by decide) rfl (fun ls hl => ?_)
  refine lv_goto (tgt := 66) X.1.1 X.1.2.1 dX5_copy_89 (by decide) ?_
  refine lv_iload_n X.1.1 X.1.2.1 dX5_copy_66 rfl (lv_at hl 0 rfl) ?_
  refine lv_iconst (v := nI 4) X.1.1 X.1.2.1 dX5_copy_67 (by decide) ?_
  refine sx_icmp_ge X (by decide) (by decide) (tgt := 92) dX5_copy_68 (by decide) (fun _ => ?_) (fun h => absurd h (by decide))
  refine lv_aload_n X.1.1 X.1.2.1 dX5_copy_92 rfl (lv_at hl 1 rfl) ?_
  refine sx_get X hP in_X5_copy_X5 hB (by omega) rfl 6 (by decide) lk_X5_copy_fieldLink_RX5_43_RaceWatch_World_log_LRaceWatch_Log rfl dX5_copy_93 ?_
  refine lv_aload_n X.1.1 X.1.2.1 dX5_copy_96 rfl (lv_at hl 2 rfl) ?_
  refine sx_get X hP in_X5_copy_X5 hC (by omega) rfl 6 (by decide) lk_X5_copy_fieldLink_RX5_43_RaceWatch_World_log_LRaceWatch_Log rfl dX5_copy_97 ?_
  refine sx_cvV (As := [rf G (18 + C)]) (rest := []) X (mX3_copy l (B := B) (C := C) (M := M) (by omega) (by omega) hd hM h18___B h19___B h20___B h21___B h22___B h23___B h24___B h25___B h26___B h18___C h19___C h20___C h21___C h22___C h23___C h24___C h25___C h26___C) gX5_copy_X3_copy rfl yv_X3_copy ⟨Nat.le_of_ble_eq_true rfl, Nat.le_of_ble_eq_true rfl⟩ h18___B (by omega) rfl rfl hl.1 rfl (Nat.le_of_ble_eq_true rfl) dX5_copy_100 ⟨Nat.le_of_ble_eq_true rfl, Nat.le_of_ble_eq_true rfl⟩ hs rfl hP (fun F10 H10 l10 hp hP => ?_)
  obtain ⟨e100, e101, e102, e103, e104, e105, e106, e107, o10⟩ := hp
  have hB := (o10 (B) (by omega)).trans hB
  have h1___B := (o10 (1 + B) (by omega)).trans h1___B
  have h2___B := (o10 (2 + B) (by omega)).trans h2___B
  have h3___B := (o10 (3 + B) (by omega)).trans h3___B
  have h4___B := (o10 (4 + B) (by omega)).trans h4___B
  have h5___B := (o10 (5 + B) (by omega)).trans h5___B
  have h6___B := (o10 (6 + B) (by omega)).trans h6___B
  have h7___B := (o10 (7 + B) (by omega)).trans h7___B
  have h8___B := (o10 (8 + B) (by omega)).trans h8___B
  have h9___B := (o10 (9 + B) (by omega)).trans h9___B
  have h18___B : F10 (18 + B) = ob 3 ([.int (nI (M)), rf G (19 + B), rf G (20 + B), rf G (21 + B), rf G (22 + B), rf G (23 + B), rf G (25 + B), rf G (26 + B)]) := e100
  have h19___B : F10 (19 + B) = rI G (160) (va_cpy th2 th 0 0 (M)) := e101
  have h20___B : F10 (20 + B) = rI G (160) (va_cpy so2 so 0 0 (M)) := e102
  have h21___B : F10 (21 + B) = rI G (160) (va_cpy wi2 wi 0 0 (M)) := e103
  have h22___B : F10 (22 + B) = rI G (160) (va_cpy lo2 lo 0 0 (M)) := e104
  have h23___B := (o10 (23 + B) (by omega)).trans h23___B
  have h24___B : F10 (24 + B) = rI G (640) (va_cpy lc2 lc 0 0 (4 * M)) := e105
  have h25___B : F10 (25 + B) = rI G (160) (va_cpy rb2 rb 0 0 (M)) := e106
  have h26___B : F10 (26 + B) = rI G (12) (va_cpy rc2 rc 0 0 (12)) := e107
  have h10___B := (o10 (10 + B) (by omega)).trans h10___B
  have h11___B := (o10 (11 + B) (by omega)).trans h11___B
  have h12___B := (o10 (12 + B) (by omega)).trans h12___B
  have h13___B := (o10 (13 + B) (by omega)).trans h13___B
  have h14___B := (o10 (14 + B) (by omega)).trans h14___B
  have h15___B := (o10 (15 + B) (by omega)).trans h15___B
  have h16___B := (o10 (16 + B) (by omega)).trans h16___B
  have h17___B := (o10 (17 + B) (by omega)).trans h17___B
  have hC := (o10 (C) (by omega)).trans hC
  have h1___C := (o10 (1 + C) (by omega)).trans h1___C
  have h2___C := (o10 (2 + C) (by omega)).trans h2___C
  have h3___C := (o10 (3 + C) (by omega)).trans h3___C
  have h4___C := (o10 (4 + C) (by omega)).trans h4___C
  have h5___C := (o10 (5 + C) (by omega)).trans h5___C
  have h6___C := (o10 (6 + C) (by omega)).trans h6___C
  have h7___C := (o10 (7 + C) (by omega)).trans h7___C
  have h8___C := (o10 (8 + C) (by omega)).trans h8___C
  have h9___C := (o10 (9 + C) (by omega)).trans h9___C
  have h18___C := (o10 (18 + C) (by omega)).trans h18___C
  have h19___C := (o10 (19 + C) (by omega)).trans h19___C
  have h20___C := (o10 (20 + C) (by omega)).trans h20___C
  have h21___C := (o10 (21 + C) (by omega)).trans h21___C
  have h22___C := (o10 (22 + C) (by omega)).trans h22___C
  have h23___C := (o10 (23 + C) (by omega)).trans h23___C
  have h24___C := (o10 (24 + C) (by omega)).trans h24___C
  have h25___C := (o10 (25 + C) (by omega)).trans h25___C
  have h26___C := (o10 (26 + C) (by omega)).trans h26___C
  have h10___C := (o10 (10 + C) (by omega)).trans h10___C
  have h11___C := (o10 (11 + C) (by omega)).trans h11___C
  have h12___C := (o10 (12 + C) (by omega)).trans h12___C
  have h13___C := (o10 (13 + C) (by omega)).trans h13___C
  have h14___C := (o10 (14 + C) (by omega)).trans h14___C
  have h15___C := (o10 (15 + C) (by omega)).trans h15___C
  have h16___C := (o10 (16 + C) (by omega)).trans h16___C
  have h17___C := (o10 (17 + C) (by omega)).trans h17___C
  have hO : ∀ j, j < B ∨ B + 27 ≤ j → F10 j = F j := fun j hj => (o10 j (by omega)).trans (hO j hj)
  have hKc : ∀ c, c < 4 → KV G F10 w M B c := fun c hc => by
    unfold KV
    rcases (show c = 0 ∨ c = 1 ∨ c = 2 ∨ c = 3 by omega) with rfl | rfl | rfl | rfl
    · rw [show 10 + B + 2 * 0 = 10 + B by omega, show 11 + B + 2 * 0 = 11 + B by omega]; exact ⟨h10___B, _, h11___B, fun k hk => (hz6 k hk).trans (hq0 k hk)⟩
    · rw [show 10 + B + 2 * 1 = 12 + B by omega, show 11 + B + 2 * 1 = 13 + B by omega]; exact ⟨h12___B, _, h13___B, fun k hk => (hz7 k hk).trans (hq1 k hk)⟩
    · rw [show 10 + B + 2 * 2 = 14 + B by omega, show 11 + B + 2 * 2 = 15 + B by omega]; exact ⟨h14___B, _, h15___B, fun k hk => (hz8 k hk).trans (hq2 k hk)⟩
    · rw [show 10 + B + 2 * 3 = 16 + B by omega, show 11 + B + 2 * 3 = 17 + B by omega]; exact ⟨h16___B, _, h17___B, fun k hk => (hz9 k hk).trans (hq3 k hk)⟩
  have hv0 : ∀ k, k < 4 → w1 k = w k := fun k hk => by rw [hw1]; exact (cpy_at k hk).trans (hRV.1 k hk)
  have hv1 : ∀ k, k < 3 → w2 k = w (40 + k) := by rw [hw2]; exact cpy_row hRV.2.1
  have hv2 : ∀ k, k < 16 → w3 k = w (4 + k) := by rw [hw3]; exact cpy_row hRV.2.2.1
  have hv3 : ∀ k, k < 12 → w4 k = w (20 + k) := by rw [hw4]; exact cpy_row hRV.2.2.2.1
  have hv4 : ∀ k, k < 8 → w5 k = w (32 + k) := by rw [hw5]; exact cpy_row hRV.2.2.2.2
  rw [hQ]
  exact sx_vret X rfl hs rfl hP dX5_copy_103 (⟨⟨_, _, _, _, _, kr, _, _, _, hB, h1___B, h2___B, h3___B, h4___B, h5___B, h6___B, h7___B, h8___B, h9___B, hkr, ⟨hv0, hv1, hv2, hv3, hv4⟩, hKc, ⟨_, _, _, _, _, _, _, rr, h18___B, h19___B, h20___B, h21___B, h22___B, h23___B, h24___B, h25___B, h26___B, LV_cpy hLV, RB_cpy hRB, RC_cpy hRC⟩, rfl, rfl, rfl⟩, hO⟩)
