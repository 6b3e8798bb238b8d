theorem ys_X6_race : yX6_race.cls ≠ "java/lang/invoke/MethodHandle" ∧ yX6_race.cls ≠ "java/lang/invoke/VarHandle" ∧ (parseMethodDescriptor yX6_race.desc).map (fun d => d.parameters.length) = some 3 := by decide +kernel
theorem yv_X6_race : yX6_race.cls = RX6 ∧ yX6_race.cls ≠ "java/lang/invoke/MethodHandle" ∧ yX6_race.cls ≠ "java/lang/invoke/VarHandle" ∧ (parseMethodDescriptor yX6_race.desc).map (fun d => d.parameters.length) = some 3 := ⟨rfl, ys_X6_race⟩
theorem in_X6_race_X6 : ∀ w ∈ wsX60, w ∈ wsX6_race := fun _ h => List.mem_cons_of_mem _ (List.mem_append_left _ (List.mem_append_left _ (List.mem_append_left _ (List.mem_append_right _ (h)))))
theorem lk_X6_race_fieldLink_RX6_10_RaceWatch_world_LRaceWatch_World : (.fieldLink RX6 10 "RaceWatch" "world" "LRaceWatch$World;" : Cond) ∈ wsX6_race := List.mem_cons_of_mem _ (List.mem_append_left _ (List.mem_append_left _ (List.mem_append_left _ (List.mem_append_left _ (List.mem_append_left _ (List.mem_of_getElem? (i := 2) rfl))))))
theorem in_X6_race_X5 : ∀ w ∈ wsX50, w ∈ wsX6_race := fun _ h => List.mem_cons_of_mem _ (List.mem_append_left _ (List.mem_append_left _ (List.mem_append_right _ (h))))
theorem lk_X6_race_fieldLink_RX6_31_RaceWatch_World_log_LRaceWatch_Log : (.fieldLink RX6 31 "RaceWatch$World" "log" "LRaceWatch$Log;" : Cond) ∈ wsX6_race := List.mem_cons_of_mem _ (List.mem_append_left _ (List.mem_append_left _ (List.mem_append_left _ (List.mem_append_left _ (List.mem_append_left _ (List.mem_of_getElem? (i := 3) rfl))))))
theorem lk_X6_race_constant_RX6_44_1000000002 : (.constant RX6 44 (-1000000002) : Cond) ∈ wsX6_race := List.mem_cons_of_mem _ (List.mem_append_left _ (List.mem_append_left _ (List.mem_append_left _ (List.mem_append_left _ (List.mem_append_left _ (List.mem_of_getElem? (i := 1) rfl))))))
theorem lk_X6_race_constant_RX6_67_1000000001 : (.constant RX6 67 (-1000000001) : Cond) ∈ wsX6_race := List.mem_cons_of_mem _ (List.mem_append_left _ (List.mem_append_left _ (List.mem_append_left _ (List.mem_append_left _ (List.mem_append_left _ (List.mem_of_getElem? (i := 0) rfl))))))
abbrev rmX6_race : Room := { frames := 5, cells := 0, slots := 0, locals := 117 }
set_option maxHeartbeats 800000 in
set_option maxRecDepth 100000 in
theorem mX6_race {G : sx_G} (l : Launch) {F : Nat → va_E} {w : Nat → Int32} {M : Nat} {x y z : Int32}  (hW : WV G F w M 1) (hwf : WFw w M) (h0 : F (0) = ob 6 ([rf G 1, rf G 28, rf G 83, rf G 84])) : sx_I G l yX6_race wsX6_race rmX6_race [rf G 0, .int (x), .int (y), .int (z)] (97) F (97) (fun r F1 => F = F1 ∧ (¬ inR x 4 ∧ -1000000001 = r ∨ (inR x 4 ∧ (¬ inR z 3 ∨ y < 0) ∧ -1000000002 = r) ∨ ∃ c k o, c < 4 ∧ k < 2 ^ 31 ∧ o < 3 ∧ x = nI c ∧ y = nI k ∧ z = nI o ∧ raceR w M c k o r)) := by
  refine sx_enter (cc := cX6_race) (maxL := 4) (ret := some .int) (own := RX6) (nm := "race") (by decide) rfl rfl rfl (Nat.le_of_ble_eq_true rfl) ?_
  intro pp ee ss mm args below meth kc ls Q hQ X hs hP hl
  have hl : lv_has ls 4 [(0, rf G 0), (1, .int (x)), (2, .int (y)), (3, .int (z))] := hl
  obtain ⟨st, ho, ct, cl, cs, kr, r4, r6, r8, h1, h2, h3, h4, h5, h6, h7, h8, h9, h10, hkr, hRV, hKV, hLg, hRw⟩ := hW
  obtain ⟨th, so, wi, lo, lc, rb, rc, rr, h19, h20, h21, h22, h23, h24, h25, h26, h27, hLV, hRB, hRC⟩ := hLg
  have h1 : F 1 = ob 5 ([rf G 2, rf G 3, rf G 4, rf G 6, rf G 8, rf G 10, rf G 19]) := h1
  have h2 : F 2 = rI G (4) (st) := h2
  have h3 : F 3 = rI G (3) (ho) := h3
  have h4 : F 4 = ob 1 ([r4, rf G 5]) := h4
  have h5 : F 5 = rI G (16) (ct) := h5
  have h6 : F 6 = ob 1 ([r6, rf G 7]) := h6
  have h7 : F 7 = rI G (12) (cl) := h7
  have h8 : F 8 = ob 1 ([r8, rf G 9]) := h8
  have h9 : F 9 = rI G (8) (cs) := h9
  have h10 : F 10 = rK G (4) (kr) := h10
  have h19 : F 19 = ob 3 ([.int (nI (M)), rf G 20, rf G 21, rf G 22, rf G 23, rf G 24, rf G 26, rf G 27]) := h19
  have h20 : F 20 = rI G (160) (th) := h20
  have h21 : F 21 = rI G (160) (so) := h21
  have h22 : F 22 = rI G (160) (wi) := h22
  have h23 : F 23 = rI G (160) (lo) := h23
  have h24 : F 24 = ob 1 ([rr, rf G 25]) := h24
  have h25 : F 25 = rI G (640) (lc) := h25
  have h26 : F 26 = rI G (160) (rb) := h26
  have h27 : F 27 = rI G (12) (rc) := h27
  have hkr : ∀ j, j < 4 → kr j = some (sx_b G + (11 + 2 * j)) := hkr
  have hM := hwf.2.1
  have hok := hwf.2.2.1
  refine lv_iload_n X.1.1 X.1.2.1 dX6_race_0 rfl (lv_at hl 1 rfl) ?_
  refine lv_iconst (v := nI 4) X.1.1 X.1.2.1 dX6_race_1 (by decide) ?_
  refine sx_csI (As := [.int (x), .int (nI 4)]) (rest := []) X (mX6_isIn l (x := (x)) (k := 4) (by omega)) gX6_race_X6_isIn rfl ys_X6_isIn ⟨Nat.le_of_ble_eq_true rfl, Nat.le_of_ble_eq_true rfl⟩ hl.1 rfl (Nat.le_of_ble_eq_true rfl) dX6_race_2 ⟨Nat.le_of_ble_eq_true rfl, Nat.le_of_ble_eq_true rfl⟩ hs rfl hP (fun r1 F1 H1 l1 hp hP => ?_)
  obtain ⟨rfl, ⟨b2, rfl⟩ | ⟨b2, rfl⟩⟩ := hp
  · obtain ⟨c, hc, rfl⟩ := b2
    refine sx_if_ne X (by decide) (tgt := 11) dX6_race_5 (by decide) (fun _ => ?_) (fun h => absurd h (by decide))
    refine lv_iload_n X.1.1 X.1.2.1 dX6_race_11 rfl (lv_at hl 3 rfl) ?_
    refine lv_iconst (v := nI 3) X.1.1 X.1.2.1 dX6_race_12 (by decide) ?_
    refine sx_csI (As := [.int (z), .int (nI 3)]) (rest := []) X (mX6_isIn l (x := (z)) (k := 3) (by omega)) gX6_race_X6_isIn rfl ys_X6_isIn ⟨Nat.le_of_ble_eq_true rfl, Nat.le_of_ble_eq_true rfl⟩ hl.1 rfl (Nat.le_of_ble_eq_true rfl) dX6_race_13 ⟨Nat.le_of_ble_eq_true rfl, Nat.le_of_ble_eq_true rfl⟩ hs rfl hP (fun r3 F3 H3 l3 hp hP => ?_)
    obtain ⟨rfl, ⟨b4, rfl⟩ | ⟨b4, rfl⟩⟩ := hp
    · obtain ⟨o, hoo, rfl⟩ := b4
      refine sx_if_eq X (by decide) (tgt := 23) dX6_race_16 (by decide) (fun h => absurd h (by decide)) (fun _ => ?_)
      refine lv_iload_n X.1.1 X.1.2.1 dX6_race_19 rfl (lv_at hl 2 rfl) ?_
      refine lv_if_ge X.1.1 X.1.2.1 (tgt := 26) dX6_race_20 (by decide) (fun c20 => ?_) (fun c20 => ?_)
      · obtain ⟨k, hk31, rfl⟩ := nI_of (Int32.not_lt.mpr c20)
        refine lv_aload_n X.1.1 X.1.2.1 dX6_race_26 rfl (lv_at hl 0 rfl) ?_
        refine sx_get X hP in_X6_race_X6 h0 (by decide) rfl 0 (by decide) lk_X6_race_fieldLink_RX6_10_RaceWatch_world_LRaceWatch_World rfl dX6_race_27 ?_
        refine sx_get X hP in_X6_race_X5 h1 (by decide) rfl 6 (by decide) lk_X6_race_fieldLink_RX6_31_RaceWatch_World_log_LRaceWatch_Log rfl dX6_race_30 ?_
        refine lv_iload_n X.1.1 X.1.2.1 dX6_race_33 rfl (lv_at hl 1 rfl) ?_
        refine lv_iload_n X.1.1 X.1.2.1 dX6_race_34 rfl (lv_at hl 2 rfl) ?_
        refine lv_iload_n X.1.1 X.1.2.1 dX6_race_35 rfl (lv_at hl 3 rfl) ?_
        refine sx_cvI (As := [.int (nI (c)), .int (nI (k)), .int (nI (o))]) (rest := []) X (mX3_partOfRace l (v := w) (c := c) (k := k) (o := o) hLV hM hok hc hk31 hoo hRB h19 h20 h21 h22 h23 h24 h25 h26) gX6_race_X3_partOfRace rfl yv_X3_partOfRace ⟨Nat.le_of_ble_eq_true rfl, Nat.le_of_ble_eq_true rfl⟩ h19 (by decide) rfl rfl hl.1 rfl (Nat.le_of_ble_eq_true rfl) dX6_race_36 ⟨Nat.le_of_ble_eq_true rfl, Nat.le_of_ble_eq_true rfl⟩ hs rfl hP (fun r5 F5 H5 l5 hp hP => ?_)
        obtain ⟨rfl, hR⟩ := hp
        rw [hQ]
        exact sx_iret X rfl hs rfl hP dX6_race_39 (⟨rfl, Or.inr (Or.inr ⟨c, k, o, hc, hk31, hoo, rfl, rfl, rfl, hR⟩)⟩)
      · refine lv_ldc (v := -1000000002) X.1.1 X.1.2.1 X.1.2.2.2.1 (X.1.2.2.2.2 _ lk_X6_race_constant_RX6_44_1000000002) dX6_race_23 ?_
        rw [hQ]
        exact sx_iret X rfl hs rfl hP dX6_race_25 (⟨rfl, Or.inr (Or.inl ⟨⟨c, hc, rfl⟩, Or.inr (Int32.not_le.mp c20), rfl⟩)⟩)
    · refine sx_if_eq X (by decide) (tgt := 23) dX6_race_16 (by decide) (fun _ => ?_) (fun h => absurd h (by decide))
      refine lv_ldc (v := -1000000002) X.1.1 X.1.2.1 X.1.2.2.2.1 (X.1.2.2.2.2 _ lk_X6_race_constant_RX6_44_1000000002) dX6_race_23 ?_
      rw [hQ]
      exact sx_iret X rfl hs rfl hP dX6_race_25 (⟨rfl, Or.inr (Or.inl ⟨⟨c, hc, rfl⟩, Or.inl b4, rfl⟩)⟩)
  · refine sx_if_ne X (by decide) (tgt := 11) dX6_race_5 (by decide) (fun h => absurd h (by decide)) (fun _ => ?_)
    refine lv_ldc (v := -1000000001) X.1.1 X.1.2.1 X.1.2.2.2.1 (X.1.2.2.2.2 _ lk_X6_race_constant_RX6_67_1000000001) dX6_race_8 ?_
    rw [hQ]
    exact sx_iret X rfl hs rfl hP dX6_race_10 (⟨rfl, Or.inl ⟨b2, rfl⟩⟩)
theorem ys_X6_fault : yX6_fault.cls ≠ "java/lang/invoke/MethodHandle" ∧ yX6_fault.cls ≠ "java/lang/invoke/VarHandle" ∧ (parseMethodDescriptor yX6_fault.desc).map (fun d => d.parameters.length) = some 0 := by decide +kernel
theorem yv_X6_fault : yX6_fault.cls = RX6 ∧ yX6_fault.cls ≠ "java/lang/invoke/MethodHandle" ∧ yX6_fault.cls ≠ "java/lang/invoke/VarHandle" ∧ (parseMethodDescriptor yX6_fault.desc).map (fun d => d.parameters.length) = some 0 := ⟨rfl, ys_X6_fault⟩
theorem in_X6_fault_X6 : ∀ w ∈ wsX60, w ∈ wsX6_fault := fun _ h => List.mem_cons_of_mem _ (List.mem_append_left _ (List.mem_append_right _ (h)))
theorem lk_X6_fault_fieldLink_RX6_27_RaceWatch_telling_LRaceWatch_Telling : (.fieldLink RX6 27 "RaceWatch" "telling" "LRaceWatch$Telling;" : Cond) ∈ wsX6_fault := List.mem_cons_of_mem _ (List.mem_append_left _ (List.mem_append_left _ (List.mem_of_getElem? (i := 0) rfl)))
theorem in_X6_fault_X4 : ∀ w ∈ wsX40, w ∈ wsX6_fault := fun _ h => List.mem_cons_of_mem _ (List.mem_append_right _ (h))
theorem lk_X6_fault_fieldLink_RX6_53_RaceWatch_Telling_faultAt_I : (.fieldLink RX6 53 "RaceWatch$Telling" "faultAt" "I" : Cond) ∈ wsX6_fault := List.mem_cons_of_mem _ (List.mem_append_left _ (List.mem_append_left _ (List.mem_of_getElem? (i := 1) rfl)))
abbrev rmX6_fault : Room := { frames := 0, cells := 0, slots := 0, locals := 0 }
set_option maxHeartbeats 800000 in
set_option maxRecDepth 100000 in
theorem mX6_fault {G : sx_G} (l : Launch) {F : Nat → va_E} {len : Nat} {fat : Int32} {q4 q5 q6 q7 q8 q9 qa : Value}  (h0 : F (0) = ob 6 ([rf G 1, rf G 28, rf G 83, rf G 84])) (h84 : F (84) = ob 4 ([.int (nI (len)), .int (fat), rf G 85, rf G 88, q4, q5, q6, q7, q8, q9, qa])) : sx_I G l yX6_fault wsX6_fault rmX6_fault [rf G 0] (97) F (97) (fun r F1 => F = F1 ∧ fat = r) := by
  refine sx_enter (cc := cX6_fault) (maxL := 1) (ret := some .int) (own := RX6) (nm := "fault") (by decide) rfl rfl rfl (Nat.le_of_ble_eq_true rfl) ?_
  intro pp ee ss mm args below meth kc ls Q hQ X hs hP hl
  have hl : lv_has ls 1 [(0, rf G 0)] := hl
  refine lv_aload_n X.1.1 X.1.2.1 dX6_fault_0 rfl (lv_at hl 0 rfl) ?_
  refine sx_get X hP in_X6_fault_X6 h0 (by decide) rfl 3 (by decide) lk_X6_fault_fieldLink_RX6_27_RaceWatch_telling_LRaceWatch_Telling rfl dX6_fault_1 ?_
  refine sx_get X hP in_X6_fault_X4 h84 (by decide) rfl 1 (by decide) lk_X6_fault_fieldLink_RX6_53_RaceWatch_Telling_faultAt_I rfl dX6_fault_4 ?_
  rw [hQ]
  exact sx_iret X rfl hs rfl hP dX6_fault_7 (⟨rfl, rfl⟩)
theorem ys_X4_append : yX4_append.cls ≠ "java/lang/invoke/MethodHandle" ∧ yX4_append.cls ≠ "java/lang/invoke/VarHandle" ∧ (parseMethodDescriptor yX4_append.desc).map (fun d => d.parameters.length) = some 1 := by decide +kernel
theorem yv_X4_append : yX4_append.cls = RX4 ∧ yX4_append.cls ≠ "java/lang/invoke/MethodHandle" ∧ yX4_append.cls ≠ "java/lang/invoke/VarHandle" ∧ (parseMethodDescriptor yX4_append.desc).map (fun d => d.parameters.length) = some 1 := ⟨rfl, ys_X4_append⟩
theorem in_X4_append_X4 : ∀ w ∈ wsX40, w ∈ wsX4_append := fun _ h => List.mem_cons_of_mem _ (List.mem_append_right _ (h))
theorem lk_X4_append_fieldLink_RX4_32_RaceWatch_Telling_length_I : (.fieldLink RX4 32 "RaceWatch$Telling" "length" "I" : Cond) ∈ wsX4_append := List.mem_cons_of_mem _ (List.mem_append_left _ (List.mem_of_getElem? (i := 0) rfl))
theorem lk_X4_append_fieldLink_RX4_22_RaceWatch_Telling_letters_I : (.fieldLink RX4 22 "RaceWatch$Telling" "letters" "[I" : Cond) ∈ wsX4_append := List.mem_cons_of_mem _ (List.mem_append_left _ (List.mem_of_getElem? (i := 2) rfl))
theorem lk_X4_append_constant_RX4_35_1000000004 : (.constant RX4 35 (-1000000004) : Cond) ∈ wsX4_append := List.mem_cons_of_mem _ (List.mem_append_left _ (List.mem_of_getElem? (i := 1) rfl))
abbrev rmX4_append : Room := { frames := 0, cells := 0, slots := 0, locals := 0 }
set_option maxHeartbeats 800000 in
set_option maxRecDepth 100000 in
theorem mX4_append {G : sx_G} (l : Launch) {F : Nat → va_E} {len : Nat} {fat : Int32} {lt : Nat → Int32} {q4 q5 q6 q7 q8 q9 qa : Value} {a : Int32}  (hl240 : len ≤ 240) (h84 : F (84) = ob 4 ([.int (nI (len)), .int (fat), rf G 85, rf G 88, q4, q5, q6, q7, q8, q9, qa])) (h88 : F (88) = rI G (240) (lt)) : sx_I G l yX4_append wsX4_append rmX4_append [rf G 84, .int (a)] (97) F (97) (fun r F1 => len = 240 ∧ F1 = F ∧ -1000000004 = r ∨ len < 240 ∧ F1 84 = ob 4 ([.int (nI (1 + len)), .int (fat), rf G 85, rf G 88, q4, q5, q6, q7, q8, q9, qa]) ∧ F1 88 = rI G 240 (upd lt len (a)) ∧ (∀ j, j ≠ 84 ∧ j ≠ 88 → F1 j = F j) ∧ nI (1 + len) = r) := by
  refine sx_enter (cc := cX4_append) (maxL := 2) (ret := some .int) (own := RX4) (nm := "append") (by decide) rfl rfl rfl (Nat.le_of_ble_eq_true rfl) ?_
  intro pp ee ss mm args below meth kc ls Q hQ X hs hP hl
  have hl : lv_has ls 2 [(0, rf G 84), (1, .int (a))] := hl
  have hO : ∀ j, j ≠ 84 ∧ j ≠ 88 → F j = F j := fun _ _ => rfl
  refine lv_aload_n X.1.1 X.1.2.1 dX4_append_0 rfl (lv_at hl 0 rfl) ?_
  refine sx_get X hP in_X4_append_X4 h84 (by decide) rfl 0 (by decide) lk_X4_append_fieldLink_RX4_32_RaceWatch_Telling_length_I rfl dX4_append_1 ?_
  refine lv_sipush (v := nI 240) X.1.1 X.1.2.1 dX4_append_4 (by decide) ?_
  refine sx_icmp_lt X (by omega) (by decide) (tgt := 13) dX4_append_7 (by decide) (fun c7 => ?_) (fun c7 => ?_)
  · refine lv_aload_n X.1.1 X.1.2.1 dX4_append_13 rfl (lv_at hl 0 rfl) ?_
    refine sx_get X hP in_X4_append_X4 h84 (by decide) rfl 3 (by decide) lk_X4_append_fieldLink_RX4_22_RaceWatch_Telling_letters_I rfl dX4_append_14 ?_
    refine lv_aload_n X.1.1 X.1.2.1 dX4_append_17 rfl (lv_at hl 0 rfl) ?_
    refine sx_get X hP in_X4_append_X4 h84 (by decide) rfl 0 (by decide) lk_X4_append_fieldLink_RX4_32_RaceWatch_Telling_length_I rfl dX4_append_18 ?_
    refine lv_iload_n X.1.1 X.1.2.1 dX4_append_21 rfl (lv_at hl 1 rfl) ?_
    refine sx_ast X hP h88 (by decide) (len) (by omega) (by decide) dX4_append_22 (fun F1 H1 l1 e1 o1 hP => ?_)
    obtain ⟨w1, hw1⟩ : ∃ z, z = upd lt (len) (a) := ⟨_, rfl⟩
    rw [← hw1] at e1
    have h88 : F1 (88) = rI G (240) (w1) := e1
    have h84 := (o1 (84) (by decide)).trans h84
    have hO : ∀ j, j ≠ 84 ∧ j ≠ 88 → F1 j = F j := fun j hj => (o1 j (by omega)).trans (hO j hj)
    refine lv_aload_n X.1.1 X.1.2.1 dX4_append_23 rfl (lv_at hl 0 rfl) ?_
    refine lv_dup X.1.1 X.1.2.1 dX4_append_24 rfl ?_
    refine sx_get X hP in_X4_append_X4 h84 (by decide) rfl 0 (by decide) lk_X4_append_fieldLink_RX4_32_RaceWatch_Telling_length_I rfl dX4_append_25 ?_
    refine lv_iconst (v := nI 1) X.1.1 X.1.2.1 dX4_append_28 (by decide) ?_
    refine sx_addN X (1 + len) (by omega) dX4_append_29 ?_
    refine sx_put X hP in_X4_append_X4 tyX4 tyX4_ok nmX4 h84 (by decide) rfl 0 (by decide) lk_X4_append_fieldLink_RX4_32_RaceWatch_Telling_length_I rfl rfl rfl (Nat.le_of_ble_eq_true rfl) dX4_append_30 (fun F2 H2 l2 e2 o2 hP => ?_)
    have h84 : F2 (84) = ob 4 ([.int (nI (1 + len)), .int (fat), rf G 85, rf G 88, q4, q5, q6, q7, q8, q9, qa]) := e2
    have h88 := (o2 (88) (by decide)).trans h88
    have hO : ∀ j, j ≠ 84 ∧ j ≠ 88 → F2 j = F j := fun j hj => (o2 j (by omega)).trans (hO j hj)
    refine lv_aload_n X.1.1 X.1.2.1 dX4_append_33 rfl (lv_at hl 0 rfl) ?_
    refine sx_get X hP in_X4_append_X4 h84 (by decide) rfl 0 (by decide) lk_X4_append_fieldLink_RX4_32_RaceWatch_Telling_length_I rfl dX4_append_34 ?_
    rw [hQ]
    exact sx_iret X rfl hs rfl hP dX4_append_37 (Or.inr ⟨c7, h84, h88.trans (by rw [hw1]), hO, rfl⟩)
  · refine lv_ldc (v := -1000000004) X.1.1 X.1.2.1 X.1.2.2.2.1 (X.1.2.2.2.2 _ lk_X4_append_constant_RX4_35_1000000004) dX4_append_10 ?_
    rw [hQ]
    exact sx_iret X rfl hs rfl hP dX4_append_12 (Or.inl ⟨by omega, rfl, rfl⟩)
theorem ys_X6_feed : yX6_feed.cls ≠ "java/lang/invoke/MethodHandle" ∧ yX6_feed.cls ≠ "java/lang/invoke/VarHandle" ∧ (parseMethodDescriptor yX6_feed.desc).map (fun d => d.parameters.length) = some 1 := by decide +kernel
theorem yv_X6_feed : yX6_feed.cls = RX6 ∧ yX6_feed.cls ≠ "java/lang/invoke/MethodHandle" ∧ yX6_feed.cls ≠ "java/lang/invoke/VarHandle" ∧ (parseMethodDescriptor yX6_feed.desc).map (fun d => d.parameters.length) = some 1 := ⟨rfl, ys_X6_feed⟩
theorem lk_X6_feed_constant_RX6_44_1000000002 : (.constant RX6 44 (-1000000002) : Cond) ∈ wsX6_feed := List.mem_cons_of_mem _ (List.mem_append_left _ (List.mem_append_left _ (List.mem_of_getElem? (i := 0) rfl)))
theorem in_X6_feed_X6 : ∀ w ∈ wsX60, w ∈ wsX6_feed := fun _ h => List.mem_cons_of_mem _ (List.mem_append_left _ (List.mem_append_right _ (h)))
theorem lk_X6_feed_fieldLink_RX6_27_RaceWatch_telling_LRaceWatch_Telling : (.fieldLink RX6 27 "RaceWatch" "telling" "LRaceWatch$Telling;" : Cond) ∈ wsX6_feed := List.mem_cons_of_mem _ (List.mem_append_left _ (List.mem_append_left _ (List.mem_of_getElem? (i := 1) rfl)))
abbrev rmX6_feed : Room := { frames := 1, cells := 0, slots := 0, locals := 21 }
set_option maxHeartbeats 800000 in
set_option maxRecDepth 100000 in
theorem mX6_feed {G : sx_G} (l : Launch) {F : Nat → va_E} {len : Nat} {fat : Int32} {lt : Nat → Int32} {q4 q5 q6 q7 q8 q9 qa : Value} {x : Int32}  (hl240 : len ≤ 240) (h0 : F (0) = ob 6 ([rf G 1, rf G 28, rf G 83, rf G 84])) (h84 : F (84) = ob 4 ([.int (nI (len)), .int (fat), rf G 85, rf G 88, q4, q5, q6, q7, q8, q9, qa])) (h88 : F (88) = rI G (240) (lt)) : sx_I G l yX6_feed wsX6_feed rmX6_feed [rf G 0, .int (x)] (97) F (97) (fun r F1 => (¬ inR x 256 ∧ F1 = F ∧ -1000000002 = r) ∨ ∃ a, a < 256 ∧ x = nI a ∧ (len = 240 ∧ F1 = F ∧ -1000000004 = r ∨ len < 240 ∧ F1 84 = ob 4 ([.int (nI (1 + len)), .int (fat), rf G 85, rf G 88, q4, q5, q6, q7, q8, q9, qa]) ∧ F1 88 = rI G 240 (upd lt len (nI a)) ∧ (∀ j, j ≠ 84 ∧ j ≠ 88 → F1 j = F j) ∧ nI (1 + len) = r)) := by
  refine sx_enter (cc := cX6_feed) (maxL := 2) (ret := some .int) (own := RX6) (nm := "feed") (by decide) rfl rfl rfl (Nat.le_of_ble_eq_true rfl) ?_
  intro pp ee ss mm args below meth kc ls Q hQ X hs hP hl
  have hl : lv_has ls 2 [(0, rf G 0), (1, .int (x))] := hl
  refine lv_iload_n X.1.1 X.1.2.1 dX6_feed_0 rfl (lv_at hl 1 rfl) ?_
  refine lv_if_lt X.1.1 X.1.2.1 (tgt := 11) dX6_feed_1 (by decide) (fun c1 => ?_) (fun c1 => ?_)
  · refine lv_ldc (v := -1000000002) X.1.1 X.1.2.1 X.1.2.2.2.1 (X.1.2.2.2.2 _ lk_X6_feed_constant_RX6_44_1000000002) dX6_feed_11 ?_
    rw [hQ]
    exact sx_iret X rfl hs rfl hP dX6_feed_13 (Or.inl ⟨fun q => ((isin_iff (by decide)).mp q).1 c1, rfl, rfl⟩)
  · refine lv_iload_n X.1.1 X.1.2.1 dX6_feed_4 rfl (lv_at hl 1 rfl) ?_
    refine lv_sipush (v := nI 255) X.1.1 X.1.2.1 dX6_feed_5 (by decide) ?_
    refine lv_icmp_le X.1.1 X.1.2.1 (tgt := 14) dX6_feed_8 (by decide) (fun c8 => ?_) (fun c8 => ?_)
    · obtain ⟨a, ha31, rfl⟩ := nI_of c1
      have ha : a ≤ 255 := (nI_leI ha31 (by decide)).mp c8
      refine lv_aload_n X.1.1 X.1.2.1 dX6_feed_14 rfl (lv_at hl 0 rfl) ?_
      refine sx_get X hP in_X6_feed_X6 h0 (by decide) rfl 3 (by decide) lk_X6_feed_fieldLink_RX6_27_RaceWatch_telling_LRaceWatch_Telling rfl dX6_feed_15 ?_
      refine lv_iload_n X.1.1 X.1.2.1 dX6_feed_18 rfl (lv_at hl 1 rfl) ?_
      refine sx_cvI (As := [.int (nI (a))]) (rest := []) X (mX4_append l (a := nI a) hl240 h84 h88) gX6_feed_X4_append rfl yv_X4_append ⟨Nat.le_of_ble_eq_true rfl, Nat.le_of_ble_eq_true rfl⟩ h84 (by decide) rfl rfl hl.1 rfl (Nat.le_of_ble_eq_true rfl) dX6_feed_19 ⟨Nat.le_of_ble_eq_true rfl, Nat.le_of_ble_eq_true rfl⟩ hs rfl hP (fun r1 F1 H1 l1 hp hP => ?_)
      rw [hQ]
      exact sx_iret X rfl hs rfl hP dX6_feed_22 (Or.inr ⟨a, by omega, rfl, hp⟩)
    · refine lv_ldc (v := -1000000002) X.1.1 X.1.2.1 X.1.2.2.2.1 (X.1.2.2.2.2 _ lk_X6_feed_constant_RX6_44_1000000002) dX6_feed_11 ?_
      rw [hQ]
      exact sx_iret X rfl hs rfl hP dX6_feed_13 (Or.inl ⟨fun q => by obtain ⟨j, hj, rfl⟩ := q; exact c8 ((nI_leI (by omega) (by decide)).mpr (by omega)), rfl, rfl⟩)
