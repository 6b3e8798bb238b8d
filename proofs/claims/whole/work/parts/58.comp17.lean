theorem jump_iff {own v : Int32} (h0 : 0 ≤ own) (h1 : nI 1 ≤ v) : v ≤ 2147483647 - own ↔ own.toInt64 + v.toInt64 ≤ 2147483647 := by
  obtain ⟨j, hj, rfl⟩ := nI_of (x := own) (Int32.not_lt.mpr h0)
  have hv0 : ¬ v < 0 := Int32.not_lt.mpr (Int32.le_trans (by decide : (0 : Int32) ≤ nI 1) h1)
  obtain ⟨i, hi, rfl⟩ := nI_of (x := v) hv0
  have e1 : (2147483647 : Int32) = nI 2147483647 := by decide +kernel
  have e2 : (2147483647 : Int64) = lN 2147483647 := by decide +kernel
  rw [e1, e2, pk_sub (by omega), nI_leI hi (by omega), nI_l hj, nI_l hi, lN_add, pk_lLE (by omega) (by omega)]
  omega
theorem Lg_congr {w v th so wi lo lc rb rc : Nat → Int32} {n : Nat} (hoe : ∀ e, e < n → okE w e) (e : ∀ k, 91 < k → k < 92 + 8 * n → v k = w k) (hLV : LV w n th so wi lo lc) (hRB : RBV w rb n) (hRC : RCV w rc n) : LV v n th so wi lo lc ∧ RBV v rb n ∧ RCV v rc n := by
  refine ⟨?_, ?_, ?_⟩
  · intro f hf
    obtain ⟨q1, q2, q3, q4, q5⟩ := hLV f hf
    exact ⟨q1.trans (e _ (by omega) (by omega)).symm, q2.trans (e _ (by omega) (by omega)).symm, q3.trans (e _ (by omega) (by omega)).symm, q4.trans (e _ (by omega) (by omega)).symm, fun k hk => (q5 k hk).trans (e _ (by omega) (by omega)).symm⟩
  · intro f hf ha c hc hw
    unfold accA at ha
    rw [e _ (by omega) (by omega)] at ha hw
    rw [hRB f hf ha c hc hw, cntE_congr (fun j hj => (hoe j (by omega)).1) (fun k z1 z2 => e k z1 (by omega)) f (Nat.le_refl _)]
  · intro c hc k hk
    rw [hRC c hc k hk, rcN_congr (fun j hj => (hoe j (by omega)).1) e n (Nat.le_refl _)]
theorem ys_X6_jump : yX6_jump.cls ≠ "java/lang/invoke/MethodHandle" ∧ yX6_jump.cls ≠ "java/lang/invoke/VarHandle" ∧ (parseMethodDescriptor yX6_jump.desc).map (fun d => d.parameters.length) = some 2 := by decide +kernel
theorem yv_X6_jump : yX6_jump.cls = RX6 ∧ yX6_jump.cls ≠ "java/lang/invoke/MethodHandle" ∧ yX6_jump.cls ≠ "java/lang/invoke/VarHandle" ∧ (parseMethodDescriptor yX6_jump.desc).map (fun d => d.parameters.length) = some 2 := ⟨rfl, ys_X6_jump⟩
theorem in_X6_jump_X6 : ∀ w ∈ wsX60, w ∈ wsX6_jump := fun _ h => List.mem_cons_of_mem _ (List.mem_append_left _ (List.mem_append_left _ (List.mem_append_right _ (h))))
theorem lk_X6_jump_fieldLink_RX6_10_RaceWatch_world_LRaceWatch_World : (.fieldLink RX6 10 "RaceWatch" "world" "LRaceWatch$World;" : Cond) ∈ wsX6_jump := List.mem_cons_of_mem _ (List.mem_append_left _ (List.mem_append_left _ (List.mem_append_left _ (List.mem_append_left _ (List.mem_of_getElem? (i := 2) rfl)))))
theorem in_X6_jump_X5 : ∀ w ∈ wsX50, w ∈ wsX6_jump := fun _ h => List.mem_cons_of_mem _ (List.mem_append_left _ (List.mem_append_right _ (h)))
theorem lk_X6_jump_fieldLink_RX6_73_RaceWatch_World_ofThreads_LRaceWatch_Clocks : (.fieldLink RX6 73 "RaceWatch$World" "ofThreads" "LRaceWatch$Clocks;" : Cond) ∈ wsX6_jump := List.mem_cons_of_mem _ (List.mem_append_left _ (List.mem_append_left _ (List.mem_append_left _ (List.mem_append_left _ (List.mem_of_getElem? (i := 4) rfl)))))
theorem lk_X6_jump_constant_RX6_83_2147483647 : (.constant RX6 83 (2147483647) : Cond) ∈ wsX6_jump := List.mem_cons_of_mem _ (List.mem_append_left _ (List.mem_append_left _ (List.mem_append_left _ (List.mem_append_left _ (List.mem_of_getElem? (i := 5) rfl)))))
theorem lk_X6_jump_constant_RX6_84_1000000005 : (.constant RX6 84 (-1000000005) : Cond) ∈ wsX6_jump := List.mem_cons_of_mem _ (List.mem_append_left _ (List.mem_append_left _ (List.mem_append_left _ (List.mem_append_left _ (List.mem_of_getElem? (i := 6) rfl)))))
theorem lk_X6_jump_constant_RX6_72_1000000003 : (.constant RX6 72 (-1000000003) : Cond) ∈ wsX6_jump := List.mem_cons_of_mem _ (List.mem_append_left _ (List.mem_append_left _ (List.mem_append_left _ (List.mem_append_left _ (List.mem_of_getElem? (i := 3) rfl)))))
theorem lk_X6_jump_constant_RX6_44_1000000002 : (.constant RX6 44 (-1000000002) : Cond) ∈ wsX6_jump := List.mem_cons_of_mem _ (List.mem_append_left _ (List.mem_append_left _ (List.mem_append_left _ (List.mem_append_left _ (List.mem_of_getElem? (i := 1) rfl)))))
theorem lk_X6_jump_constant_RX6_67_1000000001 : (.constant RX6 67 (-1000000001) : Cond) ∈ wsX6_jump := List.mem_cons_of_mem _ (List.mem_append_left _ (List.mem_append_left _ (List.mem_append_left _ (List.mem_append_left _ (List.mem_of_getElem? (i := 0) rfl)))))
abbrev rmX6_jump : Room := { frames := 1, cells := 0, slots := 0, locals := 23 }
set_option maxHeartbeats 800000 in
set_option maxRecDepth 100000 in
theorem mX6_jump {G : sx_G} (l : Launch) {F : Nat → va_E} {w : Nat → Int32} {M : Nat} {xt v : Int32}  (hW : WV G F w M 1) (hwf : WFw w M) (h0 : F (0) = ob 6 ([rf G 1, rf G 28, rf G 83, rf G 84])) : sx_I G l yX6_jump wsX6_jump rmX6_jump [rf G 0, .int (xt), .int (v)] (97) F (97) (fun r F1 => (F1 = F ∧ jumpF w xt v = (r, w)) ∨ ∃ t, t < 4 ∧ xt = nI t ∧ jumpF w xt v = (r, upd w (4 + 5 * t) (w (4 + 5 * t) + v)) ∧ WV G F1 (upd w (4 + 5 * t) (w (4 + 5 * t) + v)) M 1 ∧ ∀ j, (j = 0 ∨ 27 < j) → F1 j = F j) := by
  refine sx_enter (cc := cX6_jump) (maxL := 4) (ret := some .int) (own := RX6) (nm := "jump") (by decide) rfl rfl rfl (Nat.le_of_ble_eq_true rfl) ?_
  intro pp ee ss mm args below meth kc ls Q hQ X hs hP hl
  have hl : lv_has ls 4 [(0, rf G 0), (1, .int (xt)), (2, .int (v))] := hl
  have hO : ∀ j, j ≠ 5 → F j = F j := fun _ _ => rfl
  obtain ⟨st, ho, ct, cl, cs, kr, r4, r6, r8, h1, h2, h3, h4, h5, h6, h7, h8, h9, h10, hkr, hRV, hKV, hLg, hRw⟩ := hW
  obtain ⟨th, so, wi, lo, lc, rb, rc, rr, h19, h20, h21, h22, h23, h24, h25, h26, h27, hLV, hRB, hRC⟩ := hLg
  have h1 : F 1 = ob 5 ([rf G 2, rf G 3, rf G 4, rf G 6, rf G 8, rf G 10, rf G 19]) := h1
  have h2 : F 2 = rI G (4) (st) := h2
  have h3 : F 3 = rI G (3) (ho) := h3
  have h4 : F 4 = ob 1 ([r4, rf G 5]) := h4
  have h5 : F 5 = rI G (16) (ct) := h5
  have h6 : F 6 = ob 1 ([r6, rf G 7]) := h6
  have h7 : F 7 = rI G (12) (cl) := h7
  have h8 : F 8 = ob 1 ([r8, rf G 9]) := h8
  have h9 : F 9 = rI G (8) (cs) := h9
  have h10 : F 10 = rK G (4) (kr) := h10
  have h19 : F 19 = ob 3 ([.int (nI (M)), rf G 20, rf G 21, rf G 22, rf G 23, rf G 24, rf G 26, rf G 27]) := h19
  have h20 : F 20 = rI G (160) (th) := h20
  have h21 : F 21 = rI G (160) (so) := h21
  have h22 : F 22 = rI G (160) (wi) := h22
  have h23 : F 23 = rI G (160) (lo) := h23
  have h24 : F 24 = ob 1 ([rr, rf G 25]) := h24
  have h25 : F 25 = rI G (640) (lc) := h25
  have h26 : F 26 = rI G (160) (rb) := h26
  have h27 : F 27 = rI G (12) (rc) := h27
  have hkr : ∀ j, j < 4 → kr j = some (sx_b G + (11 + 2 * j)) := hkr
  have hM := hwf.2.1
  have hok := hwf.2.2.1
  refine lv_iload_n X.1.1 X.1.2.1 dX6_jump_0 rfl (lv_at hl 1 rfl) ?_
  refine lv_iconst (v := nI 4) X.1.1 X.1.2.1 dX6_jump_1 (by decide) ?_
  refine sx_csI (As := [.int (xt), .int (nI 4)]) (rest := []) X (mX6_isIn l (x := (xt)) (k := 4) (by omega)) gX6_jump_X6_isIn rfl ys_X6_isIn ⟨Nat.le_of_ble_eq_true rfl, Nat.le_of_ble_eq_true rfl⟩ hl.1 rfl (Nat.le_of_ble_eq_true rfl) dX6_jump_2 ⟨Nat.le_of_ble_eq_true rfl, Nat.le_of_ble_eq_true rfl⟩ hs rfl hP (fun r1 F1 H1 l1 hp hP => ?_)
  obtain ⟨rfl, ⟨b2, rfl⟩ | ⟨b2, rfl⟩⟩ := hp
  · obtain ⟨t, ht, rfl⟩ := b2
    have hown : ct (5 * t) = w (4 + 5 * t) := hRV.2.2.1 (5 * t) (by omega)
    have hge : 0 ≤ ct (5 * t) := by rw [hown]; exact hwf.2.2.2.2 _ (by omega) (by omega)
    refine sx_if_ne X (by decide) (tgt := 11) dX6_jump_5 (by decide) (fun _ => ?_) (fun h => absurd h (by decide))
    refine lv_iload_n X.1.1 X.1.2.1 dX6_jump_11 rfl (lv_at hl 2 rfl) ?_
    refine lv_iconst (v := nI 1) X.1.1 X.1.2.1 dX6_jump_12 (by decide) ?_
    refine lv_icmp_ge X.1.1 X.1.2.1 (tgt := 19) dX6_jump_13 (by decide) (fun c13 => ?_) (fun c13 => ?_)
    · refine lv_aload_n X.1.1 X.1.2.1 dX6_jump_19 rfl (lv_at hl 0 rfl) ?_
      refine sx_get X hP in_X6_jump_X6 h0 (by decide) rfl 0 (by decide) lk_X6_jump_fieldLink_RX6_10_RaceWatch_world_LRaceWatch_World rfl dX6_jump_20 ?_
      refine lv_iload_n X.1.1 X.1.2.1 dX6_jump_23 rfl (lv_at hl 1 rfl) ?_
      refine sx_cvI (As := [.int (nI (t))]) (rest := []) X (mX5_goes l (t := t) (by omega) h1 h2) gX6_jump_X5_goes rfl yv_X5_goes ⟨Nat.le_of_ble_eq_true rfl, Nat.le_of_ble_eq_true rfl⟩ h1 (by decide) rfl rfl hl.1 rfl (Nat.le_of_ble_eq_true rfl) dX6_jump_24 ⟨Nat.le_of_ble_eq_true rfl, Nat.le_of_ble_eq_true rfl⟩ hs rfl hP (fun r3 F3 H3 l3 hp hP => ?_)
      obtain ⟨rfl, ⟨b4, rfl⟩ | ⟨b4, rfl⟩⟩ := hp
      · refine sx_if_ne X (by decide) (tgt := 33) dX6_jump_27 (by decide) (fun _ => ?_) (fun h => absurd h (by decide))
        refine lv_aload_n X.1.1 X.1.2.1 dX6_jump_33 rfl (lv_at hl 0 rfl) ?_
        refine sx_get X hP in_X6_jump_X6 h0 (by decide) rfl 0 (by decide) lk_X6_jump_fieldLink_RX6_10_RaceWatch_world_LRaceWatch_World rfl dX6_jump_34 ?_
        refine sx_get X hP in_X6_jump_X5 h1 (by decide) rfl 2 (by decide) lk_X6_jump_fieldLink_RX6_73_RaceWatch_World_ofThreads_LRaceWatch_Clocks rfl dX6_jump_37 ?_
        refine lv_iload_n X.1.1 X.1.2.1 dX6_jump_40 rfl (lv_at hl 1 rfl) ?_
        refine lv_iload_n X.1.1 X.1.2.1 dX6_jump_41 rfl (lv_at hl 1 rfl) ?_
        refine sx_cvI (As := [.int (nI (t)), .int (nI (t))]) (rest := []) X (mX1_number l (ci := 4) (cj := 5) (L := 16) (row := t) (t := t) (by decide) (by decide) (by decide) (by decide) (by omega) h4 h5) gX6_jump_X1_number rfl yv_X1_number ⟨Nat.le_of_ble_eq_true rfl, Nat.le_of_ble_eq_true rfl⟩ h4 (by decide) rfl rfl hl.1 rfl (Nat.le_of_ble_eq_true rfl) dX6_jump_42 ⟨Nat.le_of_ble_eq_true rfl, Nat.le_of_ble_eq_true rfl⟩ hs rfl hP (fun r5 F5 H5 l5 hp hP => ?_)
        obtain ⟨rfl, rfl⟩ := hp
        rw [show ct (4 * t + t) = ct (5 * t) from congrArg _ (by omega)]
        refine lv_istore_n (lv' := [(3, .int (ct (5 * t))), (0, rf G 0), (1, .int (nI (t))), (2, .int (v))]) X.1.1 X.1.2.1 dX6_jump_45 rfl hl (by decide) rfl (fun ls hl => ?_)
        refine lv_iload_n X.1.1 X.1.2.1 dX6_jump_46 rfl (lv_at hl 3 rfl) ?_
        refine lv_ldc (v := 2147483647) X.1.1 X.1.2.1 X.1.2.2.2.1 (X.1.2.2.2.2 _ lk_X6_jump_constant_RX6_83_2147483647) dX6_jump_47 ?_
        refine lv_iload_n X.1.1 X.1.2.1 dX6_jump_49 rfl (lv_at hl 0 rfl) ?_
        refine lv_isub X.1.1 X.1.2.1 dX6_jump_50 ?_
        refine lv_icmp_le X.1.1 X.1.2.1 (tgt := 57) dX6_jump_51 (by decide) (fun c51 => ?_) (fun c51 => ?_)
        · refine lv_aload_n X.1.1 X.1.2.1 dX6_jump_57 rfl (lv_at hl 1 rfl) ?_
          refine sx_get X hP in_X6_jump_X6 h0 (by decide) rfl 0 (by decide) lk_X6_jump_fieldLink_RX6_10_RaceWatch_world_LRaceWatch_World rfl dX6_jump_58 ?_
          refine sx_get X hP in_X6_jump_X5 h1 (by decide) rfl 2 (by decide) lk_X6_jump_fieldLink_RX6_73_RaceWatch_World_ofThreads_LRaceWatch_Clocks rfl dX6_jump_61 ?_
          refine lv_iload_n X.1.1 X.1.2.1 dX6_jump_64 rfl (lv_at hl 2 rfl) ?_
          refine lv_iload_n X.1.1 X.1.2.1 dX6_jump_65 rfl (lv_at hl 2 rfl) ?_
          refine lv_iload_n X.1.1 X.1.2.1 dX6_jump_66 rfl (lv_at hl 0 rfl) ?_
          refine lv_iload_n X.1.1 X.1.2.1 dX6_jump_67 rfl (lv_at hl 3 rfl) ?_
          refine lv_iadd X.1.1 X.1.2.1 dX6_jump_68 ?_
          refine sx_cvV (As := [.int (nI (t)), .int (nI (t)), .int ((ct (5 * t)) + (v))]) (rest := []) X (mX1_set l (ci := 4) (cj := 5) (L := 16) (row := t) (t := t) (v := ((ct (5 * t)) + (v))) (by decide) (by decide) (by decide) (by decide) (by omega) h4 h5) gX6_jump_X1_set rfl yv_X1_set ⟨Nat.le_of_ble_eq_true rfl, Nat.le_of_ble_eq_true rfl⟩ h4 (by decide) rfl rfl hl.1 rfl (Nat.le_of_ble_eq_true rfl) dX6_jump_69 ⟨Nat.le_of_ble_eq_true rfl, Nat.le_of_ble_eq_true rfl⟩ hs rfl hP (fun F6 H6 l6 hp hP => ?_)
          obtain ⟨e6, o6⟩ := hp
          rw [show 4 * t + t = 5 * t by omega] at e6
          obtain ⟨w6, hw6⟩ : ∃ z, z = upd ct (5 * t) ((ct (5 * t)) + (v)) := ⟨_, rfl⟩
          rw [← hw6] at e6
          have h5 : F6 (5) = rI G (16) (w6) := e6
          have h0 := (o6 (0) (by decide)).trans h0
          have h1 := (o6 (1) (by decide)).trans h1
          have h2 := (o6 (2) (by decide)).trans h2
          have h3 := (o6 (3) (by decide)).trans h3
          have h4 := (o6 (4) (by decide)).trans h4
          have h6 := (o6 (6) (by decide)).trans h6
          have h7 := (o6 (7) (by decide)).trans h7
          have h8 := (o6 (8) (by decide)).trans h8
          have h9 := (o6 (9) (by decide)).trans h9
          have h10 := (o6 (10) (by decide)).trans h10
          have h19 := (o6 (19) (by decide)).trans h19
          have h20 := (o6 (20) (by decide)).trans h20
          have h21 := (o6 (21) (by decide)).trans h21
          have h22 := (o6 (22) (by decide)).trans h22
          have h23 := (o6 (23) (by decide)).trans h23
          have h24 := (o6 (24) (by decide)).trans h24
          have h25 := (o6 (25) (by decide)).trans h25
          have h26 := (o6 (26) (by decide)).trans h26
          have h27 := (o6 (27) (by decide)).trans h27
          have hO : ∀ j, j ≠ 5 → F6 j = F j := fun j hj => (o6 j (by omega)).trans (hO j hj)
          refine lv_iload_n X.1.1 X.1.2.1 dX6_jump_72 rfl (lv_at hl 0 rfl) ?_
          refine lv_iload_n X.1.1 X.1.2.1 dX6_jump_73 rfl (lv_at hl 3 rfl) ?_
          refine lv_iadd X.1.1 X.1.2.1 dX6_jump_74 ?_
          have hev : jumpF w (nI t) v = (ct (5 * t) + v, upd w (4 + 5 * t) (ct (5 * t) + v)) := by unfold jumpF; rw [cif_f (fun q => q ⟨t, ht, rfl⟩), cif_f (fun q => q c13), nI_clamp (n := t) (by omega), ← hRV.1 t ht, cif_f (fun q => q b4), ← hown, cif_f (fun q => q ((jump_iff hge c13).mp c51))]
          obtain ⟨hL1, hL2, hL3⟩ := Lg_congr (v := upd w (4 + 5 * t) (ct (5 * t) + v)) hok (fun k a b => pk_un (by omega)) hLV hRB hRC
          have hct : ∀ k, k < 16 → w6 k = upd w (4 + 5 * t) (ct (5 * t) + v) (4 + k) := by rw [hw6]; exact upd_row hRV.2.2.1
          have hKc : ∀ c, c < 4 → KV G F6 (upd w (4 + 5 * t) (ct (5 * t) + v)) M 1 c := fun c hc => KV_up (hKV c hc) (hO _ (by omega)) (hO _ (by omega)) (fun k a b => pk_un (by omega)) (gdF_congr (fun k a b => pk_un (by omega)) M (Nat.le_refl _))
          rw [hQ]
          exact sx_iret X rfl hs rfl hP dX6_jump_75 (Or.inr ⟨t, ht, rfl, by rw [← hown]; exact hev, by rw [← hown]; exact ⟨_, _, _, _, _, kr, r4, r6, r8, h1, h2, h3, h4, h5, h6, h7, h8, h9, h10, hkr, ⟨fun k hk => (hRV.1 k hk).trans (pk_un (by omega)).symm, fun k hk => (hRV.2.1 k hk).trans (pk_un (by omega)).symm, hct, fun k hk => (hRV.2.2.2.1 k hk).trans (pk_un (by omega)).symm, fun k hk => (hRV.2.2.2.2 k hk).trans (pk_un (by omega)).symm⟩, hKc, ⟨_, _, _, _, _, _, _, rr, h19, h20, h21, h22, h23, h24, h25, h26, h27, hL1, hL2, hL3⟩, hRw⟩, fun j hj => hO j (by omega)⟩)
        · refine lv_ldc (v := -1000000005) X.1.1 X.1.2.1 X.1.2.2.2.1 (X.1.2.2.2.2 _ lk_X6_jump_constant_RX6_84_1000000005) dX6_jump_54 ?_
          rw [hQ]
          exact sx_iret X rfl hs rfl hP dX6_jump_56 (Or.inl ⟨rfl, by unfold jumpF; rw [cif_f (fun q => q ⟨t, ht, rfl⟩), cif_f (fun q => q c13), nI_clamp (n := t) (by omega), ← hRV.1 t ht, cif_f (fun q => q b4), ← hown, cif_t (fun q => c51 ((jump_iff hge c13).mpr q))]⟩)
      · refine sx_if_ne X (by decide) (tgt := 33) dX6_jump_27 (by decide) (fun h => absurd h (by decide)) (fun _ => ?_)
        refine lv_ldc (v := -1000000003) X.1.1 X.1.2.1 X.1.2.2.2.1 (X.1.2.2.2.2 _ lk_X6_jump_constant_RX6_72_1000000003) dX6_jump_30 ?_
        rw [hQ]
        exact sx_iret X rfl hs rfl hP dX6_jump_32 (Or.inl ⟨rfl, by unfold jumpF; rw [cif_f (fun q => q ⟨t, ht, rfl⟩), cif_f (fun q => q c13), nI_clamp (n := t) (by omega), ← hRV.1 t ht, cif_t b4]⟩)
    · refine lv_ldc (v := -1000000002) X.1.1 X.1.2.1 X.1.2.2.2.1 (X.1.2.2.2.2 _ lk_X6_jump_constant_RX6_44_1000000002) dX6_jump_16 ?_
      rw [hQ]
      exact sx_iret X rfl hs rfl hP dX6_jump_18 (Or.inl ⟨rfl, by unfold jumpF; rw [cif_f (fun q => q ⟨t, ht, rfl⟩), cif_t c13]⟩)
  · refine sx_if_ne X (by decide) (tgt := 11) dX6_jump_5 (by decide) (fun h => absurd h (by decide)) (fun _ => ?_)
    refine lv_ldc (v := -1000000001) X.1.1 X.1.2.1 X.1.2.2.2.1 (X.1.2.2.2.2 _ lk_X6_jump_constant_RX6_67_1000000001) dX6_jump_8 ?_
    rw [hQ]
    exact sx_iret X rfl hs rfl hP dX6_jump_10 (Or.inl ⟨rfl, by unfold jumpF; rw [cif_t b2]⟩)
