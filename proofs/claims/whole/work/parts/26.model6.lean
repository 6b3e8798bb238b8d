theorem ys_X7_draw : yX7_draw.cls ≠ "java/lang/invoke/MethodHandle" ∧ yX7_draw.cls ≠ "java/lang/invoke/VarHandle" ∧ (parseMethodDescriptor yX7_draw.desc).map (fun d => d.parameters.length) = some 1 := by decide +kernel
theorem yv_X7_draw : yX7_draw.cls = RX7 ∧ yX7_draw.cls ≠ "java/lang/invoke/MethodHandle" ∧ yX7_draw.cls ≠ "java/lang/invoke/VarHandle" ∧ (parseMethodDescriptor yX7_draw.desc).map (fun d => d.parameters.length) = some 1 := ⟨rfl, ys_X7_draw⟩
theorem in_X7_draw_X7 : ∀ w ∈ wsX70, w ∈ wsX7_draw := fun _ h => List.mem_cons_of_mem _ (List.mem_append_right _ (h))
theorem lk_X7_draw_fieldLink_RX7_110_RaceWatchModel_x_J : (.fieldLink RX7 110 "RaceWatchModel" "x" "J" : Cond) ∈ wsX7_draw := List.mem_cons_of_mem _ (List.mem_append_left _ (List.mem_of_getElem? (i := 0) rfl))
theorem lk_X7_draw_constantLong_RX7_114_16807 : (.constantLong RX7 114 (16807) : Cond) ∈ wsX7_draw := List.mem_cons_of_mem _ (List.mem_append_left _ (List.mem_of_getElem? (i := 1) rfl))
theorem lk_X7_draw_constantLong_RX7_108_2147483647 : (.constantLong RX7 108 (2147483647) : Cond) ∈ wsX7_draw := List.mem_cons_of_mem _ (List.mem_append_left _ (List.mem_of_getElem? (i := 2) rfl))
abbrev rmX7_draw : Room := { frames := 0, cells := 0, slots := 0, locals := 0 }
set_option maxHeartbeats 4000000 in
set_option maxRecDepth 100000 in
theorem mX7_draw {G : sx_G} (l : Launch) {F : Nat → va_E} {a1 a2 a3 : Value} {of : List Value} {k d : Nat} (hk : k < 2147483647) (h0 : 0 < d) (hd : d < 2 ^ 31) (h91 : F (91) = ob 7 (rf G 92 :: a1 :: a2 :: a3 :: .long (lN k) :: of)) : sx_I G l yX7_draw wsX7_draw rmX7_draw [rf G 91, .int (nI (d))] (97) F (97) (fun r F1 => F1 91 = ob 7 (rf G 92 :: a1 :: a2 :: a3 :: .long (lN (lot k)) :: of) ∧ (∀ j, j ≠ 91 → F1 j = F j) ∧ nI (lot k % d) = r) := by
  refine sx_enter (cc := cX7_draw) (maxL := 2) (ret := some .int) (own := RX7) (nm := "draw") (by decide) rfl rfl rfl (Nat.le_of_ble_eq_true rfl) ?_
  intro pp ee ss mm args below meth kc ls Q hQ X hs hP hl
  have hl : lv_has ls 2 [(0, rf G 91), (1, .int (nI (d)))] := hl
  have hO : ∀ j, j ≠ 91 → F j = F j := fun _ _ => rfl
  refine lv_aload_n X.1.1 X.1.2.1 dX7_draw_0 rfl (lv_at hl 0 rfl) ?_
  refine lv_aload_n X.1.1 X.1.2.1 dX7_draw_1 rfl (lv_at hl 0 rfl) ?_
  refine sx_get X hP in_X7_draw_X7 h91 (by decide) rfl 4 (by decide) lk_X7_draw_fieldLink_RX7_110_RaceWatchModel_x_J rfl dX7_draw_2 ?_
  refine lv_ldc2 (v := 16807) X.1.1 X.1.2.1 X.1.2.2.2.1 (X.1.2.2.2.2 _ lk_X7_draw_constantLong_RX7_114_16807) dX7_draw_5 ?_
  refine lv_lmul X.1.1 X.1.2.1 dX7_draw_8 ?_
  refine lv_ldc2 (v := 2147483647) X.1.1 X.1.2.1 X.1.2.2.2.1 (X.1.2.2.2.2 _ lk_X7_draw_constantLong_RX7_108_2147483647) dX7_draw_9 ?_
  refine lv_lrem X.1.1 X.1.2.1 dX7_draw_12 (by decide) ?_
  rw [lotL hk]
  refine sx_put X hP in_X7_draw_X7 tyX7 tyX7_ok nmX7 h91 (by decide) rfl 4 (by decide) lk_X7_draw_fieldLink_RX7_110_RaceWatchModel_x_J rfl rfl rfl (by simp) dX7_draw_13 (fun F1 H1 l1 e1 o1 hP => ?_)
  have h91 : F1 (91) = ob 7 (rf G 92 :: a1 :: a2 :: a3 :: .long (lN (lot k)) :: of) := e1
  have hO : ∀ j, j ≠ 91 → F1 j = F j := fun j hj => (o1 j (by omega)).trans (hO j hj)
  refine lv_aload_n X.1.1 X.1.2.1 dX7_draw_16 rfl (lv_at hl 0 rfl) ?_
  refine sx_get X hP in_X7_draw_X7 h91 (by decide) rfl 4 (by decide) lk_X7_draw_fieldLink_RX7_110_RaceWatchModel_x_J rfl dX7_draw_17 ?_
  refine lv_iload_n X.1.1 X.1.2.1 dX7_draw_20 rfl (lv_at hl 1 rfl) ?_
  refine lv_i2l (v := (nI (d)).toInt64) X.1.1 X.1.2.1 dX7_draw_21 rfl ?_
  refine lv_lrem X.1.1 X.1.2.1 dX7_draw_22 (sx_dne h0 hd) ?_
  refine lv_l2i (v := ((lN (lot k)) - (lN (lot k)) / ((nI (d)).toInt64) * ((nI (d)).toInt64)).toInt32) X.1.1 X.1.2.1 dX7_draw_23 rfl ?_
  rw [hQ]
  exact sx_iret X rfl hs rfl hP dX7_draw_24 (⟨h91, hO, (drawL (lot_lt k) h0 hd).symm⟩)
theorem ys_X7_drift : yX7_drift.cls ≠ "java/lang/invoke/MethodHandle" ∧ yX7_drift.cls ≠ "java/lang/invoke/VarHandle" ∧ (parseMethodDescriptor yX7_drift.desc).map (fun d => d.parameters.length) = some 2 := by decide +kernel
theorem yv_X7_drift : yX7_drift.cls = RX7 ∧ yX7_drift.cls ≠ "java/lang/invoke/MethodHandle" ∧ yX7_drift.cls ≠ "java/lang/invoke/VarHandle" ∧ (parseMethodDescriptor yX7_drift.desc).map (fun d => d.parameters.length) = some 2 := ⟨rfl, ys_X7_drift⟩
theorem lk_X7_drift_constantLong_RX7_116_40 : (.constantLong RX7 116 (40) : Cond) ∈ wsX7_drift := List.mem_cons_of_mem _ (List.mem_append_left _ (List.mem_append_left _ (List.mem_of_getElem? (i := 0) rfl)))
theorem lk_X7_drift_constantLong_RX7_118_999999 : (.constantLong RX7 118 (999999) : Cond) ∈ wsX7_drift := List.mem_cons_of_mem _ (List.mem_append_left _ (List.mem_append_left _ (List.mem_of_getElem? (i := 1) rfl)))
theorem in_X7_drift_X7 : ∀ w ∈ wsX70, w ∈ wsX7_drift := fun _ h => List.mem_cons_of_mem _ (List.mem_append_right _ (h))
theorem lk_X7_drift_fieldLink_RX7_110_RaceWatchModel_x_J : (.fieldLink RX7 110 "RaceWatchModel" "x" "J" : Cond) ∈ wsX7_drift := List.mem_cons_of_mem _ (List.mem_append_left _ (List.mem_append_left _ (List.mem_of_getElem? (i := 3) rfl)))
theorem lk_X7_drift_constant_RX7_98_1000000002 : (.constant RX7 98 (-1000000002) : Cond) ∈ wsX7_drift := List.mem_cons_of_mem _ (List.mem_append_left _ (List.mem_append_left _ (List.mem_of_getElem? (i := 2) rfl)))
abbrev rmX7_drift : Room := { frames := 5, cells := 0, slots := 0, locals := 124 }
set_option maxHeartbeats 4000000 in
set_option maxRecDepth 100000 in
theorem mX7_drift {G : sx_G} (l : Launch) {F : Nat → va_E} {w : Nat → Int32} {a1 a2 a3 : Value} {of : List Value} {n : Nat} {x0 : Int64} {x y : Int32} (hWF : WFw w n) (h91 : F (91) = ob 7 (rf G 92 :: a1 :: a2 :: a3 :: .long (x0) :: of)) (h92 : F (92) = rI G (4358) (w)) : sx_I G l yX7_drift wsX7_drift rmX7_drift [rf G 91, .int (x), .int (y)] (97) F (97) (fun r F1 => (¬ (inS x 40 ∧ inS y 999999) ∧ F1 = F ∧ -1000000002 = r) ∨ ∃ m sd, 1 ≤ m ∧ m ≤ 40 ∧ 1 ≤ sd ∧ sd ≤ 999999 ∧ x = nI m ∧ y = nI sd ∧ (F1 92 = rI G 4358 (drI (w, n, sd, 0) m).1 ∧ (∃ z, F1 91 = ob 7 (rf G 92 :: a1 :: a2 :: a3 :: .long (z) :: of)) ∧ (∀ j, j ≠ 91 ∧ j ≠ 92 → F1 j = F j) ∧ nI (drI (w, n, sd, 0) m).2.2.2 = r)) := by
  refine sx_enter (cc := cX7_drift) (maxL := 8) (ret := some .int) (own := RX7) (nm := "drift") (by decide) rfl rfl rfl (Nat.le_of_ble_eq_true rfl) ?_
  intro pp ee ss mm args below meth kc ls Q hQ X hs hP hl
  have hl : lv_has ls 8 [(0, rf G 91), (1, .int (x)), (2, .int (y))] := hl
  have hO : ∀ j, j ≠ 91 ∧ j ≠ 92 → F j = F j := fun _ _ => rfl
  refine lv_iload_n X.1.1 X.1.2.1 dX7_drift_0 rfl (lv_at hl 1 rfl) ?_
  refine lv_i2l (v := (x).toInt64) X.1.1 X.1.2.1 dX7_drift_1 rfl ?_
  refine lv_lconst (v := 1) X.1.1 X.1.2.1 dX7_drift_2 (by decide) ?_
  refine lv_ldc2 (v := 40) X.1.1 X.1.2.1 X.1.2.2.2.1 (X.1.2.2.2.2 _ lk_X7_drift_constantLong_RX7_116_40) dX7_drift_3 ?_
  refine sx_csI (As := [.long ((x).toInt64), .long (1), .long (40)]) (rest := []) X (mX7_in l) gX7_drift_X7_in rfl ys_X7_in ⟨Nat.le_of_ble_eq_true rfl, Nat.le_of_ble_eq_true rfl⟩ hl.1 rfl (Nat.le_of_ble_eq_true rfl) dX7_drift_6 ⟨Nat.le_of_ble_eq_true rfl, Nat.le_of_ble_eq_true rfl⟩ hs rfl hP (fun r1 F1 H1 l1 hp hP => ?_)
  obtain ⟨rfl, ⟨b2, rfl⟩ | ⟨b2, rfl⟩⟩ := hp
  · obtain ⟨m, hm1, hm2, rfl⟩ := sx_in1 (K := 40) (by decide) (by decide) b2
    refine sx_if_eq X (by decide) (tgt := 24) dX7_drift_9 (by decide) (fun h => absurd h (by decide)) (fun _ => ?_)
    refine lv_iload_n X.1.1 X.1.2.1 dX7_drift_12 rfl (lv_at hl 2 rfl) ?_
    refine lv_i2l (v := (y).toInt64) X.1.1 X.1.2.1 dX7_drift_13 rfl ?_
    refine lv_lconst (v := 1) X.1.1 X.1.2.1 dX7_drift_14 (by decide) ?_
    refine lv_ldc2 (v := 999999) X.1.1 X.1.2.1 X.1.2.2.2.1 (X.1.2.2.2.2 _ lk_X7_drift_constantLong_RX7_118_999999) dX7_drift_15 ?_
    refine sx_csI (As := [.long ((y).toInt64), .long (1), .long (999999)]) (rest := []) X (mX7_in l) gX7_drift_X7_in rfl ys_X7_in ⟨Nat.le_of_ble_eq_true rfl, Nat.le_of_ble_eq_true rfl⟩ hl.1 rfl (Nat.le_of_ble_eq_true rfl) dX7_drift_18 ⟨Nat.le_of_ble_eq_true rfl, Nat.le_of_ble_eq_true rfl⟩ hs rfl hP (fun r3 F3 H3 l3 hp hP => ?_)
    obtain ⟨rfl, ⟨b4, rfl⟩ | ⟨b4, rfl⟩⟩ := hp
    · obtain ⟨sd, hd1, hd2, rfl⟩ := sx_in1 (K := 999999) (by decide) (by decide) b4
      refine sx_if_ne X (by decide) (tgt := 27) dX7_drift_21 (by decide) (fun _ => ?_) (fun h => absurd h (by decide))
      refine lv_aload_n X.1.1 X.1.2.1 dX7_drift_27 rfl (lv_at hl 0 rfl) ?_
      refine lv_iload_n X.1.1 X.1.2.1 dX7_drift_28 rfl (lv_at hl 2 rfl) ?_
      refine lv_i2l (v := (nI (sd)).toInt64) X.1.1 X.1.2.1 dX7_drift_29 rfl ?_
      rw [nI_l (by omega)]
      refine sx_put X hP in_X7_drift_X7 tyX7 tyX7_ok nmX7 h91 (by decide) rfl 4 (by decide) lk_X7_drift_fieldLink_RX7_110_RaceWatchModel_x_J rfl rfl rfl (by simp) dX7_drift_30 (fun F5 H5 l5 e5 o5 hP => ?_)
      have h91 : F5 (91) = ob 7 (rf G 92 :: a1 :: a2 :: a3 :: .long (lN sd) :: of) := e5
      have h92 := (o5 (92) (by decide)).trans h92
      have hO : ∀ j, j ≠ 91 ∧ j ≠ 92 → F5 j = F j := fun j hj => (o5 j (by omega)).trans (hO j hj)
      refine lv_iconst (v := nI 0) X.1.1 X.1.2.1 dX7_drift_33 (by decide) ?_
      refine lv_istore_n (lv' := [(3, .int (nI 0)), (0, rf G 91), (1, .int (nI (m))), (2, .int (nI (sd)))]) X.1.1 X.1.2.1 dX7_drift_34 rfl hl (by decide) rfl (fun ls hl => ?_)
      refine lv_iconst (v := nI 0) X.1.1 X.1.2.1 dX7_drift_35 (by decide) ?_
      refine lv_istore (lv' := [(4, .int (nI 0)), (3, .int (nI 0)), (0, rf G 91), (1, .int (nI (m))), (2, .int (nI (sd)))]) X.1.1 X.1.2.1 dX7_drift_36 hl (by decide) rfl (fun ls hl => ?_)
      have lo : ∀ (k_lo : Nat) (r : Nat → Int32) (nn : Nat) (kk : Nat) (a : Nat) (q : Nat) (Fv : Nat → va_E) (Hv : Heap) (lv : List Loc) (ls : Array Slot), (q + k_lo = m) → (drI (w, n, sd, 0) q = (r, nn, kk, a)) → (WFw r nn) → (kk < 2147483647) → (Fv (91) = ob 7 (rf G 92 :: a1 :: a2 :: a3 :: .long (lN kk) :: of)) → (Fv (92) = rI G (4358) (r)) → (∀ j, j ≠ 91 ∧ j ≠ 92 → Fv j = F j) → sx_H G (97) Fv ss.heap Hv lv → lv_has ls 8 [(0, rf G 91), (1, .int (nI (m))), (2, .int (nI (sd))), (3, .int (nI (a))), (4, .int (nI (q)))] → W pp l ee rmX7_drift ss mm args below meth kc Hv lv 0 0 Q (F0 mm 38 ls []) := by
        intro k_lo
        induction k_lo with
        | zero =>
          intro r nn kk a q Fv Hv lv ls hk hI hWF hkk h91 h92 hO hP hl
          refine lv_iload X.1.1 X.1.2.1 dX7_drift_38 (lv_at hl 4 rfl) ?_
          refine lv_iload_n X.1.1 X.1.2.1 dX7_drift_40 rfl (lv_at hl 1 rfl) ?_
          refine sx_icmp_ge X (by omega) (by omega) (tgt := 125) dX7_drift_41 (by decide) (fun c41 => ?_) (fun c41 => absurd c41 (by omega))
          refine lv_iload_n X.1.1 X.1.2.1 dX7_drift_125 rfl (lv_at hl 3 rfl) ?_
          rw [hQ]
          exact sx_iret X rfl hs rfl hP dX7_drift_126 (Or.inr ⟨m, sd, hm1, hm2, hd1, hd2, rfl, rfl, by rw [← show q = m by omega, hI]; exact ⟨h92, ⟨_, h91⟩, hO, rfl⟩⟩)
        | succ k_lo ih_lo =>
          intro r nn kk a q Fv Hv lv ls hk hI hWF hkk h91 h92 hO hP hl
          refine lv_iload X.1.1 X.1.2.1 dX7_drift_38 (lv_at hl 4 rfl) ?_
          refine lv_iload_n X.1.1 X.1.2.1 dX7_drift_40 rfl (lv_at hl 1 rfl) ?_
          refine sx_icmp_ge X (by omega) (by omega) (tgt := 125) dX7_drift_41 (by decide) (fun c41 => absurd c41 (by omega)) (fun c41 => ?_)
          refine lv_aload_n X.1.1 X.1.2.1 dX7_drift_44 rfl (lv_at hl 0 rfl) ?_
          refine lv_iconst (v := nI 4) X.1.1 X.1.2.1 dX7_drift_45 (by decide) ?_
          refine sx_cvI (As := [.int (nI 4)]) (rest := []) X (mX7_draw l (k := kk) (d := 4) hkk (by decide) (by decide) h91) gX7_drift_X7_draw rfl yv_X7_draw ⟨Nat.le_of_ble_eq_true rfl, Nat.le_of_ble_eq_true rfl⟩ h91 (by decide) rfl rfl hl.1 rfl (Nat.le_of_ble_eq_true rfl) dX7_drift_46 ⟨Nat.le_of_ble_eq_true rfl, Nat.le_of_ble_eq_true rfl⟩ hs rfl hP (fun r6 F6 H6 l6 hp hP => ?_)
          obtain ⟨e6, o6, rfl⟩ := hp
          have h91 : F6 (91) = ob 7 (rf G 92 :: a1 :: a2 :: a3 :: .long (lN (lot kk)) :: of) := e6
          have h92 := (o6 (92) (by decide)).trans h92
          have hO : ∀ j, j ≠ 91 ∧ j ≠ 92 → F6 j = F j := fun j hj => (o6 j (by omega)).trans (hO j hj)
          refine lv_istore (lv' := [(5, .int (nI ((lot kk % 4)))), (0, rf G 91), (1, .int (nI (m))), (2, .int (nI (sd))), (3, .int (nI (a))), (4, .int (nI (q)))]) X.1.1 X.1.2.1 dX7_drift_49 hl (by decide) rfl (fun ls hl => ?_)
          refine lv_aload_n X.1.1 X.1.2.1 dX7_drift_51 rfl (lv_at hl 1 rfl) ?_
          refine lv_bipush (v := nI 8) X.1.1 X.1.2.1 dX7_drift_52 (by decide) ?_
          refine sx_cvI (As := [.int (nI 8)]) (rest := []) X (mX7_draw l (k := lot kk) (d := 8) (lot_lt _) (by decide) (by decide) h91) gX7_drift_X7_draw rfl yv_X7_draw ⟨Nat.le_of_ble_eq_true rfl, Nat.le_of_ble_eq_true rfl⟩ h91 (by decide) rfl rfl hl.1 rfl (Nat.le_of_ble_eq_true rfl) dX7_drift_54 ⟨Nat.le_of_ble_eq_true rfl, Nat.le_of_ble_eq_true rfl⟩ hs rfl hP (fun r7 F7 H7 l7 hp hP => ?_)
          obtain ⟨e7, o7, rfl⟩ := hp
          have h91 : F7 (91) = ob 7 (rf G 92 :: a1 :: a2 :: a3 :: .long (lN (lot (lot kk))) :: of) := e7
          have h92 := (o7 (92) (by decide)).trans h92
          have hO : ∀ j, j ≠ 91 ∧ j ≠ 92 → F7 j = F j := fun j hj => (o7 j (by omega)).trans (hO j hj)
          refine lv_istore (lv' := [(6, .int (nI ((lot (lot kk) % 8)))), (5, .int (nI ((lot kk % 4)))), (0, rf G 91), (1, .int (nI (m))), (2, .int (nI (sd))), (3, .int (nI (a))), (4, .int (nI (q)))]) X.1.1 X.1.2.1 dX7_drift_57 hl (by decide) rfl (fun ls hl => ?_)
          refine lv_aload_n X.1.1 X.1.2.1 dX7_drift_59 rfl (lv_at hl 2 rfl) ?_
          have hj : W pp l ee rmX7_drift ss mm args below meth kc H7 l7 0 0 Q (F0 mm 93 ls (.int (nI (boundF ((lot (lot kk) % 8)))) :: rf G 91 :: [])) := by
            refine sx_cvI (As := [.int (nI (boundF ((lot (lot kk) % 8))))]) (rest := []) X (mX7_draw l (k := lot (lot kk)) (d := boundF ((lot (lot kk) % 8))) (lot_lt _) (boundF_pos _) (Nat.lt_of_le_of_lt (boundF_le _) (by decide)) h91) gX7_drift_X7_draw rfl yv_X7_draw ⟨Nat.le_of_ble_eq_true rfl, Nat.le_of_ble_eq_true rfl⟩ h91 (by decide) rfl rfl hl.1 rfl (Nat.le_of_ble_eq_true rfl) dX7_drift_93 ⟨Nat.le_of_ble_eq_true rfl, Nat.le_of_ble_eq_true rfl⟩ hs rfl hP (fun r8 F8 H8 l8 hp hP => ?_)
            obtain ⟨e8, o8, rfl⟩ := hp
            have h91 : F8 (91) = ob 7 (rf G 92 :: a1 :: a2 :: a3 :: .long (lN (lot (lot (lot kk)))) :: of) := e8
            have h92 := (o8 (92) (by decide)).trans h92
            have hO : ∀ j, j ≠ 91 ∧ j ≠ 92 → F8 j = F j := fun j hj => (o8 j (by omega)).trans (hO j hj)
            refine lv_istore (lv' := [(7, .int (nI ((lot (lot (lot kk)) % boundF ((lot (lot kk) % 8)))))), (6, .int (nI ((lot (lot kk) % 8)))), (5, .int (nI ((lot kk % 4)))), (0, rf G 91), (1, .int (nI (m))), (2, .int (nI (sd))), (3, .int (nI (a))), (4, .int (nI (q)))]) X.1.1 X.1.2.1 dX7_drift_96 hl (by decide) rfl (fun ls hl => ?_)
            refine lv_iload_n X.1.1 X.1.2.1 dX7_drift_98 rfl (lv_at hl 6 rfl) ?_
            refine lv_aload_n X.1.1 X.1.2.1 dX7_drift_99 rfl (lv_at hl 3 rfl) ?_
            refine lv_iload X.1.1 X.1.2.1 dX7_drift_100 (lv_at hl 2 rfl) ?_
            refine lv_iload X.1.1 X.1.2.1 dX7_drift_102 (lv_at hl 1 rfl) ?_
            refine lv_iload X.1.1 X.1.2.1 dX7_drift_104 (lv_at hl 0 rfl) ?_
            refine sx_cvI (As := [.int (nI ((lot kk % 4))), .int (nI ((lot (lot kk) % 8))), .int (nI ((lot (lot (lot kk)) % boundF ((lot (lot kk) % 8)))))]) (rest := .int (nI (a)) :: []) X (mX7_event l (n := nn) (th := (nI ((lot kk % 4)))) (so := (nI ((lot (lot kk) % 8)))) (wi := (nI ((lot (lot (lot kk)) % boundF ((lot (lot kk) % 8)))))) hWF.2.1 hWF.1 hWF.2.2.2.1 h91 h92) gX7_drift_X7_event rfl yv_X7_event ⟨Nat.le_of_ble_eq_true rfl, Nat.le_of_ble_eq_true rfl⟩ h91 (by decide) rfl rfl hl.1 rfl (Nat.le_of_ble_eq_true rfl) dX7_drift_106 ⟨Nat.le_of_ble_eq_true rfl, Nat.le_of_ble_eq_true rfl⟩ hs rfl hP (fun r9 F9 H9 l9 hp hP => ?_)
            obtain ⟨e9, o9, hr9⟩ := hp
            rcases evF_cases (w := r) (n := nn) (t := (lot kk % 4)) (s := (lot (lot kk) % 8)) (x := (lot (lot (lot kk)) % boundF ((lot (lot kk) % 8)))) (Nat.mod_lt _ (by decide)) (Nat.mod_lt _ (by decide)) (Nat.mod_lt _ (boundF_pos _)) hWF.2.1 with ⟨v, hv, hE⟩ | ⟨hn1, hxt, hcan, hmu, hE⟩
            · rw [hE] at e9 hr9
              subst hr9
              have h92 : F9 (92) = rI G (4358) (r) := e9
              have h91 := (o9 (91) (by decide)).trans h91
              have hO : ∀ j, j ≠ 91 ∧ j ≠ 92 → F9 j = F j := fun j hj => (o9 j (by omega)).trans (hO j hj)
              refine lv_if_lt X.1.1 X.1.2.1 (tgt := 116) dX7_drift_109 (by decide) (fun c109 => ?_) (fun c109 => absurd c109 (not_not_intro hv))
              refine lv_iconst (v := nI 0) X.1.1 X.1.2.1 dX7_drift_116 (by decide) ?_
              refine sx_addN X (a) (by omega) dX7_drift_117 ?_
              refine lv_istore_n (lv' := [(3, .int (nI (a))), (7, .int (nI ((lot (lot (lot kk)) % boundF ((lot (lot kk) % 8)))))), (6, .int (nI ((lot (lot kk) % 8)))), (5, .int (nI ((lot kk % 4)))), (0, rf G 91), (1, .int (nI (m))), (2, .int (nI (sd))), (4, .int (nI (q)))]) X.1.1 X.1.2.1 dX7_drift_118 rfl hl (by decide) rfl (fun ls hl => ?_)
              refine lv_iinc (v := (nI (1 + q))) (lv' := [(4, .int (nI (1 + q))), (3, .int (nI (a))), (7, .int (nI ((lot (lot (lot kk)) % boundF ((lot (lot kk) % 8)))))), (6, .int (nI ((lot (lot kk) % 8)))), (5, .int (nI ((lot kk % 4)))), (0, rf G 91), (1, .int (nI (m))), (2, .int (nI (sd)))]) X.1.1 X.1.2.1 dX7_drift_119 hl (k := 7) rfl (sx_inc1 (by omega)) (by decide) rfl (fun ls hl => ?_)
              refine lv_goto (tgt := 38) X.1.1 X.1.2.1 dX7_drift_122 (by decide) ?_
              exact ih_lo (r) (nn) (lot (lot (lot kk))) (a) (1 + q) _ _ _ _ (by omega) (by rw [drI_s, hI]; unfold drS; rw [cif_f (by rw [hE]; exact Int32.not_le.mpr hv)]) (hWF) (lot_lt _) h91 h92 hO hP (lv_sub hl [5, 6, 7, 1, 0] rfl)
            · rw [hE] at e9 hr9
              subst hr9
              have h92 : F9 (92) = rI G (4358) (comeF r nn ((lot kk % 4)) ((lot (lot kk) % 8)) ((lot (lot (lot kk)) % boundF ((lot (lot kk) % 8))))) := e9
              have h91 := (o9 (91) (by decide)).trans h91
              have hO : ∀ j, j ≠ 91 ∧ j ≠ 92 → F9 j = F j := fun j hj => (o9 j (by omega)).trans (hO j hj)
              refine sx_if_lt X (by omega) (tgt := 116) dX7_drift_109 (by decide) (fun h => h.elim) (fun _ => ?_)
              refine lv_iconst (v := nI 1) X.1.1 X.1.2.1 dX7_drift_112 (by decide) ?_
              refine lv_goto (tgt := 117) X.1.1 X.1.2.1 dX7_drift_113 (by decide) ?_
              refine sx_addN X (1 + a) (by omega) dX7_drift_117 ?_
              refine lv_istore_n (lv' := [(3, .int (nI (1 + a))), (7, .int (nI ((lot (lot (lot kk)) % boundF ((lot (lot kk) % 8)))))), (6, .int (nI ((lot (lot kk) % 8)))), (5, .int (nI ((lot kk % 4)))), (0, rf G 91), (1, .int (nI (m))), (2, .int (nI (sd))), (4, .int (nI (q)))]) X.1.1 X.1.2.1 dX7_drift_118 rfl hl (by decide) rfl (fun ls hl => ?_)
              refine lv_iinc (v := (nI (1 + q))) (lv' := [(4, .int (nI (1 + q))), (3, .int (nI (1 + a))), (7, .int (nI ((lot (lot (lot kk)) % boundF ((lot (lot kk) % 8)))))), (6, .int (nI ((lot (lot kk) % 8)))), (5, .int (nI ((lot kk % 4)))), (0, rf G 91), (1, .int (nI (m))), (2, .int (nI (sd)))]) X.1.1 X.1.2.1 dX7_drift_119 hl (k := 7) rfl (sx_inc1 (by omega)) (by decide) rfl (fun ls hl => ?_)
              refine lv_goto (tgt := 38) X.1.1 X.1.2.1 dX7_drift_122 (by decide) ?_
              exact ih_lo (comeF r nn ((lot kk % 4)) ((lot (lot kk) % 8)) ((lot (lot (lot kk)) % boundF ((lot (lot kk) % 8))))) (1 + nn) (lot (lot (lot kk))) (1 + a) (1 + q) _ _ _ _ (by omega) (by rw [drI_s, hI]; unfold drS; rw [cif_t (by rw [hE]; exact nI_pos' (by omega))]) (WF_come hWF hn1 (Nat.mod_lt _ (by decide)) (Nat.mod_lt _ (by decide)) (Nat.mod_lt _ (boundF_pos _)) hxt) (lot_lt _) h91 h92 hO hP (lv_sub hl [5, 6, 7, 1, 0] rfl)
          refine lv_iload X.1.1 X.1.2.1 dX7_drift_60 (lv_at hl 0 rfl) ?_
          refine lv_iconst (v := nI 2) X.1.1 X.1.2.1 dX7_drift_62 (by decide) ?_
          refine sx_icmp_eq X (by omega) (by decide) (tgt := 72) dX7_drift_63 (by decide) (fun c63 => ?_) (fun c63 => ?_)
          · refine lv_iconst (v := nI 3) X.1.1 X.1.2.1 dX7_drift_72 (by decide) ?_
            refine lv_goto (tgt := 93) X.1.1 X.1.2.1 dX7_drift_73 (by decide) ?_
            rw [show boundF ((lot (lot kk) % 8)) = 3 by (unfold boundF; (repeat' split) <;> omega)] at hj
            exact hj
          · refine lv_iload X.1.1 X.1.2.1 dX7_drift_66 (lv_at hl 0 rfl) ?_
            refine lv_iconst (v := nI 3) X.1.1 X.1.2.1 dX7_drift_68 (by decide) ?_
            refine sx_icmp_ne X (by omega) (by decide) (tgt := 76) dX7_drift_69 (by decide) (fun c69 => ?_) (fun c69 => ?_)
            · refine lv_iload X.1.1 X.1.2.1 dX7_drift_76 (lv_at hl 0 rfl) ?_
              refine lv_iconst (v := nI 4) X.1.1 X.1.2.1 dX7_drift_78 (by decide) ?_
              refine sx_icmp_eq X (by omega) (by decide) (tgt := 88) dX7_drift_79 (by decide) (fun c79 => ?_) (fun c79 => ?_)
              · refine lv_iconst (v := nI 2) X.1.1 X.1.2.1 dX7_drift_88 (by decide) ?_
                refine lv_goto (tgt := 93) X.1.1 X.1.2.1 dX7_drift_89 (by decide) ?_
                rw [show boundF ((lot (lot kk) % 8)) = 2 by (unfold boundF; (repeat' split) <;> omega)] at hj
                exact hj
              · refine lv_iload X.1.1 X.1.2.1 dX7_drift_82 (lv_at hl 0 rfl) ?_
                refine lv_iconst (v := nI 5) X.1.1 X.1.2.1 dX7_drift_84 (by decide) ?_
                refine sx_icmp_ne X (by omega) (by decide) (tgt := 92) dX7_drift_85 (by decide) (fun c85 => ?_) (fun c85 => ?_)
                · refine lv_iconst (v := nI 4) X.1.1 X.1.2.1 dX7_drift_92 (by decide) ?_
                  rw [show boundF ((lot (lot kk) % 8)) = 4 by (unfold boundF; (repeat' split) <;> omega)] at hj
                  exact hj
                · refine lv_iconst (v := nI 2) X.1.1 X.1.2.1 dX7_drift_88 (by decide) ?_
                  refine lv_goto (tgt := 93) X.1.1 X.1.2.1 dX7_drift_89 (by decide) ?_
                  rw [show boundF ((lot (lot kk) % 8)) = 2 by (unfold boundF; (repeat' split) <;> omega)] at hj
                  exact hj
            · refine lv_iconst (v := nI 3) X.1.1 X.1.2.1 dX7_drift_72 (by decide) ?_
              refine lv_goto (tgt := 93) X.1.1 X.1.2.1 dX7_drift_73 (by decide) ?_
              rw [show boundF ((lot (lot kk) % 8)) = 3 by (unfold boundF; (repeat' split) <;> omega)] at hj
              exact hj
      exact lo (m) (w) (n) (sd) (0) (0) _ _ _ _ (by omega) (rfl) (hWF) (by omega) h91 h92 hO hP (lv_sub hl [2, 3, 4, 1, 0] rfl)
    · refine sx_if_ne X (by decide) (tgt := 27) dX7_drift_21 (by decide) (fun h => absurd h (by decide)) (fun _ => ?_)
      refine lv_ldc (v := -1000000002) X.1.1 X.1.2.1 X.1.2.2.2.1 (X.1.2.2.2.2 _ lk_X7_drift_constant_RX7_98_1000000002) dX7_drift_24 ?_
      rw [hQ]
      exact sx_iret X rfl hs rfl hP dX7_drift_26 (Or.inl ⟨fun q => b4 (sx_1in (by decide) (by decide) q.2), rfl, rfl⟩)
  · refine sx_if_eq X (by decide) (tgt := 24) dX7_drift_9 (by decide) (fun _ => ?_) (fun h => absurd h (by decide))
    refine lv_ldc (v := -1000000002) X.1.1 X.1.2.1 X.1.2.2.2.1 (X.1.2.2.2.2 _ lk_X7_drift_constant_RX7_98_1000000002) dX7_drift_24 ?_
    rw [hQ]
    exact sx_iret X rfl hs rfl hP dX7_drift_26 (Or.inl ⟨fun q => b2 (sx_1in (by decide) (by decide) q.1), rfl, rfl⟩)
theorem ys_X7_journal : yX7_journal.cls ≠ "java/lang/invoke/MethodHandle" ∧ yX7_journal.cls ≠ "java/lang/invoke/VarHandle" ∧ (parseMethodDescriptor yX7_journal.desc).map (fun d => d.parameters.length) = some 2 := by decide +kernel
theorem yv_X7_journal : yX7_journal.cls = RX7 ∧ yX7_journal.cls ≠ "java/lang/invoke/MethodHandle" ∧ yX7_journal.cls ≠ "java/lang/invoke/VarHandle" ∧ (parseMethodDescriptor yX7_journal.desc).map (fun d => d.parameters.length) = some 2 := ⟨rfl, ys_X7_journal⟩
theorem in_X7_journal_X7 : ∀ w ∈ wsX70, w ∈ wsX7_journal := fun _ h => List.mem_cons_of_mem _ (List.mem_append_right _ (h))
theorem lk_X7_journal_fieldLink_RX7_129_RaceWatchModel_entries_I : (.fieldLink RX7 129 "RaceWatchModel" "entries" "I" : Cond) ∈ wsX7_journal := List.mem_cons_of_mem _ (List.mem_append_left _ (List.mem_of_getElem? (i := 1) rfl))
theorem lk_X7_journal_fieldLink_RX7_17_RaceWatchModel_journals_I : (.fieldLink RX7 17 "RaceWatchModel" "journals" "[I" : Cond) ∈ wsX7_journal := List.mem_cons_of_mem _ (List.mem_append_left _ (List.mem_of_getElem? (i := 2) rfl))
theorem lk_X7_journal_constant_RX7_98_1000000002 : (.constant RX7 98 (-1000000002) : Cond) ∈ wsX7_journal := List.mem_cons_of_mem _ (List.mem_append_left _ (List.mem_of_getElem? (i := 0) rfl))
abbrev rmX7_journal : Room := { frames := 1, cells := 0, slots := 0, locals := 25 }
set_option maxHeartbeats 4000000 in
set_option maxRecDepth 100000 in
theorem mX7_journal {G : sx_G} (l : Launch) {F : Nat → va_E} {jo : Nat → Int32} {a1 : Value} {of : List Value} {en : Nat} {x y : Int32} (hen : en ≤ 24) (h91 : F (91) = ob 7 (rf G 92 :: a1 :: .int (nI (en)) :: rf G 94 :: of)) (h94 : F (94) = rI G (24) (jo)) : sx_I G l yX7_journal wsX7_journal rmX7_journal [rf G 91, .int (x), .int (y)] (97) F (97) (fun r F1 => F = F1 ∧ journF en jo x y = r) := by
  refine sx_enter (cc := cX7_journal) (maxL := 4) (ret := some .int) (own := RX7) (nm := "journal") (by decide) rfl rfl rfl (Nat.le_of_ble_eq_true rfl) ?_
  intro pp ee ss mm args below meth kc ls Q hQ X hs hP hl
  have hl : lv_has ls 4 [(0, rf G 91), (1, .int (x)), (2, .int (y))] := hl
  refine lv_iload_n X.1.1 X.1.2.1 dX7_journal_0 rfl (lv_at hl 2 rfl) ?_
  refine lv_i2l (v := (y).toInt64) X.1.1 X.1.2.1 dX7_journal_1 rfl ?_
  refine lv_lconst (v := 0) X.1.1 X.1.2.1 dX7_journal_2 (by decide) ?_
  refine lv_lconst (v := 1) X.1.1 X.1.2.1 dX7_journal_3 (by decide) ?_
  refine sx_csI (As := [.long ((y).toInt64), .long (0), .long (1)]) (rest := []) X (mX7_in l) gX7_journal_X7_in rfl ys_X7_in ⟨Nat.le_of_ble_eq_true rfl, Nat.le_of_ble_eq_true rfl⟩ hl.1 rfl (Nat.le_of_ble_eq_true rfl) dX7_journal_4 ⟨Nat.le_of_ble_eq_true rfl, Nat.le_of_ble_eq_true rfl⟩ hs rfl hP (fun r1 F1 H1 l1 hp hP => ?_)
  obtain ⟨rfl, ⟨b2, rfl⟩ | ⟨b2, rfl⟩⟩ := hp
  · obtain ⟨o, ho, rfl⟩ := sx_in64 (k := 2) (by decide) (by decide) b2
    refine sx_if_ne X (by decide) (tgt := 13) dX7_journal_7 (by decide) (fun _ => ?_) (fun h => absurd h (by decide))
    refine lv_iload_n X.1.1 X.1.2.1 dX7_journal_13 rfl (lv_at hl 1 rfl) ?_
    refine lv_i2l (v := (x).toInt64) X.1.1 X.1.2.1 dX7_journal_14 rfl ?_
    refine lv_lconst (v := 0) X.1.1 X.1.2.1 dX7_journal_15 (by decide) ?_
    refine lv_aload_n X.1.1 X.1.2.1 dX7_journal_16 rfl (lv_at hl 0 rfl) ?_
    refine sx_get X hP in_X7_journal_X7 h91 (by decide) rfl 2 (by decide) lk_X7_journal_fieldLink_RX7_129_RaceWatchModel_entries_I rfl dX7_journal_17 ?_
    refine lv_iconst (v := nI 1) X.1.1 X.1.2.1 dX7_journal_20 (by decide) ?_
    refine lv_isub X.1.1 X.1.2.1 dX7_journal_21 ?_
    refine lv_i2l (v := ((nI (en)) - (nI (1))).toInt64) X.1.1 X.1.2.1 dX7_journal_22 rfl ?_
    refine sx_csI (As := [.long ((x).toInt64), .long (0), .long (((nI (en)) - (nI (1))).toInt64)]) (rest := []) X (mX7_in l) gX7_journal_X7_in rfl ys_X7_in ⟨Nat.le_of_ble_eq_true rfl, Nat.le_of_ble_eq_true rfl⟩ hl.1 rfl (Nat.le_of_ble_eq_true rfl) dX7_journal_23 ⟨Nat.le_of_ble_eq_true rfl, Nat.le_of_ble_eq_true rfl⟩ hs rfl hP (fun r3 F3 H3 l3 hp hP => ?_)
    obtain ⟨rfl, ⟨b4, rfl⟩ | ⟨b4, rfl⟩⟩ := hp
    · obtain ⟨i, hi, rfl⟩ := (sx_ev (show en ≤ 160 by omega)).mp b4
      refine sx_if_ne X (by decide) (tgt := 31) dX7_journal_26 (by decide) (fun _ => ?_) (fun h => absurd h (by decide))
      refine lv_aload_n X.1.1 X.1.2.1 dX7_journal_31 rfl (lv_at hl 0 rfl) ?_
      refine sx_get X hP in_X7_journal_X7 h91 (by decide) rfl 3 (by decide) lk_X7_journal_fieldLink_RX7_17_RaceWatchModel_journals_I rfl dX7_journal_32 ?_
      refine lv_aload_n X.1.1 X.1.2.1 dX7_journal_35 rfl (lv_at hl 0 rfl) ?_
      refine sx_get X hP in_X7_journal_X7 h91 (by decide) rfl 2 (by decide) lk_X7_journal_fieldLink_RX7_129_RaceWatchModel_entries_I rfl dX7_journal_36 ?_
      refine lv_iconst (v := nI 1) X.1.1 X.1.2.1 dX7_journal_39 (by decide) ?_
      refine sx_subN X ((en - 1)) (by omega) (by omega) dX7_journal_40 ?_
      refine lv_iload_n X.1.1 X.1.2.1 dX7_journal_41 rfl (lv_at hl 1 rfl) ?_
      refine sx_subN X (((en - 1) - (i))) (by omega) (by omega) dX7_journal_42 ?_
      refine sx_ald X hP h94 (by decide) (((en - 1) - (i))) (by omega) (by decide) dX7_journal_43 ?_
      refine lv_istore_n (lv' := [(3, .int (jo (((en - 1) - (i))))), (0, rf G 91), (1, .int (nI (i))), (2, .int (nI (o)))]) X.1.1 X.1.2.1 dX7_journal_44 rfl hl (by decide) rfl (fun ls hl => ?_)
      refine lv_iload_n X.1.1 X.1.2.1 dX7_journal_45 rfl (lv_at hl 3 rfl) ?_
      refine sx_if_ne X (by omega) (tgt := 55) dX7_journal_46 (by decide) (fun c46 => ?_) (fun c46 => ?_)
      · refine lv_iload_n X.1.1 X.1.2.1 dX7_journal_55 rfl (lv_at hl 0 rfl) ?_
        refine lv_iconst (v := nI 2) X.1.1 X.1.2.1 dX7_journal_56 (by decide) ?_
        refine lv_irem X.1.1 X.1.2.1 dX7_journal_57 (by decide) ?_
        rw [hQ]
        exact sx_iret X rfl hs rfl hP dX7_journal_58 (⟨rfl, by unfold journF; rw [cif_f (fun q => q ⟨o, ho, rfl⟩), cif_f (fun q => q ⟨i, hi, rfl⟩), nI_clamp (n := o) (by omega), nI_clamp (n := i) (by omega), if_neg c46]⟩)
      · refine lv_iload_n X.1.1 X.1.2.1 dX7_journal_49 rfl (lv_at hl 0 rfl) ?_
        refine lv_iconst (v := nI 2) X.1.1 X.1.2.1 dX7_journal_50 (by decide) ?_
        refine lv_idiv X.1.1 X.1.2.1 dX7_journal_51 (by decide) ?_
        refine lv_goto (tgt := 58) X.1.1 X.1.2.1 dX7_journal_52 (by decide) ?_
        rw [hQ]
        exact sx_iret X rfl hs rfl hP dX7_journal_58 (⟨rfl, by unfold journF; rw [cif_f (fun q => q ⟨o, ho, rfl⟩), cif_f (fun q => q ⟨i, hi, rfl⟩), nI_clamp (n := o) (by omega), nI_clamp (n := i) (by omega), if_pos c46]⟩)
    · refine sx_if_ne X (by decide) (tgt := 31) dX7_journal_26 (by decide) (fun h => absurd h (by decide)) (fun _ => ?_)
      refine lv_iconst (v := (-1)) X.1.1 X.1.2.1 dX7_journal_29 (by decide) ?_
      rw [hQ]
      exact sx_iret X rfl hs rfl hP dX7_journal_30 (⟨rfl, by unfold journF; rw [cif_f (fun q => q ⟨o, ho, rfl⟩), cif_t (fun q => b4 ((sx_ev (by omega)).mpr q))]⟩)
  · refine sx_if_ne X (by decide) (tgt := 13) dX7_journal_7 (by decide) (fun h => absurd h (by decide)) (fun _ => ?_)
    refine lv_ldc (v := -1000000002) X.1.1 X.1.2.1 X.1.2.2.2.1 (X.1.2.2.2.2 _ lk_X7_journal_constant_RX7_98_1000000002) dX7_journal_10 ?_
    rw [hQ]
    exact sx_iret X rfl hs rfl hP dX7_journal_12 (⟨rfl, by unfold journF; rw [cif_t (fun q => b2 (sx_64in (k := 2) (by decide) (by decide) q))]⟩)
