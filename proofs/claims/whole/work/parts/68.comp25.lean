theorem WV.sts {G : sx_G} {F : Nat → va_E} {w : Nat → Int32} {n : Nat} (h : WV G F w n 1) : ∃ st, F 2 = rI G 4 st ∧ ∀ k, k < 4 → st k = w k := by
  obtain ⟨st, ho, ct, cl, cs, kr, r4, r6, r8, h1, h2, h3, h4, h5, h6, h7, h8, h9, h10, hkr, hRV, -⟩ := h
  exact ⟨st, h2, hRV.1⟩
theorem ys_X4_tell : yX4_tell.cls ≠ "java/lang/invoke/MethodHandle" ∧ yX4_tell.cls ≠ "java/lang/invoke/VarHandle" ∧ (parseMethodDescriptor yX4_tell.desc).map (fun d => d.parameters.length) = some 1 := by decide +kernel
theorem yv_X4_tell : yX4_tell.cls = RX4 ∧ yX4_tell.cls ≠ "java/lang/invoke/MethodHandle" ∧ yX4_tell.cls ≠ "java/lang/invoke/VarHandle" ∧ (parseMethodDescriptor yX4_tell.desc).map (fun d => d.parameters.length) = some 1 := ⟨rfl, ys_X4_tell⟩
theorem in_X4_tell_X4 : ∀ w ∈ wsX40, w ∈ wsX4_tell := fun _ h => List.mem_cons_of_mem _ (List.mem_append_left _ (List.mem_append_left _ (List.mem_append_left _ (List.mem_append_left _ (List.mem_append_left _ (List.mem_append_right _ (h)))))))
theorem lk_X4_tell_fieldLink_RX4_36_RaceWatch_Telling_due_I : (.fieldLink RX4 36 "RaceWatch$Telling" "due" "I" : Cond) ∈ wsX4_tell := List.mem_cons_of_mem _ (List.mem_append_left _ (List.mem_append_left _ (List.mem_append_left _ (List.mem_append_left _ (List.mem_append_left _ (List.mem_append_left _ (List.mem_append_left _ (List.mem_of_getElem? (i := 0) rfl))))))))
theorem lk_X4_tell_fieldLink_RX4_39_RaceWatch_Telling_threadAtIt_I : (.fieldLink RX4 39 "RaceWatch$Telling" "threadAtIt" "I" : Cond) ∈ wsX4_tell := List.mem_cons_of_mem _ (List.mem_append_left _ (List.mem_append_left _ (List.mem_append_left _ (List.mem_append_left _ (List.mem_append_left _ (List.mem_append_left _ (List.mem_append_left _ (List.mem_of_getElem? (i := 1) rfl))))))))
theorem lk_X4_tell_fieldLink_RX4_42_RaceWatch_Telling_openRegions_I : (.fieldLink RX4 42 "RaceWatch$Telling" "openRegions" "I" : Cond) ∈ wsX4_tell := List.mem_cons_of_mem _ (List.mem_append_left _ (List.mem_append_left _ (List.mem_append_left _ (List.mem_append_left _ (List.mem_append_left _ (List.mem_append_left _ (List.mem_append_left _ (List.mem_of_getElem? (i := 2) rfl))))))))
theorem lk_X4_tell_fieldLink_RX4_45_RaceWatch_Telling_depth_I : (.fieldLink RX4 45 "RaceWatch$Telling" "depth" "I" : Cond) ∈ wsX4_tell := List.mem_cons_of_mem _ (List.mem_append_left _ (List.mem_append_left _ (List.mem_append_left _ (List.mem_append_left _ (List.mem_append_left _ (List.mem_append_left _ (List.mem_append_left _ (List.mem_of_getElem? (i := 3) rfl))))))))
theorem lk_X4_tell_fieldLink_RX4_32_RaceWatch_Telling_length_I : (.fieldLink RX4 32 "RaceWatch$Telling" "length" "I" : Cond) ∈ wsX4_tell := List.mem_cons_of_mem _ (List.mem_append_left _ (List.mem_append_left _ (List.mem_append_left _ (List.mem_append_left _ (List.mem_append_left _ (List.mem_append_left _ (List.mem_append_left _ (List.mem_of_getElem? (i := 4) rfl))))))))
theorem lk_X4_tell_fieldLink_RX4_9_RaceWatch_Telling_faultAt_I : (.fieldLink RX4 9 "RaceWatch$Telling" "faultAt" "I" : Cond) ∈ wsX4_tell := List.mem_cons_of_mem _ (List.mem_append_left _ (List.mem_append_left _ (List.mem_append_left _ (List.mem_append_left _ (List.mem_append_left _ (List.mem_append_left _ (List.mem_append_left _ (List.mem_of_getElem? (i := 7) rfl))))))))
theorem lk_X4_tell_fieldLink_RX4_22_RaceWatch_Telling_letters_I : (.fieldLink RX4 22 "RaceWatch$Telling" "letters" "[I" : Cond) ∈ wsX4_tell := List.mem_cons_of_mem _ (List.mem_append_left _ (List.mem_append_left _ (List.mem_append_left _ (List.mem_append_left _ (List.mem_append_left _ (List.mem_append_left _ (List.mem_append_left _ (List.mem_of_getElem? (i := 5) rfl))))))))
theorem lk_X4_tell_fieldLink_RX4_52_RaceWatch_Telling_item_I : (.fieldLink RX4 52 "RaceWatch$Telling" "item" "I" : Cond) ∈ wsX4_tell := List.mem_cons_of_mem _ (List.mem_append_left _ (List.mem_append_left _ (List.mem_append_left _ (List.mem_append_left _ (List.mem_append_left _ (List.mem_append_left _ (List.mem_append_left _ (List.mem_of_getElem? (i := 6) rfl))))))))
abbrev rmX4_tell : Room := { frames := 6, cells := 0, slots := 0, locals := 157 }
set_option maxHeartbeats 800000 in
set_option maxRecDepth 100000 in
theorem mX4_tell {G : sx_G} (l : Launch) {F : Nat → va_E} {q1 dv iv wv rv pv : Value} {w jo ol ot jl jp lt lw tb : Nat → Int32} {A : Nat → Nat} {len n en : Nat}  (hW : WV G F w n 1) (hwf : WFw w n) (hA : LT A len w) (hlt : ∀ j, j < len → lt j = nI (A j)) (hen : en ≤ 24) (hjo : ∀ j, j < en → ∃ v, v < 6 ∧ jo j = nI v) (hBk : BkV en jo jl jp) (hHO : HO w) (h84 : F (84) = ob 4 ([.int (nI (len)), q1, rf G 85, rf G 88, dv, iv, wv, rv, pv, rf G 89, rf G 90])) (h85 : F (85) = ob 0 ([.int (nI (en)), rf G 86, rf G 87])) (h86 : F (86) = rI G (24) (jl)) (h87 : F (87) = rI G (24) (jp)) (h88 : F (88) = rI G (240) (lt)) (h89 : F (89) = rI G (240) (lw)) (h90 : F (90) = rI G (240) (tb)) : sx_I G l yX4_tell wsX4_tell rmX4_tell [rf G 84, rf G 1] (97) F (97) (fun r F1 => ∃ (f pos : Nat) (Tf : TT), goT A len (len - 0) (w, n, en, jo, 0, 0, 0, 0, ol, ot) = (f, pos, Tf) ∧ f ≤ 4 ∧ (∃ dv iv wv, TP G F1 (.int (nI 0)) (.int (if f = 0 then -1 else nI pos)) dv iv wv (shA Tf.2.2.2.2.2.2.2.1 Tf)) ∧ (∃ i, i ≤ len ∧ IT A len i (shA Tf.2.2.2.2.2.2.2.1 Tf)) ∧ (HO (shA Tf.2.2.2.2.2.2.2.1 Tf).1 ∧ ∀ k, 1372 ≤ k → (shA Tf.2.2.2.2.2.2.2.1 Tf).1 k = w k) ∧ (∀ j, j = 0 ∨ (27 < j ∧ j < 84) ∨ j = 88 ∨ 90 < j → F1 j = F j) ∧ nI f = r) := by
  refine sx_enter (cc := cX4_tell) (maxL := 5) (ret := some .int) (own := RX4) (nm := "tell") (by decide) rfl rfl rfl (Nat.le_of_ble_eq_true rfl) ?_
  intro pp ee ss mm args below meth kc ls Q hQ X hs hP hl
  have hl : lv_has ls 5 [(0, rf G 84), (1, rf G 1)] := hl
  have hO : ∀ j, j = 0 ∨ (27 < j ∧ j < 84) ∨ j = 88 ∨ 90 < j → F j = F j := fun _ _ => rfl
  have h1 := WV.obj hW
  have hl240 := hA.2.1
  refine lv_aload_n X.1.1 X.1.2.1 dX4_tell_0 rfl (lv_at hl 0 rfl) ?_
  refine lv_iconst (v := nI 0) X.1.1 X.1.2.1 dX4_tell_1 (by decide) ?_
  refine sx_put X hP in_X4_tell_X4 tyX4 tyX4_ok nmX4 h84 (by decide) rfl 4 (by decide) lk_X4_tell_fieldLink_RX4_36_RaceWatch_Telling_due_I rfl rfl rfl (Nat.le_of_ble_eq_true rfl) dX4_tell_2 (fun F1 H1 l1 e1 o1 hP => ?_)
  have h84 : F1 (84) = ob 4 ([.int (nI (len)), q1, rf G 85, rf G 88, .int (nI 0), iv, wv, rv, pv, rf G 89, rf G 90]) := e1
  have h85 := (o1 (85) (by decide)).trans h85
  have h86 := (o1 (86) (by decide)).trans h86
  have h87 := (o1 (87) (by decide)).trans h87
  have h88 := (o1 (88) (by decide)).trans h88
  have h89 := (o1 (89) (by decide)).trans h89
  have h90 := (o1 (90) (by decide)).trans h90
  have h1 := (o1 (1) (by decide)).trans h1
  have hO : ∀ j, j = 0 ∨ (27 < j ∧ j < 84) ∨ j = 88 ∨ 90 < j → F1 j = F j := fun j hj => (o1 j (by omega)).trans (hO j hj)
  have hW := WV.upd hW (fun j a b => o1 j (by omega))
  refine lv_aload_n X.1.1 X.1.2.1 dX4_tell_5 rfl (lv_at hl 0 rfl) ?_
  refine lv_iconst (v := nI 0) X.1.1 X.1.2.1 dX4_tell_6 (by decide) ?_
  refine sx_put X hP in_X4_tell_X4 tyX4 tyX4_ok nmX4 h84 (by decide) rfl 6 (by decide) lk_X4_tell_fieldLink_RX4_39_RaceWatch_Telling_threadAtIt_I rfl rfl rfl (Nat.le_of_ble_eq_true rfl) dX4_tell_7 (fun F2 H2 l2 e2 o2 hP => ?_)
  have h84 : F2 (84) = ob 4 ([.int (nI (len)), q1, rf G 85, rf G 88, .int (nI 0), iv, .int (nI 0), rv, pv, rf G 89, rf G 90]) := e2
  have h85 := (o2 (85) (by decide)).trans h85
  have h86 := (o2 (86) (by decide)).trans h86
  have h87 := (o2 (87) (by decide)).trans h87
  have h88 := (o2 (88) (by decide)).trans h88
  have h89 := (o2 (89) (by decide)).trans h89
  have h90 := (o2 (90) (by decide)).trans h90
  have h1 := (o2 (1) (by decide)).trans h1
  have hO : ∀ j, j = 0 ∨ (27 < j ∧ j < 84) ∨ j = 88 ∨ 90 < j → F2 j = F j := fun j hj => (o2 j (by omega)).trans (hO j hj)
  have hW := WV.upd hW (fun j a b => o2 j (by omega))
  refine lv_aload_n X.1.1 X.1.2.1 dX4_tell_10 rfl (lv_at hl 0 rfl) ?_
  refine lv_iconst (v := nI 0) X.1.1 X.1.2.1 dX4_tell_11 (by decide) ?_
  refine sx_put X hP in_X4_tell_X4 tyX4 tyX4_ok nmX4 h84 (by decide) rfl 7 (by decide) lk_X4_tell_fieldLink_RX4_42_RaceWatch_Telling_openRegions_I rfl rfl rfl (Nat.le_of_ble_eq_true rfl) dX4_tell_12 (fun F3 H3 l3 e3 o3 hP => ?_)
  have h84 : F3 (84) = ob 4 ([.int (nI (len)), q1, rf G 85, rf G 88, .int (nI 0), iv, .int (nI 0), .int (nI 0), pv, rf G 89, rf G 90]) := e3
  have h85 := (o3 (85) (by decide)).trans h85
  have h86 := (o3 (86) (by decide)).trans h86
  have h87 := (o3 (87) (by decide)).trans h87
  have h88 := (o3 (88) (by decide)).trans h88
  have h89 := (o3 (89) (by decide)).trans h89
  have h90 := (o3 (90) (by decide)).trans h90
  have h1 := (o3 (1) (by decide)).trans h1
  have hO : ∀ j, j = 0 ∨ (27 < j ∧ j < 84) ∨ j = 88 ∨ 90 < j → F3 j = F j := fun j hj => (o3 j (by omega)).trans (hO j hj)
  have hW := WV.upd hW (fun j a b => o3 j (by omega))
  refine lv_aload_n X.1.1 X.1.2.1 dX4_tell_15 rfl (lv_at hl 0 rfl) ?_
  refine lv_iconst (v := nI 0) X.1.1 X.1.2.1 dX4_tell_16 (by decide) ?_
  refine sx_put X hP in_X4_tell_X4 tyX4 tyX4_ok nmX4 h84 (by decide) rfl 8 (by decide) lk_X4_tell_fieldLink_RX4_45_RaceWatch_Telling_depth_I rfl rfl rfl (Nat.le_of_ble_eq_true rfl) dX4_tell_17 (fun F4 H4 l4 e4 o4 hP => ?_)
  have h84 : F4 (84) = ob 4 ([.int (nI (len)), q1, rf G 85, rf G 88, .int (nI 0), iv, .int (nI 0), .int (nI 0), .int (nI 0), rf G 89, rf G 90]) := e4
  have h85 := (o4 (85) (by decide)).trans h85
  have h86 := (o4 (86) (by decide)).trans h86
  have h87 := (o4 (87) (by decide)).trans h87
  have h88 := (o4 (88) (by decide)).trans h88
  have h89 := (o4 (89) (by decide)).trans h89
  have h90 := (o4 (90) (by decide)).trans h90
  have h1 := (o4 (1) (by decide)).trans h1
  have hO : ∀ j, j = 0 ∨ (27 < j ∧ j < 84) ∨ j = 88 ∨ 90 < j → F4 j = F j := fun j hj => (o4 j (by omega)).trans (hO j hj)
  have hW := WV.upd hW (fun j a b => o4 j (by omega))
  refine lv_iconst (v := nI 0) X.1.1 X.1.2.1 dX4_tell_20 (by decide) ?_
  refine lv_istore_n (lv' := [(2, .int (nI 0)), (0, rf G 84), (1, rf G 1)]) X.1.1 X.1.2.1 dX4_tell_21 rfl hl (by decide) rfl (fun ls hl => ?_)
  refine lv_iconst (v := nI 0) X.1.1 X.1.2.1 dX4_tell_22 (by decide) ?_
  refine lv_istore_n (lv' := [(3, .int (nI 0)), (2, .int (nI 0)), (0, rf G 84), (1, rf G 1)]) X.1.1 X.1.2.1 dX4_tell_23 rfl hl (by decide) rfl (fun ls hl => ?_)
  have l2 : ∀ (k_l2 : Nat) (w2 : Nat → Int32) (n2 : Nat) (en2 : Nat) (jo2 : Nat → Int32) (due2 : Nat) (it2 : Nat) (who2 : Nat) (d2 : Nat) (ol2 : Nat → Int32) (ot2 : Nat → Int32) (dv2 : Value) (iv2 : Value) (wv2 : Value) (f : Nat) (pos : Nat) (ft : Int32) (Tf : TT) (i2 : Nat) (Fv : Nat → va_E) (Hv : Heap) (lv : List Loc) (ls : Array Slot), (d2 = k_l2) → (TP G Fv (.int (nI len)) (.int ft) dv2 iv2 wv2 (w2, n2, en2, jo2, due2, it2, who2, d2, ol2, ot2)) → (IT A len i2 (w2, n2, en2, jo2, due2, it2, who2, d2, ol2, ot2)) → (i2 ≤ len) → (goT A len (len - 0) (w, n, en, jo, 0, 0, 0, 0, ol, ot) = (f, pos, Tf)) → (f ≤ 4) → (ft = if f = 0 then -1 else nI pos) → (shA d2 (w2, n2, en2, jo2, due2, it2, who2, d2, ol2, ot2) = shA Tf.2.2.2.2.2.2.2.1 Tf) → (HO w2) → (∀ k, 1372 ≤ k → w2 k = w k) → (∀ j, j = 0 ∨ (27 < j ∧ j < 84) ∨ j = 88 ∨ 90 < j → Fv j = F j) → sx_H G (97) Fv ss.heap Hv lv → lv_has ls 5 [(0, rf G 84), (1, rf G 1), (2, .int (nI (f))), (4, .int (nI (d2)))] → W pp l ee rmX4_tell ss mm args below meth kc Hv lv 0 0 Q (F0 mm 200 ls []) := by
    intro k_l2
    induction k_l2 with
    | zero =>
      intro w2 n2 en2 jo2 due2 it2 who2 d2 ol2 ot2 dv2 iv2 wv2 f pos ft Tf i2 Fv Hv lv ls hkd hT2 hIT2 hi2 hgo hf4 hft hsh hHO2 hfar2 hO hP hl
      have hd0 : d2 = 0 := hkd
      obtain ⟨h84, hW, ⟨jl, jp, h85, h86, h87, hBk⟩, lw, tb, h89, h90, hag⟩ := id hT2
      have h1 := WV.obj hW
      have h84 : Fv 84 = ob 4 ([.int (nI (len)), .int (ft), rf G 85, rf G 88, dv2, iv2, wv2, .int (nI (rgF ol2 d2)), .int (nI (d2)), rf G 89, rf G 90]) := h84
      have h85 : Fv 85 = ob 0 ([.int (nI (en2)), rf G 86, rf G 87]) := h85
      have h86 : Fv 86 = rI G (24) (jl) := h86
      have h87 : Fv 87 = rI G (24) (jp) := h87
      have h89 : Fv 89 = rI G (240) (lw) := h89
      have h90 : Fv 90 = rI G (240) (tb) := h90
      refine lv_iload X.1.1 X.1.2.1 dX4_tell_200 (lv_at hl 3 rfl) ?_
      refine sx_if_le X (by omega) (tgt := 216) dX4_tell_202 (by decide) (fun c202 => ?_) (fun c202 => absurd c202 (by omega))
      refine lv_aload_n X.1.1 X.1.2.1 dX4_tell_216 rfl (lv_at hl 0 rfl) ?_
      refine lv_iconst (v := nI 0) X.1.1 X.1.2.1 dX4_tell_217 (by decide) ?_
      refine sx_put X hP in_X4_tell_X4 tyX4 tyX4_ok nmX4 h84 (by decide) rfl 0 (by decide) lk_X4_tell_fieldLink_RX4_32_RaceWatch_Telling_length_I rfl rfl rfl (Nat.le_of_ble_eq_true rfl) dX4_tell_218 (fun F5 H5 l5 e5 o5 hP => ?_)
      have h84 : F5 (84) = ob 4 ([.int (nI 0), .int (ft), rf G 85, rf G 88, dv2, iv2, wv2, .int (nI (rgF ol2 d2)), .int (nI (d2)), rf G 89, rf G 90]) := e5
      have h85 := (o5 (85) (by decide)).trans h85
      have h86 := (o5 (86) (by decide)).trans h86
      have h87 := (o5 (87) (by decide)).trans h87
      have h89 := (o5 (89) (by decide)).trans h89
      have h90 := (o5 (90) (by decide)).trans h90
      have h1 := (o5 (1) (by decide)).trans h1
      have hO : ∀ j, j = 0 ∨ (27 < j ∧ j < 84) ∨ j = 88 ∨ 90 < j → F5 j = F j := fun j hj => (o5 j (by omega)).trans (hO j hj)
      have hW := WV.upd hW (fun j a b => o5 j (by omega))
      refine lv_iload_n X.1.1 X.1.2.1 dX4_tell_221 rfl (lv_at hl 2 rfl) ?_
      have hT3 : shA Tf.2.2.2.2.2.2.2.1 Tf = (w2, n2, en2, jo2, due2, it2, who2, d2, ol2, ot2) := by rw [← hsh, hd0]; rfl
      rw [hQ]
      exact sx_iret X rfl hs rfl hP dX4_tell_222 (⟨f, pos, Tf, hgo, hf4, ⟨dv2, iv2, wv2, by rw [hT3, ← hft]; exact ⟨h84, hW, ⟨_, _, h85, h86, h87, hBk⟩, _, _, h89, h90, hag⟩⟩, ⟨i2, hi2, by rw [hT3]; exact hIT2⟩, ⟨by rw [hT3]; exact hHO2, by rw [hT3]; exact hfar2⟩, hO, rfl⟩)
    | succ k_l2 ih_l2 =>
      intro w2 n2 en2 jo2 due2 it2 who2 d2 ol2 ot2 dv2 iv2 wv2 f pos ft Tf i2 Fv Hv lv ls hkd hT2 hIT2 hi2 hgo hf4 hft hsh hHO2 hfar2 hO hP hl
      have h84 : Fv 84 = ob 4 ([.int (nI (len)), .int (ft), rf G 85, rf G 88, dv2, iv2, wv2, .int (nI (rgF ol2 d2)), .int (nI (d2)), rf G 89, rf G 90]) := hT2.1
      have hl : lv_has ls 5 [(0, rf G 84), (1, rf G 1), (2, .int (nI (f))), (4, .int (nI (1 + k_l2)))] := by rw [show 1 + k_l2 = d2 by omega]; exact hl
      have hl240 := hIT2.2.2.2.2.2.2.2.2.2.1
      have hd2i : d2 ≤ i2 := hIT2.2.2.1
      refine lv_iload X.1.1 X.1.2.1 dX4_tell_200 (lv_at hl 3 rfl) ?_
      refine sx_if_le X (by omega) (tgt := 216) dX4_tell_202 (by decide) (fun c202 => absurd c202 (by omega)) (fun c202 => ?_)
      refine lv_aload_n X.1.1 X.1.2.1 dX4_tell_205 rfl (lv_at hl 0 rfl) ?_
      refine lv_aload_n X.1.1 X.1.2.1 dX4_tell_206 rfl (lv_at hl 1 rfl) ?_
      refine sx_cvV (As := [rf G 1]) (rest := []) X (mX4_shutLast l (A := A) (i := i2) hT2 hIT2 (by omega) hi2) gX4_tell_X4_shutLast rfl yv_X4_shutLast ⟨Nat.le_of_ble_eq_true rfl, Nat.le_of_ble_eq_true rfl⟩ h84 (by decide) rfl rfl hl.1 rfl (Nat.le_of_ble_eq_true rfl) dX4_tell_207 ⟨Nat.le_of_ble_eq_true rfl, Nat.le_of_ble_eq_true rfl⟩ hs rfl hP (fun F6 H6 l6 hp hP => ?_)
      obtain ⟨t, ht, hth, hT3, o6⟩ := hp
      have hO : ∀ j, j = 0 ∨ (27 < j ∧ j < 84) ∨ j = 88 ∨ 90 < j → F6 j = F j := fun j hj => (o6 j hj).trans (hO j hj)
      refine lv_iinc (v := (nI (k_l2))) (lv' := [(4, .int (nI (k_l2))), (0, rf G 84), (1, rf G 1), (2, .int (nI (f)))]) X.1.1 X.1.2.1 dX4_tell_210 hl (k := 3) rfl (sx_dec1 (by omega)) (by decide) rfl (fun ls hl => ?_)
      refine lv_goto (tgt := 200) X.1.1 X.1.2.1 dX4_tell_213 (by decide) ?_
      have hIT3 := IT.shut hIT2 (by omega)
      have hd3 := shutT_d (w := w2) (n := n2) (en := en2) (jo := jo2) (due := due2) (it := it2) (who := who2) (d := d2) (ol := ol2) (ot := ot2)
      have hs3 : shA k_l2 (shutT (w2, n2, en2, jo2, due2, it2, who2, d2, ol2, ot2)) = shA Tf.2.2.2.2.2.2.2.1 Tf := by rw [← hsh, hkd]; rfl
      obtain ⟨hfs, hHs⟩ := shut_far hIT2 (by omega)
      generalize shutT (w2, n2, en2, jo2, due2, it2, who2, d2, ol2, ot2) = S3 at hT3 hIT3 hd3 hs3 hfs hHs
      obtain ⟨w3, n3, en3, jo3, due3, it3, who3, d3, ol3, ot3⟩ := S3
      have hd3 : d3 = d2 - 1 := hd3
      have hl : lv_has ls 5 [(4, .int (nI (d3))), (0, rf G 84), (1, rf G 1), (2, .int (nI (f)))] := by rw [show d3 = k_l2 by omega]; exact hl
      exact ih_l2 (w3) (n3) (en3) (jo3) (due3) (it3) (who3) (d3) (ol3) (ot3) (dv2) (iv2) (.int (nI t)) (f) (pos) (ft) (Tf) (i2) _ _ _ _ (by omega) (hT3) (hIT3) (hi2) (hgo) (hf4) (hft) ((congrFun (congrArg shA (show d3 = k_l2 by omega)) _).trans hs3) (hHs hHO2) (fun k hk => (hfs k hk).trans (hfar2 k hk))  hO hP (lv_sub hl [1, 2, 3, 0] rfl)
  have l1 : ∀ (k_l1 : Nat) (w1 : Nat → Int32) (n1 : Nat) (en1 : Nat) (jo1 : Nat → Int32) (due1 : Nat) (it1 : Nat) (who1 : Nat) (d1 : Nat) (ol1 : Nat → Int32) (ot1 : Nat → Int32) (i1 : Nat) (iv1 : Value) (Fv : Nat → va_E) (Hv : Heap) (lv : List Loc) (ls : Array Slot), (i1 + k_l1 = len) → (TP G Fv (.int (nI len)) q1 (.int (nI due1)) iv1 (.int (nI who1)) (w1, n1, en1, jo1, due1, it1, who1, d1, ol1, ot1)) → (IT A len i1 (w1, n1, en1, jo1, due1, it1, who1, d1, ol1, ot1)) → (due1 < 4) → (due1 = 1 → it1 < 9 ∧ iv1 = .int (nI it1)) → (goT A len (len - 0) (w, n, en, jo, 0, 0, 0, 0, ol, ot) = goT A len (len - i1) (w1, n1, en1, jo1, due1, it1, who1, d1, ol1, ot1)) → (HO w1) → (∀ k, 1372 ≤ k → w1 k = w k) → (Fv (88) = rI G (240) (lt)) → (∀ j, j = 0 ∨ (27 < j ∧ j < 84) ∨ j = 88 ∨ 90 < j → Fv j = F j) → sx_H G (97) Fv ss.heap Hv lv → lv_has ls 5 [(0, rf G 84), (1, rf G 1), (2, .int (nI 0)), (3, .int (nI (i1)))] → W pp l ee rmX4_tell ss mm args below meth kc Hv lv 0 0 Q (F0 mm 24 ls []) := by
    intro k_l1
    induction k_l1 with
    | zero =>
      intro w1 n1 en1 jo1 due1 it1 who1 d1 ol1 ot1 i1 iv1 Fv Hv lv ls hk1 hT1 hIT1 hdue hiv hgo1 hHO1 hfar1 h88 hO hP hl
      obtain ⟨h84, hW, ⟨jl, jp, h85, h86, h87, hBk⟩, lw, tb, h89, h90, hag⟩ := id hT1
      have h1 := WV.obj hW
      have h84 : Fv 84 = ob 4 ([.int (nI (len)), q1, rf G 85, rf G 88, .int (nI (due1)), iv1, .int (nI (who1)), .int (nI (rgF ol1 d1)), .int (nI (d1)), rf G 89, rf G 90]) := h84
      have h85 : Fv 85 = ob 0 ([.int (nI (en1)), rf G 86, rf G 87]) := h85
      have h86 : Fv 86 = rI G (24) (jl) := h86
      have h87 : Fv 87 = rI G (24) (jp) := h87
      have h89 : Fv 89 = rI G (240) (lw) := h89
      have h90 : Fv 90 = rI G (240) (tb) := h90
      obtain ⟨hwf1, hrg, hdi, hwho, hen1, hjo1, hst, hch, hA1⟩ := id hIT1
      have hn1 := hwf1.2.1
      have hl240 := hA1.2.1
      have hrl := rgF_le ol1 d1
      refine lv_iload_n X.1.1 X.1.2.1 dX4_tell_24 rfl (lv_at hl 3 rfl) ?_
      refine lv_aload_n X.1.1 X.1.2.1 dX4_tell_25 rfl (lv_at hl 0 rfl) ?_
      refine sx_get X hP in_X4_tell_X4 h84 (by decide) rfl 0 (by decide) lk_X4_tell_fieldLink_RX4_32_RaceWatch_Telling_length_I rfl dX4_tell_26 ?_
      refine sx_icmp_ge X (by omega) (by omega) (tgt := 151) dX4_tell_29 (by decide) (fun c29 => ?_) (fun c29 => absurd c29 (by omega))
      refine lv_aload_n X.1.1 X.1.2.1 dX4_tell_151 rfl (lv_at hl 0 rfl) ?_
      refine lv_iload_n X.1.1 X.1.2.1 dX4_tell_152 rfl (lv_at hl 2 rfl) ?_
      refine sx_if_ne X (by decide) (tgt := 160) dX4_tell_153 (by decide) (fun h => absurd h (by decide)) (fun _ => ?_)
      refine lv_iconst (v := (-1)) X.1.1 X.1.2.1 dX4_tell_156 (by decide) ?_
      refine lv_goto (tgt := 163) X.1.1 X.1.2.1 dX4_tell_157 (by decide) ?_
      refine sx_put X hP in_X4_tell_X4 tyX4 tyX4_ok nmX4 h84 (by decide) rfl 1 (by decide) lk_X4_tell_fieldLink_RX4_9_RaceWatch_Telling_faultAt_I rfl rfl rfl (Nat.le_of_ble_eq_true rfl) dX4_tell_163 (fun F7 H7 l7 e7 o7 hP => ?_)
      have h84 : F7 (84) = ob 4 ([.int (nI (len)), .int (-1), rf G 85, rf G 88, .int (nI (due1)), iv1, .int (nI (who1)), .int (nI (rgF ol1 d1)), .int (nI (d1)), rf G 89, rf G 90]) := e7
      have h88 := (o7 (88) (by decide)).trans h88
      have h85 := (o7 (85) (by decide)).trans h85
      have h86 := (o7 (86) (by decide)).trans h86
      have h87 := (o7 (87) (by decide)).trans h87
      have h89 := (o7 (89) (by decide)).trans h89
      have h90 := (o7 (90) (by decide)).trans h90
      have h1 := (o7 (1) (by decide)).trans h1
      have hO : ∀ j, j = 0 ∨ (27 < j ∧ j < 84) ∨ j = 88 ∨ 90 < j → F7 j = F j := fun j hj => (o7 j (by omega)).trans (hO j hj)
      have hW := WV.upd hW (fun j a b => o7 j (by omega))
      refine lv_iload_n X.1.1 X.1.2.1 dX4_tell_166 rfl (lv_at hl 2 rfl) ?_
      refine sx_if_ne X (by decide) (tgt := 194) dX4_tell_167 (by decide) (fun h => absurd h (by decide)) (fun _ => ?_)
      refine lv_aload_n X.1.1 X.1.2.1 dX4_tell_170 rfl (lv_at hl 0 rfl) ?_
      refine sx_get X hP in_X4_tell_X4 h84 (by decide) rfl 4 (by decide) lk_X4_tell_fieldLink_RX4_36_RaceWatch_Telling_due_I rfl dX4_tell_171 ?_
      refine sx_if_ne X (by omega) (tgt := 184) dX4_tell_174 (by decide) (fun c174 => ?_) (fun c174 => ?_)
      · refine lv_iconst (v := nI 1) X.1.1 X.1.2.1 dX4_tell_184 (by decide) ?_
        refine lv_istore_n (lv' := [(2, .int (nI 1)), (0, rf G 84), (1, rf G 1), (3, .int (nI (i1)))]) X.1.1 X.1.2.1 dX4_tell_185 rfl hl (by decide) rfl (fun ls hl => ?_)
        refine lv_aload_n X.1.1 X.1.2.1 dX4_tell_186 rfl (lv_at hl 1 rfl) ?_
        refine lv_aload_n X.1.1 X.1.2.1 dX4_tell_187 rfl (lv_at hl 1 rfl) ?_
        refine sx_get X hP in_X4_tell_X4 h84 (by decide) rfl 0 (by decide) lk_X4_tell_fieldLink_RX4_32_RaceWatch_Telling_length_I rfl dX4_tell_188 ?_
        refine sx_put X hP in_X4_tell_X4 tyX4 tyX4_ok nmX4 h84 (by decide) rfl 1 (by decide) lk_X4_tell_fieldLink_RX4_9_RaceWatch_Telling_faultAt_I rfl rfl rfl (Nat.le_of_ble_eq_true rfl) dX4_tell_191 (fun F8 H8 l8 e8 o8 hP => ?_)
        have h84 : F8 (84) = ob 4 ([.int (nI (len)), .int (nI (len)), rf G 85, rf G 88, .int (nI (due1)), iv1, .int (nI (who1)), .int (nI (rgF ol1 d1)), .int (nI (d1)), rf G 89, rf G 90]) := e8
        have h88 := (o8 (88) (by decide)).trans h88
        have h85 := (o8 (85) (by decide)).trans h85
        have h86 := (o8 (86) (by decide)).trans h86
        have h87 := (o8 (87) (by decide)).trans h87
        have h89 := (o8 (89) (by decide)).trans h89
        have h90 := (o8 (90) (by decide)).trans h90
        have h1 := (o8 (1) (by decide)).trans h1
        have hO : ∀ j, j = 0 ∨ (27 < j ∧ j < 84) ∨ j = 88 ∨ 90 < j → F8 j = F j := fun j hj => (o8 j (by omega)).trans (hO j hj)
        have hW := WV.upd hW (fun j a b => o8 j (by omega))
        refine lv_aload_n X.1.1 X.1.2.1 dX4_tell_194 rfl (lv_at hl 1 rfl) ?_
        refine sx_get X hP in_X4_tell_X4 h84 (by decide) rfl 8 (by decide) lk_X4_tell_fieldLink_RX4_45_RaceWatch_Telling_depth_I rfl dX4_tell_195 ?_
        refine lv_istore (lv' := [(4, .int (nI (d1))), (2, .int (nI 1)), (0, rf G 84), (1, rf G 1), (3, .int (nI (i1)))]) X.1.1 X.1.2.1 dX4_tell_198 hl (by decide) rfl (fun ls hl => ?_)
        exact l2 (d1) (w1) (n1) (en1) (jo1) (due1) (it1) (who1) (d1) (ol1) (ot1) (.int (nI (due1))) (iv1) (.int (nI (who1))) (1) (len) ((nI (len))) ((w1, n1, en1, jo1, due1, it1, who1, d1, ol1, ot1)) (i1) _ _ _ _ (rfl) (⟨h84, hW, ⟨_, _, h85, h86, h87, hBk⟩, _, _, h89, h90, hag⟩) (hIT1) (by omega) (by rw [hgo1, show i1 = len by omega]; exact goT_end (Or.inl c174)) (by decide) (by rw [if_neg (by decide)]) (rfl) (hHO1) (hfar1) hO hP (lv_sub hl [2, 3, 1, 0] rfl)
      · refine lv_aload_n X.1.1 X.1.2.1 dX4_tell_177 rfl (lv_at hl 0 rfl) ?_
        refine sx_get X hP in_X4_tell_X4 h84 (by decide) rfl 8 (by decide) lk_X4_tell_fieldLink_RX4_45_RaceWatch_Telling_depth_I rfl dX4_tell_178 ?_
        refine sx_if_le X (by omega) (tgt := 194) dX4_tell_181 (by decide) (fun c181 => ?_) (fun c181 => ?_)
        · refine lv_aload_n X.1.1 X.1.2.1 dX4_tell_194 rfl (lv_at hl 0 rfl) ?_
          refine sx_get X hP in_X4_tell_X4 h84 (by decide) rfl 8 (by decide) lk_X4_tell_fieldLink_RX4_45_RaceWatch_Telling_depth_I rfl dX4_tell_195 ?_
          refine lv_istore (lv' := [(4, .int (nI (d1))), (0, rf G 84), (1, rf G 1), (2, .int (nI 0)), (3, .int (nI (i1)))]) X.1.1 X.1.2.1 dX4_tell_198 hl (by decide) rfl (fun ls hl => ?_)
          exact l2 (d1) (w1) (n1) (en1) (jo1) (due1) (it1) (who1) (d1) (ol1) (ot1) (.int (nI (due1))) (iv1) (.int (nI (who1))) (0) (len) ((-1)) ((w1, n1, en1, jo1, due1, it1, who1, d1, ol1, ot1)) (i1) _ _ _ _ (rfl) (⟨h84, hW, ⟨_, _, h85, h86, h87, hBk⟩, _, _, h89, h90, hag⟩) (hIT1) (by omega) (by rw [hgo1, show i1 = len by omega]; exact goT_fin ⟨c174, c181⟩) (by decide) (by rw [if_pos rfl]) (rfl) (hHO1) (hfar1) hO hP (lv_sub hl [1, 2, 3, 0] rfl)
        · refine lv_iconst (v := nI 1) X.1.1 X.1.2.1 dX4_tell_184 (by decide) ?_
          refine lv_istore_n (lv' := [(2, .int (nI 1)), (0, rf G 84), (1, rf G 1), (3, .int (nI (i1)))]) X.1.1 X.1.2.1 dX4_tell_185 rfl hl (by decide) rfl (fun ls hl => ?_)
          refine lv_aload_n X.1.1 X.1.2.1 dX4_tell_186 rfl (lv_at hl 1 rfl) ?_
          refine lv_aload_n X.1.1 X.1.2.1 dX4_tell_187 rfl (lv_at hl 1 rfl) ?_
          refine sx_get X hP in_X4_tell_X4 h84 (by decide) rfl 0 (by decide) lk_X4_tell_fieldLink_RX4_32_RaceWatch_Telling_length_I rfl dX4_tell_188 ?_
          refine sx_put X hP in_X4_tell_X4 tyX4 tyX4_ok nmX4 h84 (by decide) rfl 1 (by decide) lk_X4_tell_fieldLink_RX4_9_RaceWatch_Telling_faultAt_I rfl rfl rfl (Nat.le_of_ble_eq_true rfl) dX4_tell_191 (fun F9 H9 l9 e9 o9 hP => ?_)
          have h84 : F9 (84) = ob 4 ([.int (nI (len)), .int (nI (len)), rf G 85, rf G 88, .int (nI (due1)), iv1, .int (nI (who1)), .int (nI (rgF ol1 d1)), .int (nI (d1)), rf G 89, rf G 90]) := e9
          have h88 := (o9 (88) (by decide)).trans h88
          have h85 := (o9 (85) (by decide)).trans h85
          have h86 := (o9 (86) (by decide)).trans h86
          have h87 := (o9 (87) (by decide)).trans h87
          have h89 := (o9 (89) (by decide)).trans h89
          have h90 := (o9 (90) (by decide)).trans h90
          have h1 := (o9 (1) (by decide)).trans h1
          have hO : ∀ j, j = 0 ∨ (27 < j ∧ j < 84) ∨ j = 88 ∨ 90 < j → F9 j = F j := fun j hj => (o9 j (by omega)).trans (hO j hj)
          have hW := WV.upd hW (fun j a b => o9 j (by omega))
          refine lv_aload_n X.1.1 X.1.2.1 dX4_tell_194 rfl (lv_at hl 1 rfl) ?_
          refine sx_get X hP in_X4_tell_X4 h84 (by decide) rfl 8 (by decide) lk_X4_tell_fieldLink_RX4_45_RaceWatch_Telling_depth_I rfl dX4_tell_195 ?_
          refine lv_istore (lv' := [(4, .int (nI (d1))), (2, .int (nI 1)), (0, rf G 84), (1, rf G 1), (3, .int (nI (i1)))]) X.1.1 X.1.2.1 dX4_tell_198 hl (by decide) rfl (fun ls hl => ?_)
          exact l2 (d1) (w1) (n1) (en1) (jo1) (due1) (it1) (who1) (d1) (ol1) (ot1) (.int (nI (due1))) (iv1) (.int (nI (who1))) (1) (len) ((nI (len))) ((w1, n1, en1, jo1, due1, it1, who1, d1, ol1, ot1)) (i1) _ _ _ _ (rfl) (⟨h84, hW, ⟨_, _, h85, h86, h87, hBk⟩, _, _, h89, h90, hag⟩) (hIT1) (by omega) (by rw [hgo1, show i1 = len by omega]; exact goT_end (Or.inr (show ¬ d1 = 0 by omega))) (by decide) (by rw [if_neg (by decide)]) (rfl) (hHO1) (hfar1) hO hP (lv_sub hl [2, 3, 1, 0] rfl)
    | succ k_l1 ih_l1 =>
      intro w1 n1 en1 jo1 due1 it1 who1 d1 ol1 ot1 i1 iv1 Fv Hv lv ls hk1 hT1 hIT1 hdue hiv hgo1 hHO1 hfar1 h88 hO hP hl
      obtain ⟨h84, hW, ⟨jl, jp, h85, h86, h87, hBk⟩, lw, tb, h89, h90, hag⟩ := id hT1
      have h1 := WV.obj hW
      have h84 : Fv 84 = ob 4 ([.int (nI (len)), q1, rf G 85, rf G 88, .int (nI (due1)), iv1, .int (nI (who1)), .int (nI (rgF ol1 d1)), .int (nI (d1)), rf G 89, rf G 90]) := h84
      have h85 : Fv 85 = ob 0 ([.int (nI (en1)), rf G 86, rf G 87]) := h85
      have h86 : Fv 86 = rI G (24) (jl) := h86
      have h87 : Fv 87 = rI G (24) (jp) := h87
      have h89 : Fv 89 = rI G (240) (lw) := h89
      have h90 : Fv 90 = rI G (240) (tb) := h90
      obtain ⟨hwf1, hrg, hdi, hwho, hen1, hjo1, hst, hch, hA1⟩ := id hIT1
      have hn1 := hwf1.2.1
      have hl240 := hA1.2.1
      have hrl := rgF_le ol1 d1
      refine lv_iload_n X.1.1 X.1.2.1 dX4_tell_24 rfl (lv_at hl 3 rfl) ?_
      refine lv_aload_n X.1.1 X.1.2.1 dX4_tell_25 rfl (lv_at hl 0 rfl) ?_
      refine sx_get X hP in_X4_tell_X4 h84 (by decide) rfl 0 (by decide) lk_X4_tell_fieldLink_RX4_32_RaceWatch_Telling_length_I rfl dX4_tell_26 ?_
      refine sx_icmp_ge X (by omega) (by omega) (tgt := 151) dX4_tell_29 (by decide) (fun c29 => absurd c29 (by omega)) (fun c29 => ?_)
      have hi1 : i1 < len := by omega
      have hAi : lt i1 = nI (A i1) := hlt i1 hi1
      have hA256 : A i1 < 256 := (hA.2.2 i1 hi1).1
      refine lv_iload_n X.1.1 X.1.2.1 dX4_tell_32 rfl (lv_at hl 2 rfl) ?_
      refine sx_if_ne X (by decide) (tgt := 151) dX4_tell_33 (by decide) (fun h => absurd h (by decide)) (fun _ => ?_)
      refine lv_aload_n X.1.1 X.1.2.1 dX4_tell_36 rfl (lv_at hl 0 rfl) ?_
      refine sx_get X hP in_X4_tell_X4 h84 (by decide) rfl 3 (by decide) lk_X4_tell_fieldLink_RX4_22_RaceWatch_Telling_letters_I rfl dX4_tell_37 ?_
      refine lv_iload_n X.1.1 X.1.2.1 dX4_tell_40 rfl (lv_at hl 3 rfl) ?_
      refine sx_ald X hP h88 (by decide) (i1) (by omega) (by decide) dX4_tell_41 ?_
      rw [hAi]
      refine lv_istore (lv' := [(4, .int (nI (A i1))), (0, rf G 84), (1, rf G 1), (2, .int (nI 0)), (3, .int (nI (i1)))]) X.1.1 X.1.2.1 dX4_tell_42 hl (by decide) rfl (fun ls hl => ?_)
      refine lv_iinc (v := (nI (1 + i1))) (lv' := [(3, .int (nI (1 + i1))), (4, .int (nI (A i1))), (0, rf G 84), (1, rf G 1), (2, .int (nI 0))]) X.1.1 X.1.2.1 dX4_tell_44 hl (k := 4) rfl (sx_inc1 (by omega)) (by decide) rfl (fun ls hl => ?_)
      refine lv_iload X.1.1 X.1.2.1 dX4_tell_47 (lv_at hl 1 rfl) ?_
      refine lv_bipush (v := nI 32) X.1.1 X.1.2.1 dX4_tell_49 (by decide) ?_
      refine sx_icmp_ne X (by omega) (by decide) (tgt := 57) dX4_tell_51 (by decide) (fun c51 => ?_) (fun c51 => ?_)
      · rcases (show due1 = 0 ∨ due1 = 1 ∨ due1 = 2 ∨ due1 = 3 by omega) with rfl | rfl | rfl | rfl
        · refine lv_aload_n X.1.1 X.1.2.1 dX4_tell_57 rfl (lv_at hl 2 rfl) ?_
          refine sx_get X hP in_X4_tell_X4 h84 (by decide) rfl 4 (by decide) lk_X4_tell_fieldLink_RX4_36_RaceWatch_Telling_due_I rfl dX4_tell_58 ?_
          refine lv_iconst (v := nI 1) X.1.1 X.1.2.1 dX4_tell_61 (by decide) ?_
          refine sx_icmp_ne X (by decide) (by decide) (tgt := 112) dX4_tell_62 (by decide) (fun _ => ?_) (fun h => absurd h (by decide))
          refine lv_aload_n X.1.1 X.1.2.1 dX4_tell_112 rfl (lv_at hl 2 rfl) ?_
          refine sx_get X hP in_X4_tell_X4 h84 (by decide) rfl 4 (by decide) lk_X4_tell_fieldLink_RX4_36_RaceWatch_Telling_due_I rfl dX4_tell_113 ?_
          refine sx_if_ne X (by decide) (tgt := 141) dX4_tell_116 (by decide) (fun h => absurd h (by decide)) (fun _ => ?_)
          refine lv_iload X.1.1 X.1.2.1 dX4_tell_119 (lv_at hl 1 rfl) ?_
          refine lv_bipush (v := nI 41) X.1.1 X.1.2.1 dX4_tell_121 (by decide) ?_
          refine sx_icmp_ne X (by omega) (by decide) (tgt := 141) dX4_tell_123 (by decide) (fun c123 => ?_) (fun c123 => ?_)
          · refine lv_aload_n X.1.1 X.1.2.1 dX4_tell_141 rfl (lv_at hl 2 rfl) ?_
            refine lv_iload X.1.1 X.1.2.1 dX4_tell_142 (lv_at hl 1 rfl) ?_
            refine sx_cvI (As := [.int (nI (A i1))]) (rest := []) X (mX4_tellSign_0 l (a := A i1) hA256 h84) gX4_tell_X4_tellSign rfl yv_X4_tellSign ⟨Nat.le_of_ble_eq_true rfl, Nat.le_of_ble_eq_true rfl⟩ h84 (by decide) rfl rfl hl.1 rfl (Nat.le_of_ble_eq_true rfl) dX4_tell_144 ⟨Nat.le_of_ble_eq_true rfl, Nat.le_of_ble_eq_true rfl⟩ hs rfl hP (fun r10 F10 H10 l10 hp hP => ?_)
            obtain ⟨e10, o10, ⟨g1, rfl⟩ | ⟨g1, rfl⟩⟩ := hp
            · have h84 : F10 (84) = ob 4 ([.int (nI (len)), q1, rf G 85, rf G 88, .int (nI 1), .int (if itF (A i1) = 9 then -1 else nI (itF (A i1))), .int (nI (who1)), .int (nI (rgF ol1 d1)), .int (nI (d1)), rf G 89, rf G 90]) := e10
              have h88 := (o10 (88) (by decide)).trans h88
              have h85 := (o10 (85) (by decide)).trans h85
              have h86 := (o10 (86) (by decide)).trans h86
              have h87 := (o10 (87) (by decide)).trans h87
              have h89 := (o10 (89) (by decide)).trans h89
              have h90 := (o10 (90) (by decide)).trans h90
              have h1 := (o10 (1) (by decide)).trans h1
              have hO : ∀ j, j = 0 ∨ (27 < j ∧ j < 84) ∨ j = 88 ∨ 90 < j → F10 j = F j := fun j hj => (o10 j (by omega)).trans (hO j hj)
              have hW := WV.upd hW (fun j a b => o10 j (by omega))
              refine lv_istore_n (lv' := [(2, .int (nI 1)), (3, .int (nI (1 + i1))), (4, .int (nI (A i1))), (0, rf G 84), (1, rf G 1)]) X.1.1 X.1.2.1 dX4_tell_147 rfl hl (by decide) rfl (fun ls hl => ?_)
              refine lv_goto (tgt := 24) X.1.1 X.1.2.1 dX4_tell_148 (by decide) ?_
              refine lv_iload_n X.1.1 X.1.2.1 dX4_tell_24 rfl (lv_at hl 1 rfl) ?_
              refine lv_aload_n X.1.1 X.1.2.1 dX4_tell_25 rfl (lv_at hl 3 rfl) ?_
              refine sx_get X hP in_X4_tell_X4 h84 (by decide) rfl 0 (by decide) lk_X4_tell_fieldLink_RX4_32_RaceWatch_Telling_length_I rfl dX4_tell_26 ?_
              refine sx_icmp_ge X (by omega) (by omega) (tgt := 151) dX4_tell_29 (by decide) (fun c29 => ?_) (fun c29 => ?_)
              · refine lv_aload_n X.1.1 X.1.2.1 dX4_tell_151 rfl (lv_at hl 3 rfl) ?_
                refine lv_iload_n X.1.1 X.1.2.1 dX4_tell_152 rfl (lv_at hl 0 rfl) ?_
                refine sx_if_ne X (by decide) (tgt := 160) dX4_tell_153 (by decide) (fun _ => ?_) (fun h => absurd h (by decide))
                refine lv_iload_n X.1.1 X.1.2.1 dX4_tell_160 rfl (lv_at hl 1 rfl) ?_
                refine lv_iconst (v := nI 1) X.1.1 X.1.2.1 dX4_tell_161 (by decide) ?_
                refine sx_subN X (i1) (by omega) (by omega) dX4_tell_162 ?_
                refine sx_put X hP in_X4_tell_X4 tyX4 tyX4_ok nmX4 h84 (by decide) rfl 1 (by decide) lk_X4_tell_fieldLink_RX4_9_RaceWatch_Telling_faultAt_I rfl rfl rfl (Nat.le_of_ble_eq_true rfl) dX4_tell_163 (fun F11 H11 l11 e11 o11 hP => ?_)
                have h84 : F11 (84) = ob 4 ([.int (nI (len)), .int (nI (i1)), rf G 85, rf G 88, .int (nI 1), .int (if itF (A i1) = 9 then -1 else nI (itF (A i1))), .int (nI (who1)), .int (nI (rgF ol1 d1)), .int (nI (d1)), rf G 89, rf G 90]) := e11
                have h88 := (o11 (88) (by decide)).trans h88
                have h85 := (o11 (85) (by decide)).trans h85
                have h86 := (o11 (86) (by decide)).trans h86
                have h87 := (o11 (87) (by decide)).trans h87
                have h89 := (o11 (89) (by decide)).trans h89
                have h90 := (o11 (90) (by decide)).trans h90
                have h1 := (o11 (1) (by decide)).trans h1
                have hO : ∀ j, j = 0 ∨ (27 < j ∧ j < 84) ∨ j = 88 ∨ 90 < j → F11 j = F j := fun j hj => (o11 j (by omega)).trans (hO j hj)
                have hW := WV.upd hW (fun j a b => o11 j (by omega))
                refine lv_iload_n X.1.1 X.1.2.1 dX4_tell_166 rfl (lv_at hl 0 rfl) ?_
                refine sx_if_ne X (by decide) (tgt := 194) dX4_tell_167 (by decide) (fun _ => ?_) (fun h => absurd h (by decide))
                refine lv_aload_n X.1.1 X.1.2.1 dX4_tell_194 rfl (lv_at hl 3 rfl) ?_
                refine sx_get X hP in_X4_tell_X4 h84 (by decide) rfl 8 (by decide) lk_X4_tell_fieldLink_RX4_45_RaceWatch_Telling_depth_I rfl dX4_tell_195 ?_
                refine lv_istore (lv' := [(4, .int (nI (d1))), (2, .int (nI 1)), (3, .int (nI (1 + i1))), (0, rf G 84), (1, rf G 1)]) X.1.1 X.1.2.1 dX4_tell_198 hl (by decide) rfl (fun ls hl => ?_)
                exact l2 (d1) (w1) (n1) (en1) (jo1) (0) (it1) (who1) (d1) (ol1) (ot1) (.int (nI 1)) (.int (if itF (A i1) = 9 then -1 else nI (itF (A i1)))) (.int (nI (who1))) (1) (i1) ((nI (i1))) ((w1, n1, en1, jo1, 0, it1, who1, d1, ol1, ot1)) (i1) _ _ _ _ (rfl) (⟨h84, hW, ⟨_, _, h85, h86, h87, hBk⟩, _, _, h89, h90, hag⟩) (hIT1) (by omega) (hgo1.trans (goT_fault (i := i1) (by omega) (tS_none c51 (by omega) g1) (by decide))) (by decide) (by rw [if_neg (by decide)]) (rfl) (hHO1) (hfar1) hO hP (lv_sub hl [3, 4, 1, 0] rfl)
              · refine lv_iload_n X.1.1 X.1.2.1 dX4_tell_32 rfl (lv_at hl 0 rfl) ?_
                refine sx_if_ne X (by decide) (tgt := 151) dX4_tell_33 (by decide) (fun _ => ?_) (fun h => absurd h (by decide))
                refine lv_aload_n X.1.1 X.1.2.1 dX4_tell_151 rfl (lv_at hl 3 rfl) ?_
                refine lv_iload_n X.1.1 X.1.2.1 dX4_tell_152 rfl (lv_at hl 0 rfl) ?_
                refine sx_if_ne X (by decide) (tgt := 160) dX4_tell_153 (by decide) (fun _ => ?_) (fun h => absurd h (by decide))
                refine lv_iload_n X.1.1 X.1.2.1 dX4_tell_160 rfl (lv_at hl 1 rfl) ?_
                refine lv_iconst (v := nI 1) X.1.1 X.1.2.1 dX4_tell_161 (by decide) ?_
                refine sx_subN X (i1) (by omega) (by omega) dX4_tell_162 ?_
                refine sx_put X hP in_X4_tell_X4 tyX4 tyX4_ok nmX4 h84 (by decide) rfl 1 (by decide) lk_X4_tell_fieldLink_RX4_9_RaceWatch_Telling_faultAt_I rfl rfl rfl (Nat.le_of_ble_eq_true rfl) dX4_tell_163 (fun F12 H12 l12 e12 o12 hP => ?_)
                have h84 : F12 (84) = ob 4 ([.int (nI (len)), .int (nI (i1)), rf G 85, rf G 88, .int (nI 1), .int (if itF (A i1) = 9 then -1 else nI (itF (A i1))), .int (nI (who1)), .int (nI (rgF ol1 d1)), .int (nI (d1)), rf G 89, rf G 90]) := e12
                have h88 := (o12 (88) (by decide)).trans h88
                have h85 := (o12 (85) (by decide)).trans h85
                have h86 := (o12 (86) (by decide)).trans h86
                have h87 := (o12 (87) (by decide)).trans h87
                have h89 := (o12 (89) (by decide)).trans h89
                have h90 := (o12 (90) (by decide)).trans h90
                have h1 := (o12 (1) (by decide)).trans h1
                have hO : ∀ j, j = 0 ∨ (27 < j ∧ j < 84) ∨ j = 88 ∨ 90 < j → F12 j = F j := fun j hj => (o12 j (by omega)).trans (hO j hj)
                have hW := WV.upd hW (fun j a b => o12 j (by omega))
                refine lv_iload_n X.1.1 X.1.2.1 dX4_tell_166 rfl (lv_at hl 0 rfl) ?_
                refine sx_if_ne X (by decide) (tgt := 194) dX4_tell_167 (by decide) (fun _ => ?_) (fun h => absurd h (by decide))
                refine lv_aload_n X.1.1 X.1.2.1 dX4_tell_194 rfl (lv_at hl 3 rfl) ?_
                refine sx_get X hP in_X4_tell_X4 h84 (by decide) rfl 8 (by decide) lk_X4_tell_fieldLink_RX4_45_RaceWatch_Telling_depth_I rfl dX4_tell_195 ?_
                refine lv_istore (lv' := [(4, .int (nI (d1))), (2, .int (nI 1)), (3, .int (nI (1 + i1))), (0, rf G 84), (1, rf G 1)]) X.1.1 X.1.2.1 dX4_tell_198 hl (by decide) rfl (fun ls hl => ?_)
                exact l2 (d1) (w1) (n1) (en1) (jo1) (0) (it1) (who1) (d1) (ol1) (ot1) (.int (nI 1)) (.int (if itF (A i1) = 9 then -1 else nI (itF (A i1)))) (.int (nI (who1))) (1) (i1) ((nI (i1))) ((w1, n1, en1, jo1, 0, it1, who1, d1, ol1, ot1)) (i1) _ _ _ _ (rfl) (⟨h84, hW, ⟨_, _, h85, h86, h87, hBk⟩, _, _, h89, h90, hag⟩) (hIT1) (by omega) (hgo1.trans (goT_fault (i := i1) (by omega) (tS_none c51 (by omega) g1) (by decide))) (by decide) (by rw [if_neg (by decide)]) (rfl) (hHO1) (hfar1) hO hP (lv_sub hl [3, 4, 1, 0] rfl)
            · have h84 : F10 (84) = ob 4 ([.int (nI (len)), q1, rf G 85, rf G 88, .int (nI 1), .int (if itF (A i1) = 9 then -1 else nI (itF (A i1))), .int (nI (who1)), .int (nI (rgF ol1 d1)), .int (nI (d1)), rf G 89, rf G 90]) := e10
              have h88 := (o10 (88) (by decide)).trans h88
              have h85 := (o10 (85) (by decide)).trans h85
              have h86 := (o10 (86) (by decide)).trans h86
              have h87 := (o10 (87) (by decide)).trans h87
              have h89 := (o10 (89) (by decide)).trans h89
              have h90 := (o10 (90) (by decide)).trans h90
              have h1 := (o10 (1) (by decide)).trans h1
              have hO : ∀ j, j = 0 ∨ (27 < j ∧ j < 84) ∨ j = 88 ∨ 90 < j → F10 j = F j := fun j hj => (o10 j (by omega)).trans (hO j hj)
              have hW := WV.upd hW (fun j a b => o10 j (by omega))
              refine lv_istore_n (lv' := [(2, .int (nI 0)), (3, .int (nI (1 + i1))), (4, .int (nI (A i1))), (0, rf G 84), (1, rf G 1)]) X.1.1 X.1.2.1 dX4_tell_147 rfl hl (by decide) rfl (fun ls hl => ?_)
              refine lv_goto (tgt := 24) X.1.1 X.1.2.1 dX4_tell_148 (by decide) ?_
              exact ih_l1 (w1) (n1) (en1) (jo1) (1) ((itF (A i1))) (who1) (d1) (ol1) (ot1) (1 + i1) (.int (if itF (A i1) = 9 then -1 else nI (itF (A i1)))) _ _ _ _ (by omega) (⟨h84, hW, ⟨_, _, h85, h86, h87, hBk⟩, _, _, h89, h90, hag⟩) (hIT1.le (by omega)) (by decide) (fun _ => ⟨by have := itF_le (A i1); omega, by rw [if_neg g1]⟩) (hgo1.trans (goT_go (i := i1) (by omega) (tS_item c51 (by omega) g1))) (hHO1) (hfar1) h88 hO hP (lv_sub hl [3, 4, 0, 1] rfl)
          · refine lv_aload_n X.1.1 X.1.2.1 dX4_tell_126 rfl (lv_at hl 2 rfl) ?_
            refine sx_get X hP in_X4_tell_X4 h84 (by decide) rfl 8 (by decide) lk_X4_tell_fieldLink_RX4_45_RaceWatch_Telling_depth_I rfl dX4_tell_127 ?_
            refine sx_if_le X (by omega) (tgt := 141) dX4_tell_130 (by decide) (fun c130 => ?_) (fun c130 => ?_)
            · refine lv_aload_n X.1.1 X.1.2.1 dX4_tell_141 rfl (lv_at hl 2 rfl) ?_
              refine lv_iload X.1.1 X.1.2.1 dX4_tell_142 (lv_at hl 1 rfl) ?_
              refine sx_cvI (As := [.int (nI (A i1))]) (rest := []) X (mX4_tellSign_0 l (a := A i1) hA256 h84) gX4_tell_X4_tellSign rfl yv_X4_tellSign ⟨Nat.le_of_ble_eq_true rfl, Nat.le_of_ble_eq_true rfl⟩ h84 (by decide) rfl rfl hl.1 rfl (Nat.le_of_ble_eq_true rfl) dX4_tell_144 ⟨Nat.le_of_ble_eq_true rfl, Nat.le_of_ble_eq_true rfl⟩ hs rfl hP (fun r13 F13 H13 l13 hp hP => ?_)
              obtain ⟨e13, o13, ⟨g1, rfl⟩ | ⟨g1, rfl⟩⟩ := hp
              · have h84 : F13 (84) = ob 4 ([.int (nI (len)), q1, rf G 85, rf G 88, .int (nI 1), .int (if itF (A i1) = 9 then -1 else nI (itF (A i1))), .int (nI (who1)), .int (nI (rgF ol1 d1)), .int (nI (d1)), rf G 89, rf G 90]) := e13
                have h88 := (o13 (88) (by decide)).trans h88
                have h85 := (o13 (85) (by decide)).trans h85
                have h86 := (o13 (86) (by decide)).trans h86
                have h87 := (o13 (87) (by decide)).trans h87
                have h89 := (o13 (89) (by decide)).trans h89
                have h90 := (o13 (90) (by decide)).trans h90
                have h1 := (o13 (1) (by decide)).trans h1
                have hO : ∀ j, j = 0 ∨ (27 < j ∧ j < 84) ∨ j = 88 ∨ 90 < j → F13 j = F j := fun j hj => (o13 j (by omega)).trans (hO j hj)
                have hW := WV.upd hW (fun j a b => o13 j (by omega))
                refine lv_istore_n (lv' := [(2, .int (nI 1)), (3, .int (nI (1 + i1))), (4, .int (nI (A i1))), (0, rf G 84), (1, rf G 1)]) X.1.1 X.1.2.1 dX4_tell_147 rfl hl (by decide) rfl (fun ls hl => ?_)
                refine lv_goto (tgt := 24) X.1.1 X.1.2.1 dX4_tell_148 (by decide) ?_
                refine lv_iload_n X.1.1 X.1.2.1 dX4_tell_24 rfl (lv_at hl 1 rfl) ?_
                refine lv_aload_n X.1.1 X.1.2.1 dX4_tell_25 rfl (lv_at hl 3 rfl) ?_
                refine sx_get X hP in_X4_tell_X4 h84 (by decide) rfl 0 (by decide) lk_X4_tell_fieldLink_RX4_32_RaceWatch_Telling_length_I rfl dX4_tell_26 ?_
                refine sx_icmp_ge X (by omega) (by omega) (tgt := 151) dX4_tell_29 (by decide) (fun c29 => ?_) (fun c29 => ?_)
                · refine lv_aload_n X.1.1 X.1.2.1 dX4_tell_151 rfl (lv_at hl 3 rfl) ?_
                  refine lv_iload_n X.1.1 X.1.2.1 dX4_tell_152 rfl (lv_at hl 0 rfl) ?_
                  refine sx_if_ne X (by decide) (tgt := 160) dX4_tell_153 (by decide) (fun _ => ?_) (fun h => absurd h (by decide))
                  refine lv_iload_n X.1.1 X.1.2.1 dX4_tell_160 rfl (lv_at hl 1 rfl) ?_
                  refine lv_iconst (v := nI 1) X.1.1 X.1.2.1 dX4_tell_161 (by decide) ?_
                  refine sx_subN X (i1) (by omega) (by omega) dX4_tell_162 ?_
                  refine sx_put X hP in_X4_tell_X4 tyX4 tyX4_ok nmX4 h84 (by decide) rfl 1 (by decide) lk_X4_tell_fieldLink_RX4_9_RaceWatch_Telling_faultAt_I rfl rfl rfl (Nat.le_of_ble_eq_true rfl) dX4_tell_163 (fun F14 H14 l14 e14 o14 hP => ?_)
                  have h84 : F14 (84) = ob 4 ([.int (nI (len)), .int (nI (i1)), rf G 85, rf G 88, .int (nI 1), .int (if itF (A i1) = 9 then -1 else nI (itF (A i1))), .int (nI (who1)), .int (nI (rgF ol1 d1)), .int (nI (d1)), rf G 89, rf G 90]) := e14
                  have h88 := (o14 (88) (by decide)).trans h88
                  have h85 := (o14 (85) (by decide)).trans h85
                  have h86 := (o14 (86) (by decide)).trans h86
                  have h87 := (o14 (87) (by decide)).trans h87
                  have h89 := (o14 (89) (by decide)).trans h89
                  have h90 := (o14 (90) (by decide)).trans h90
                  have h1 := (o14 (1) (by decide)).trans h1
                  have hO : ∀ j, j = 0 ∨ (27 < j ∧ j < 84) ∨ j = 88 ∨ 90 < j → F14 j = F j := fun j hj => (o14 j (by omega)).trans (hO j hj)
                  have hW := WV.upd hW (fun j a b => o14 j (by omega))
                  refine lv_iload_n X.1.1 X.1.2.1 dX4_tell_166 rfl (lv_at hl 0 rfl) ?_
                  refine sx_if_ne X (by decide) (tgt := 194) dX4_tell_167 (by decide) (fun _ => ?_) (fun h => absurd h (by decide))
                  refine lv_aload_n X.1.1 X.1.2.1 dX4_tell_194 rfl (lv_at hl 3 rfl) ?_
                  refine sx_get X hP in_X4_tell_X4 h84 (by decide) rfl 8 (by decide) lk_X4_tell_fieldLink_RX4_45_RaceWatch_Telling_depth_I rfl dX4_tell_195 ?_
                  refine lv_istore (lv' := [(4, .int (nI (d1))), (2, .int (nI 1)), (3, .int (nI (1 + i1))), (0, rf G 84), (1, rf G 1)]) X.1.1 X.1.2.1 dX4_tell_198 hl (by decide) rfl (fun ls hl => ?_)
                  exact l2 (d1) (w1) (n1) (en1) (jo1) (0) (it1) (who1) (d1) (ol1) (ot1) (.int (nI 1)) (.int (if itF (A i1) = 9 then -1 else nI (itF (A i1)))) (.int (nI (who1))) (1) (i1) ((nI (i1))) ((w1, n1, en1, jo1, 0, it1, who1, d1, ol1, ot1)) (i1) _ _ _ _ (rfl) (⟨h84, hW, ⟨_, _, h85, h86, h87, hBk⟩, _, _, h89, h90, hag⟩) (hIT1) (by omega) (hgo1.trans (goT_fault (i := i1) (by omega) (tS_none c51 (by omega) g1) (by decide))) (by decide) (by rw [if_neg (by decide)]) (rfl) (hHO1) (hfar1) hO hP (lv_sub hl [3, 4, 1, 0] rfl)
                · refine lv_iload_n X.1.1 X.1.2.1 dX4_tell_32 rfl (lv_at hl 0 rfl) ?_
                  refine sx_if_ne X (by decide) (tgt := 151) dX4_tell_33 (by decide) (fun _ => ?_) (fun h => absurd h (by decide))
                  refine lv_aload_n X.1.1 X.1.2.1 dX4_tell_151 rfl (lv_at hl 3 rfl) ?_
                  refine lv_iload_n X.1.1 X.1.2.1 dX4_tell_152 rfl (lv_at hl 0 rfl) ?_
                  refine sx_if_ne X (by decide) (tgt := 160) dX4_tell_153 (by decide) (fun _ => ?_) (fun h => absurd h (by decide))
                  refine lv_iload_n X.1.1 X.1.2.1 dX4_tell_160 rfl (lv_at hl 1 rfl) ?_
                  refine lv_iconst (v := nI 1) X.1.1 X.1.2.1 dX4_tell_161 (by decide) ?_
                  refine sx_subN X (i1) (by omega) (by omega) dX4_tell_162 ?_
                  refine sx_put X hP in_X4_tell_X4 tyX4 tyX4_ok nmX4 h84 (by decide) rfl 1 (by decide) lk_X4_tell_fieldLink_RX4_9_RaceWatch_Telling_faultAt_I rfl rfl rfl (Nat.le_of_ble_eq_true rfl) dX4_tell_163 (fun F15 H15 l15 e15 o15 hP => ?_)
                  have h84 : F15 (84) = ob 4 ([.int (nI (len)), .int (nI (i1)), rf G 85, rf G 88, .int (nI 1), .int (if itF (A i1) = 9 then -1 else nI (itF (A i1))), .int (nI (who1)), .int (nI (rgF ol1 d1)), .int (nI (d1)), rf G 89, rf G 90]) := e15
                  have h88 := (o15 (88) (by decide)).trans h88
                  have h85 := (o15 (85) (by decide)).trans h85
                  have h86 := (o15 (86) (by decide)).trans h86
                  have h87 := (o15 (87) (by decide)).trans h87
                  have h89 := (o15 (89) (by decide)).trans h89
                  have h90 := (o15 (90) (by decide)).trans h90
                  have h1 := (o15 (1) (by decide)).trans h1
                  have hO : ∀ j, j = 0 ∨ (27 < j ∧ j < 84) ∨ j = 88 ∨ 90 < j → F15 j = F j := fun j hj => (o15 j (by omega)).trans (hO j hj)
                  have hW := WV.upd hW (fun j a b => o15 j (by omega))
                  refine lv_iload_n X.1.1 X.1.2.1 dX4_tell_166 rfl (lv_at hl 0 rfl) ?_
                  refine sx_if_ne X (by decide) (tgt := 194) dX4_tell_167 (by decide) (fun _ => ?_) (fun h => absurd h (by decide))
                  refine lv_aload_n X.1.1 X.1.2.1 dX4_tell_194 rfl (lv_at hl 3 rfl) ?_
                  refine sx_get X hP in_X4_tell_X4 h84 (by decide) rfl 8 (by decide) lk_X4_tell_fieldLink_RX4_45_RaceWatch_Telling_depth_I rfl dX4_tell_195 ?_
                  refine lv_istore (lv' := [(4, .int (nI (d1))), (2, .int (nI 1)), (3, .int (nI (1 + i1))), (0, rf G 84), (1, rf G 1)]) X.1.1 X.1.2.1 dX4_tell_198 hl (by decide) rfl (fun ls hl => ?_)
                  exact l2 (d1) (w1) (n1) (en1) (jo1) (0) (it1) (who1) (d1) (ol1) (ot1) (.int (nI 1)) (.int (if itF (A i1) = 9 then -1 else nI (itF (A i1)))) (.int (nI (who1))) (1) (i1) ((nI (i1))) ((w1, n1, en1, jo1, 0, it1, who1, d1, ol1, ot1)) (i1) _ _ _ _ (rfl) (⟨h84, hW, ⟨_, _, h85, h86, h87, hBk⟩, _, _, h89, h90, hag⟩) (hIT1) (by omega) (hgo1.trans (goT_fault (i := i1) (by omega) (tS_none c51 (by omega) g1) (by decide))) (by decide) (by rw [if_neg (by decide)]) (rfl) (hHO1) (hfar1) hO hP (lv_sub hl [3, 4, 1, 0] rfl)
              · have h84 : F13 (84) = ob 4 ([.int (nI (len)), q1, rf G 85, rf G 88, .int (nI 1), .int (if itF (A i1) = 9 then -1 else nI (itF (A i1))), .int (nI (who1)), .int (nI (rgF ol1 d1)), .int (nI (d1)), rf G 89, rf G 90]) := e13
                have h88 := (o13 (88) (by decide)).trans h88
                have h85 := (o13 (85) (by decide)).trans h85
                have h86 := (o13 (86) (by decide)).trans h86
                have h87 := (o13 (87) (by decide)).trans h87
                have h89 := (o13 (89) (by decide)).trans h89
                have h90 := (o13 (90) (by decide)).trans h90
                have h1 := (o13 (1) (by decide)).trans h1
                have hO : ∀ j, j = 0 ∨ (27 < j ∧ j < 84) ∨ j = 88 ∨ 90 < j → F13 j = F j := fun j hj => (o13 j (by omega)).trans (hO j hj)
                have hW := WV.upd hW (fun j a b => o13 j (by omega))
                refine lv_istore_n (lv' := [(2, .int (nI 0)), (3, .int (nI (1 + i1))), (4, .int (nI (A i1))), (0, rf G 84), (1, rf G 1)]) X.1.1 X.1.2.1 dX4_tell_147 rfl hl (by decide) rfl (fun ls hl => ?_)
                refine lv_goto (tgt := 24) X.1.1 X.1.2.1 dX4_tell_148 (by decide) ?_
                exact ih_l1 (w1) (n1) (en1) (jo1) (1) ((itF (A i1))) (who1) (d1) (ol1) (ot1) (1 + i1) (.int (if itF (A i1) = 9 then -1 else nI (itF (A i1)))) _ _ _ _ (by omega) (⟨h84, hW, ⟨_, _, h85, h86, h87, hBk⟩, _, _, h89, h90, hag⟩) (hIT1.le (by omega)) (by decide) (fun _ => ⟨by have := itF_le (A i1); omega, by rw [if_neg g1]⟩) (hgo1.trans (goT_go (i := i1) (by omega) (tS_item c51 (by omega) g1))) (hHO1) (hfar1) h88 hO hP (lv_sub hl [3, 4, 0, 1] rfl)
            · refine lv_aload_n X.1.1 X.1.2.1 dX4_tell_133 rfl (lv_at hl 2 rfl) ?_
              refine lv_aload_n X.1.1 X.1.2.1 dX4_tell_134 rfl (lv_at hl 3 rfl) ?_
              refine sx_cvV (As := [rf G 1]) (rest := []) X (mX4_shutLast l (A := A) (i := i1) hT1 hIT1 c130 (by omega)) gX4_tell_X4_shutLast rfl yv_X4_shutLast ⟨Nat.le_of_ble_eq_true rfl, Nat.le_of_ble_eq_true rfl⟩ h84 (by decide) rfl rfl hl.1 rfl (Nat.le_of_ble_eq_true rfl) dX4_tell_135 ⟨Nat.le_of_ble_eq_true rfl, Nat.le_of_ble_eq_true rfl⟩ hs rfl hP (fun F16 H16 l16 hp hP => ?_)
              obtain ⟨t, ht, hth, hT3, o16⟩ := hp
              have h88 := (o16 88 (by omega)).trans h88
              have hO : ∀ j, j = 0 ∨ (27 < j ∧ j < 84) ∨ j = 88 ∨ 90 < j → F16 j = F j := fun j hj => (o16 j hj).trans (hO j hj)
              have hIT3 := (IT.shut hIT1 c130).le (show i1 ≤ 1 + i1 by omega)
              have hdu3 := shutT_due (w := w1) (n := n1) (en := en1) (jo := jo1) (due := 0) (it := it1) (who := who1) (d := d1) (ol := ol1) (ot := ot1)
              have hwh3 := shutT_who (w := w1) (n := n1) (en := en1) (jo := jo1) (due := 0) (it := it1) (who := who1) (d := d1) (ol := ol1) (ot := ot1)
              rw [hth, nI_clamp (by omega)] at hwh3
              have htS : tS (A i1) (w1, n1, en1, jo1, 0, it1, who1, d1, ol1, ot1) = (0, shutT (w1, n1, en1, jo1, 0, it1, who1, d1, ol1, ot1)) := by rw [c123]; exact tS_shut c130
              obtain ⟨hfs, hHs⟩ := shut_far hIT1 c130
              generalize shutT (w1, n1, en1, jo1, 0, it1, who1, d1, ol1, ot1) = S3 at hT3 hIT3 hdu3 hwh3 htS hfs hHs
              obtain ⟨w3, n3, en3, jo3, due3, it3, who3, d3, ol3, ot3⟩ := S3
              have hdu3 : due3 = 0 := hdu3
              have hwh3 : who3 = t := hwh3
              subst hdu3
              subst hwh3
              refine lv_goto (tgt := 148) X.1.1 X.1.2.1 dX4_tell_138 (by decide) ?_
              refine lv_goto (tgt := 24) X.1.1 X.1.2.1 dX4_tell_148 (by decide) ?_
              exact ih_l1 (w3) (n3) (en3) (jo3) (0) (it3) (who3) (d3) (ol3) (ot3) (1 + i1) (iv1) _ _ _ _ (by omega) (hT3) (hIT3) (by decide) (fun q => absurd q (by decide)) (hgo1.trans (goT_go (i := i1) (by omega) (htS))) (hHs hHO1) (fun k hk => (hfs k hk).trans (hfar1 k hk)) h88 hO hP (lv_sub hl [2, 3, 4, 0] rfl)
        · obtain ⟨hit9, rfl⟩ := hiv rfl
          refine lv_aload_n X.1.1 X.1.2.1 dX4_tell_57 rfl (lv_at hl 2 rfl) ?_
          refine sx_get X hP in_X4_tell_X4 h84 (by decide) rfl 4 (by decide) lk_X4_tell_fieldLink_RX4_36_RaceWatch_Telling_due_I rfl dX4_tell_58 ?_
          refine lv_iconst (v := nI 1) X.1.1 X.1.2.1 dX4_tell_61 (by decide) ?_
          refine sx_icmp_ne X (by decide) (by decide) (tgt := 112) dX4_tell_62 (by decide) (fun h => absurd h (by decide)) (fun _ => ?_)
          refine lv_aload_n X.1.1 X.1.2.1 dX4_tell_65 rfl (lv_at hl 2 rfl) ?_
          refine lv_iload X.1.1 X.1.2.1 dX4_tell_66 (lv_at hl 1 rfl) ?_
          refine sx_cvI (As := [.int (nI (A i1))]) (rest := []) X (mX4_faultOfFigure l (a := A i1) (it := it1) hA256 hit9 h84) gX4_tell_X4_faultOfFigure rfl yv_X4_faultOfFigure ⟨Nat.le_of_ble_eq_true rfl, Nat.le_of_ble_eq_true rfl⟩ h84 (by decide) rfl rfl hl.1 rfl (Nat.le_of_ble_eq_true rfl) dX4_tell_68 ⟨Nat.le_of_ble_eq_true rfl, Nat.le_of_ble_eq_true rfl⟩ hs rfl hP (fun r17 F17 H17 l17 hp hP => ?_)
          obtain ⟨rfl, ⟨q1_, rfl⟩ | ⟨q1_, q2_, q3_, rfl⟩ | ⟨q1_, q2_, q3_, rfl⟩⟩ := hp
          · refine lv_istore_n (lv' := [(2, .int (nI 1)), (3, .int (nI (1 + i1))), (4, .int (nI (A i1))), (0, rf G 84), (1, rf G 1)]) X.1.1 X.1.2.1 dX4_tell_71 rfl hl (by decide) rfl (fun ls hl => ?_)
            refine lv_iload_n X.1.1 X.1.2.1 dX4_tell_72 rfl (lv_at hl 0 rfl) ?_
            refine sx_if_ne X (by decide) (tgt := 148) dX4_tell_73 (by decide) (fun _ => ?_) (fun h => absurd h (by decide))
            refine lv_goto (tgt := 24) X.1.1 X.1.2.1 dX4_tell_148 (by decide) ?_
            refine lv_iload_n X.1.1 X.1.2.1 dX4_tell_24 rfl (lv_at hl 1 rfl) ?_
            refine lv_aload_n X.1.1 X.1.2.1 dX4_tell_25 rfl (lv_at hl 3 rfl) ?_
            refine sx_get X hP in_X4_tell_X4 h84 (by decide) rfl 0 (by decide) lk_X4_tell_fieldLink_RX4_32_RaceWatch_Telling_length_I rfl dX4_tell_26 ?_
            refine sx_icmp_ge X (by omega) (by omega) (tgt := 151) dX4_tell_29 (by decide) (fun c29 => ?_) (fun c29 => ?_)
            · refine lv_aload_n X.1.1 X.1.2.1 dX4_tell_151 rfl (lv_at hl 3 rfl) ?_
              refine lv_iload_n X.1.1 X.1.2.1 dX4_tell_152 rfl (lv_at hl 0 rfl) ?_
              refine sx_if_ne X (by decide) (tgt := 160) dX4_tell_153 (by decide) (fun _ => ?_) (fun h => absurd h (by decide))
              refine lv_iload_n X.1.1 X.1.2.1 dX4_tell_160 rfl (lv_at hl 1 rfl) ?_
              refine lv_iconst (v := nI 1) X.1.1 X.1.2.1 dX4_tell_161 (by decide) ?_
              refine sx_subN X (i1) (by omega) (by omega) dX4_tell_162 ?_
              refine sx_put X hP in_X4_tell_X4 tyX4 tyX4_ok nmX4 h84 (by decide) rfl 1 (by decide) lk_X4_tell_fieldLink_RX4_9_RaceWatch_Telling_faultAt_I rfl rfl rfl (Nat.le_of_ble_eq_true rfl) dX4_tell_163 (fun F18 H18 l18 e18 o18 hP => ?_)
              have h84 : F18 (84) = ob 4 ([.int (nI (len)), .int (nI (i1)), rf G 85, rf G 88, .int (nI 1), .int (nI (it1)), .int (nI (who1)), .int (nI (rgF ol1 d1)), .int (nI (d1)), rf G 89, rf G 90]) := e18
              have h88 := (o18 (88) (by decide)).trans h88
              have h85 := (o18 (85) (by decide)).trans h85
              have h86 := (o18 (86) (by decide)).trans h86
              have h87 := (o18 (87) (by decide)).trans h87
              have h89 := (o18 (89) (by decide)).trans h89
              have h90 := (o18 (90) (by decide)).trans h90
              have h1 := (o18 (1) (by decide)).trans h1
              have hO : ∀ j, j = 0 ∨ (27 < j ∧ j < 84) ∨ j = 88 ∨ 90 < j → F18 j = F j := fun j hj => (o18 j (by omega)).trans (hO j hj)
              have hW := WV.upd hW (fun j a b => o18 j (by omega))
              refine lv_iload_n X.1.1 X.1.2.1 dX4_tell_166 rfl (lv_at hl 0 rfl) ?_
              refine sx_if_ne X (by decide) (tgt := 194) dX4_tell_167 (by decide) (fun _ => ?_) (fun h => absurd h (by decide))
              refine lv_aload_n X.1.1 X.1.2.1 dX4_tell_194 rfl (lv_at hl 3 rfl) ?_
              refine sx_get X hP in_X4_tell_X4 h84 (by decide) rfl 8 (by decide) lk_X4_tell_fieldLink_RX4_45_RaceWatch_Telling_depth_I rfl dX4_tell_195 ?_
              refine lv_istore (lv' := [(4, .int (nI (d1))), (2, .int (nI 1)), (3, .int (nI (1 + i1))), (0, rf G 84), (1, rf G 1)]) X.1.1 X.1.2.1 dX4_tell_198 hl (by decide) rfl (fun ls hl => ?_)
              exact l2 (d1) (w1) (n1) (en1) (jo1) (1) (it1) (who1) (d1) (ol1) (ot1) (.int (nI 1)) (.int (nI (it1))) (.int (nI (who1))) (1) (i1) ((nI (i1))) ((w1, n1, en1, jo1, 1, it1, who1, d1, ol1, ot1)) (i1) _ _ _ _ (rfl) (⟨h84, hW, ⟨_, _, h85, h86, h87, hBk⟩, _, _, h89, h90, hag⟩) (hIT1) (by omega) (hgo1.trans (goT_fault (i := i1) (by omega) (tS_nodig c51 q1_) (by decide))) (by decide) (by rw [if_neg (by decide)]) (rfl) (hHO1) (hfar1) hO hP (lv_sub hl [3, 4, 1, 0] rfl)
            · refine lv_iload_n X.1.1 X.1.2.1 dX4_tell_32 rfl (lv_at hl 0 rfl) ?_
              refine sx_if_ne X (by decide) (tgt := 151) dX4_tell_33 (by decide) (fun _ => ?_) (fun h => absurd h (by decide))
              refine lv_aload_n X.1.1 X.1.2.1 dX4_tell_151 rfl (lv_at hl 3 rfl) ?_
              refine lv_iload_n X.1.1 X.1.2.1 dX4_tell_152 rfl (lv_at hl 0 rfl) ?_
              refine sx_if_ne X (by decide) (tgt := 160) dX4_tell_153 (by decide) (fun _ => ?_) (fun h => absurd h (by decide))
              refine lv_iload_n X.1.1 X.1.2.1 dX4_tell_160 rfl (lv_at hl 1 rfl) ?_
              refine lv_iconst (v := nI 1) X.1.1 X.1.2.1 dX4_tell_161 (by decide) ?_
              refine sx_subN X (i1) (by omega) (by omega) dX4_tell_162 ?_
              refine sx_put X hP in_X4_tell_X4 tyX4 tyX4_ok nmX4 h84 (by decide) rfl 1 (by decide) lk_X4_tell_fieldLink_RX4_9_RaceWatch_Telling_faultAt_I rfl rfl rfl (Nat.le_of_ble_eq_true rfl) dX4_tell_163 (fun F19 H19 l19 e19 o19 hP => ?_)
              have h84 : F19 (84) = ob 4 ([.int (nI (len)), .int (nI (i1)), rf G 85, rf G 88, .int (nI 1), .int (nI (it1)), .int (nI (who1)), .int (nI (rgF ol1 d1)), .int (nI (d1)), rf G 89, rf G 90]) := e19
              have h88 := (o19 (88) (by decide)).trans h88
              have h85 := (o19 (85) (by decide)).trans h85
              have h86 := (o19 (86) (by decide)).trans h86
              have h87 := (o19 (87) (by decide)).trans h87
              have h89 := (o19 (89) (by decide)).trans h89
              have h90 := (o19 (90) (by decide)).trans h90
              have h1 := (o19 (1) (by decide)).trans h1
              have hO : ∀ j, j = 0 ∨ (27 < j ∧ j < 84) ∨ j = 88 ∨ 90 < j → F19 j = F j := fun j hj => (o19 j (by omega)).trans (hO j hj)
              have hW := WV.upd hW (fun j a b => o19 j (by omega))
              refine lv_iload_n X.1.1 X.1.2.1 dX4_tell_166 rfl (lv_at hl 0 rfl) ?_
              refine sx_if_ne X (by decide) (tgt := 194) dX4_tell_167 (by decide) (fun _ => ?_) (fun h => absurd h (by decide))
              refine lv_aload_n X.1.1 X.1.2.1 dX4_tell_194 rfl (lv_at hl 3 rfl) ?_
              refine sx_get X hP in_X4_tell_X4 h84 (by decide) rfl 8 (by decide) lk_X4_tell_fieldLink_RX4_45_RaceWatch_Telling_depth_I rfl dX4_tell_195 ?_
              refine lv_istore (lv' := [(4, .int (nI (d1))), (2, .int (nI 1)), (3, .int (nI (1 + i1))), (0, rf G 84), (1, rf G 1)]) X.1.1 X.1.2.1 dX4_tell_198 hl (by decide) rfl (fun ls hl => ?_)
              exact l2 (d1) (w1) (n1) (en1) (jo1) (1) (it1) (who1) (d1) (ol1) (ot1) (.int (nI 1)) (.int (nI (it1))) (.int (nI (who1))) (1) (i1) ((nI (i1))) ((w1, n1, en1, jo1, 1, it1, who1, d1, ol1, ot1)) (i1) _ _ _ _ (rfl) (⟨h84, hW, ⟨_, _, h85, h86, h87, hBk⟩, _, _, h89, h90, hag⟩) (hIT1) (by omega) (hgo1.trans (goT_fault (i := i1) (by omega) (tS_nodig c51 q1_) (by decide))) (by decide) (by rw [if_neg (by decide)]) (rfl) (hHO1) (hfar1) hO hP (lv_sub hl [3, 4, 1, 0] rfl)
          · refine lv_istore_n (lv' := [(2, .int (nI 2)), (3, .int (nI (1 + i1))), (4, .int (nI (A i1))), (0, rf G 84), (1, rf G 1)]) X.1.1 X.1.2.1 dX4_tell_71 rfl hl (by decide) rfl (fun ls hl => ?_)
            refine lv_iload_n X.1.1 X.1.2.1 dX4_tell_72 rfl (lv_at hl 0 rfl) ?_
            refine sx_if_ne X (by decide) (tgt := 148) dX4_tell_73 (by decide) (fun _ => ?_) (fun h => absurd h (by decide))
            refine lv_goto (tgt := 24) X.1.1 X.1.2.1 dX4_tell_148 (by decide) ?_
            refine lv_iload_n X.1.1 X.1.2.1 dX4_tell_24 rfl (lv_at hl 1 rfl) ?_
            refine lv_aload_n X.1.1 X.1.2.1 dX4_tell_25 rfl (lv_at hl 3 rfl) ?_
            refine sx_get X hP in_X4_tell_X4 h84 (by decide) rfl 0 (by decide) lk_X4_tell_fieldLink_RX4_32_RaceWatch_Telling_length_I rfl dX4_tell_26 ?_
            refine sx_icmp_ge X (by omega) (by omega) (tgt := 151) dX4_tell_29 (by decide) (fun c29 => ?_) (fun c29 => ?_)
            · refine lv_aload_n X.1.1 X.1.2.1 dX4_tell_151 rfl (lv_at hl 3 rfl) ?_
              refine lv_iload_n X.1.1 X.1.2.1 dX4_tell_152 rfl (lv_at hl 0 rfl) ?_
              refine sx_if_ne X (by decide) (tgt := 160) dX4_tell_153 (by decide) (fun _ => ?_) (fun h => absurd h (by decide))
              refine lv_iload_n X.1.1 X.1.2.1 dX4_tell_160 rfl (lv_at hl 1 rfl) ?_
              refine lv_iconst (v := nI 1) X.1.1 X.1.2.1 dX4_tell_161 (by decide) ?_
              refine sx_subN X (i1) (by omega) (by omega) dX4_tell_162 ?_
              refine sx_put X hP in_X4_tell_X4 tyX4 tyX4_ok nmX4 h84 (by decide) rfl 1 (by decide) lk_X4_tell_fieldLink_RX4_9_RaceWatch_Telling_faultAt_I rfl rfl rfl (Nat.le_of_ble_eq_true rfl) dX4_tell_163 (fun F20 H20 l20 e20 o20 hP => ?_)
              have h84 : F20 (84) = ob 4 ([.int (nI (len)), .int (nI (i1)), rf G 85, rf G 88, .int (nI 1), .int (nI (it1)), .int (nI (who1)), .int (nI (rgF ol1 d1)), .int (nI (d1)), rf G 89, rf G 90]) := e20
              have h88 := (o20 (88) (by decide)).trans h88
              have h85 := (o20 (85) (by decide)).trans h85
              have h86 := (o20 (86) (by decide)).trans h86
              have h87 := (o20 (87) (by decide)).trans h87
              have h89 := (o20 (89) (by decide)).trans h89
              have h90 := (o20 (90) (by decide)).trans h90
              have h1 := (o20 (1) (by decide)).trans h1
              have hO : ∀ j, j = 0 ∨ (27 < j ∧ j < 84) ∨ j = 88 ∨ 90 < j → F20 j = F j := fun j hj => (o20 j (by omega)).trans (hO j hj)
              have hW := WV.upd hW (fun j a b => o20 j (by omega))
              refine lv_iload_n X.1.1 X.1.2.1 dX4_tell_166 rfl (lv_at hl 0 rfl) ?_
              refine sx_if_ne X (by decide) (tgt := 194) dX4_tell_167 (by decide) (fun _ => ?_) (fun h => absurd h (by decide))
              refine lv_aload_n X.1.1 X.1.2.1 dX4_tell_194 rfl (lv_at hl 3 rfl) ?_
              refine sx_get X hP in_X4_tell_X4 h84 (by decide) rfl 8 (by decide) lk_X4_tell_fieldLink_RX4_45_RaceWatch_Telling_depth_I rfl dX4_tell_195 ?_
              refine lv_istore (lv' := [(4, .int (nI (d1))), (2, .int (nI 2)), (3, .int (nI (1 + i1))), (0, rf G 84), (1, rf G 1)]) X.1.1 X.1.2.1 dX4_tell_198 hl (by decide) rfl (fun ls hl => ?_)
              exact l2 (d1) (w1) (n1) (en1) (jo1) (1) (it1) (who1) (d1) (ol1) (ot1) (.int (nI 1)) (.int (nI (it1))) (.int (nI (who1))) (2) (i1) ((nI (i1))) ((w1, n1, en1, jo1, 1, it1, who1, d1, ol1, ot1)) (i1) _ _ _ _ (rfl) (⟨h84, hW, ⟨_, _, h85, h86, h87, hBk⟩, _, _, h89, h90, hag⟩) (hIT1) (by omega) (hgo1.trans (goT_fault (i := i1) (by omega) (tS_big q1_ q2_ q3_) (by decide))) (by decide) (by rw [if_neg (by decide)]) (rfl) (hHO1) (hfar1) hO hP (lv_sub hl [3, 4, 1, 0] rfl)
            · refine lv_iload_n X.1.1 X.1.2.1 dX4_tell_32 rfl (lv_at hl 0 rfl) ?_
              refine sx_if_ne X (by decide) (tgt := 151) dX4_tell_33 (by decide) (fun _ => ?_) (fun h => absurd h (by decide))
              refine lv_aload_n X.1.1 X.1.2.1 dX4_tell_151 rfl (lv_at hl 3 rfl) ?_
              refine lv_iload_n X.1.1 X.1.2.1 dX4_tell_152 rfl (lv_at hl 0 rfl) ?_
              refine sx_if_ne X (by decide) (tgt := 160) dX4_tell_153 (by decide) (fun _ => ?_) (fun h => absurd h (by decide))
              refine lv_iload_n X.1.1 X.1.2.1 dX4_tell_160 rfl (lv_at hl 1 rfl) ?_
              refine lv_iconst (v := nI 1) X.1.1 X.1.2.1 dX4_tell_161 (by decide) ?_
              refine sx_subN X (i1) (by omega) (by omega) dX4_tell_162 ?_
              refine sx_put X hP in_X4_tell_X4 tyX4 tyX4_ok nmX4 h84 (by decide) rfl 1 (by decide) lk_X4_tell_fieldLink_RX4_9_RaceWatch_Telling_faultAt_I rfl rfl rfl (Nat.le_of_ble_eq_true rfl) dX4_tell_163 (fun F21 H21 l21 e21 o21 hP => ?_)
              have h84 : F21 (84) = ob 4 ([.int (nI (len)), .int (nI (i1)), rf G 85, rf G 88, .int (nI 1), .int (nI (it1)), .int (nI (who1)), .int (nI (rgF ol1 d1)), .int (nI (d1)), rf G 89, rf G 90]) := e21
              have h88 := (o21 (88) (by decide)).trans h88
              have h85 := (o21 (85) (by decide)).trans h85
              have h86 := (o21 (86) (by decide)).trans h86
              have h87 := (o21 (87) (by decide)).trans h87
              have h89 := (o21 (89) (by decide)).trans h89
              have h90 := (o21 (90) (by decide)).trans h90
              have h1 := (o21 (1) (by decide)).trans h1
              have hO : ∀ j, j = 0 ∨ (27 < j ∧ j < 84) ∨ j = 88 ∨ 90 < j → F21 j = F j := fun j hj => (o21 j (by omega)).trans (hO j hj)
              have hW := WV.upd hW (fun j a b => o21 j (by omega))
              refine lv_iload_n X.1.1 X.1.2.1 dX4_tell_166 rfl (lv_at hl 0 rfl) ?_
              refine sx_if_ne X (by decide) (tgt := 194) dX4_tell_167 (by decide) (fun _ => ?_) (fun h => absurd h (by decide))
              refine lv_aload_n X.1.1 X.1.2.1 dX4_tell_194 rfl (lv_at hl 3 rfl) ?_
              refine sx_get X hP in_X4_tell_X4 h84 (by decide) rfl 8 (by decide) lk_X4_tell_fieldLink_RX4_45_RaceWatch_Telling_depth_I rfl dX4_tell_195 ?_
              refine lv_istore (lv' := [(4, .int (nI (d1))), (2, .int (nI 2)), (3, .int (nI (1 + i1))), (0, rf G 84), (1, rf G 1)]) X.1.1 X.1.2.1 dX4_tell_198 hl (by decide) rfl (fun ls hl => ?_)
              exact l2 (d1) (w1) (n1) (en1) (jo1) (1) (it1) (who1) (d1) (ol1) (ot1) (.int (nI 1)) (.int (nI (it1))) (.int (nI (who1))) (2) (i1) ((nI (i1))) ((w1, n1, en1, jo1, 1, it1, who1, d1, ol1, ot1)) (i1) _ _ _ _ (rfl) (⟨h84, hW, ⟨_, _, h85, h86, h87, hBk⟩, _, _, h89, h90, hag⟩) (hIT1) (by omega) (hgo1.trans (goT_fault (i := i1) (by omega) (tS_big q1_ q2_ q3_) (by decide))) (by decide) (by rw [if_neg (by decide)]) (rfl) (hHO1) (hfar1) hO hP (lv_sub hl [3, 4, 1, 0] rfl)
          · refine lv_istore_n (lv' := [(2, .int (nI 0)), (3, .int (nI (1 + i1))), (4, .int (nI (A i1))), (0, rf G 84), (1, rf G 1)]) X.1.1 X.1.2.1 dX4_tell_71 rfl hl (by decide) rfl (fun ls hl => ?_)
            refine lv_iload_n X.1.1 X.1.2.1 dX4_tell_72 rfl (lv_at hl 0 rfl) ?_
            refine sx_if_ne X (by decide) (tgt := 148) dX4_tell_73 (by decide) (fun h => absurd h (by decide)) (fun _ => ?_)
            refine lv_aload_n X.1.1 X.1.2.1 dX4_tell_76 rfl (lv_at hl 3 rfl) ?_
            refine sx_get X hP in_X4_tell_X4 h84 (by decide) rfl 5 (by decide) lk_X4_tell_fieldLink_RX4_52_RaceWatch_Telling_item_I rfl dX4_tell_77 ?_
            refine lv_bipush (v := nI 8) X.1.1 X.1.2.1 dX4_tell_80 (by decide) ?_
            refine sx_icmp_ne X (by omega) (by decide) (tgt := 98) dX4_tell_82 (by decide) (fun c82 => ?_) (fun c82 => ?_)
            · refine lv_aload_n X.1.1 X.1.2.1 dX4_tell_98 rfl (lv_at hl 3 rfl) ?_
              refine lv_iload X.1.1 X.1.2.1 dX4_tell_99 (lv_at hl 2 rfl) ?_
              refine lv_bipush (v := nI 48) X.1.1 X.1.2.1 dX4_tell_101 (by decide) ?_
              refine sx_subN X ((A i1 - 48)) (by omega) (by omega) dX4_tell_103 ?_
              refine lv_aload_n X.1.1 X.1.2.1 dX4_tell_104 rfl (lv_at hl 4 rfl) ?_
              refine sx_cvI (As := [.int (nI ((A i1 - 48))), rf G 1]) (rest := []) X (mX4_tellEvent l (A := A) (i := i1) (x := A i1 - 48) hT1 hIT1 hi1 (by omega) q3_) gX4_tell_X4_tellEvent rfl yv_X4_tellEvent ⟨Nat.le_of_ble_eq_true rfl, Nat.le_of_ble_eq_true rfl⟩ h84 (by decide) rfl rfl hl.1 rfl (Nat.le_of_ble_eq_true rfl) dX4_tell_105 ⟨Nat.le_of_ble_eq_true rfl, Nat.le_of_ble_eq_true rfl⟩ hs rfl hP (fun r22 F22 H22 l22 hp hP => ?_)
              obtain ⟨g1, hF, rfl⟩ | ⟨g1, g2, hF, rfl⟩ | ⟨g1, g2, rfl, o22, ⟨g3, hT3⟩ | ⟨g3, hT3⟩⟩ := hp
              · have hF := hF.symm
                subst hF
                refine lv_istore_n (lv' := [(2, .int (nI 3)), (3, .int (nI (1 + i1))), (4, .int (nI (A i1))), (0, rf G 84), (1, rf G 1)]) X.1.1 X.1.2.1 dX4_tell_108 rfl hl (by decide) rfl (fun ls hl => ?_)
                refine lv_goto (tgt := 148) X.1.1 X.1.2.1 dX4_tell_109 (by decide) ?_
                refine lv_goto (tgt := 24) X.1.1 X.1.2.1 dX4_tell_148 (by decide) ?_
                refine lv_iload_n X.1.1 X.1.2.1 dX4_tell_24 rfl (lv_at hl 1 rfl) ?_
                refine lv_aload_n X.1.1 X.1.2.1 dX4_tell_25 rfl (lv_at hl 3 rfl) ?_
                refine sx_get X hP in_X4_tell_X4 h84 (by decide) rfl 0 (by decide) lk_X4_tell_fieldLink_RX4_32_RaceWatch_Telling_length_I rfl dX4_tell_26 ?_
                refine sx_icmp_ge X (by omega) (by omega) (tgt := 151) dX4_tell_29 (by decide) (fun c29 => ?_) (fun c29 => ?_)
                · refine lv_aload_n X.1.1 X.1.2.1 dX4_tell_151 rfl (lv_at hl 3 rfl) ?_
                  refine lv_iload_n X.1.1 X.1.2.1 dX4_tell_152 rfl (lv_at hl 0 rfl) ?_
                  refine sx_if_ne X (by decide) (tgt := 160) dX4_tell_153 (by decide) (fun _ => ?_) (fun h => absurd h (by decide))
                  refine lv_iload_n X.1.1 X.1.2.1 dX4_tell_160 rfl (lv_at hl 1 rfl) ?_
                  refine lv_iconst (v := nI 1) X.1.1 X.1.2.1 dX4_tell_161 (by decide) ?_
                  refine sx_subN X (i1) (by omega) (by omega) dX4_tell_162 ?_
                  refine sx_put X hP in_X4_tell_X4 tyX4 tyX4_ok nmX4 h84 (by decide) rfl 1 (by decide) lk_X4_tell_fieldLink_RX4_9_RaceWatch_Telling_faultAt_I rfl rfl rfl (Nat.le_of_ble_eq_true rfl) dX4_tell_163 (fun F23 H23 l23 e23 o23 hP => ?_)
                  have h84 : F23 (84) = ob 4 ([.int (nI (len)), .int (nI (i1)), rf G 85, rf G 88, .int (nI 1), .int (nI (it1)), .int (nI (who1)), .int (nI (rgF ol1 d1)), .int (nI (d1)), rf G 89, rf G 90]) := e23
                  have h88 := (o23 (88) (by decide)).trans h88
                  have h85 := (o23 (85) (by decide)).trans h85
                  have h86 := (o23 (86) (by decide)).trans h86
                  have h87 := (o23 (87) (by decide)).trans h87
                  have h89 := (o23 (89) (by decide)).trans h89
                  have h90 := (o23 (90) (by decide)).trans h90
                  have h1 := (o23 (1) (by decide)).trans h1
                  have hO : ∀ j, j = 0 ∨ (27 < j ∧ j < 84) ∨ j = 88 ∨ 90 < j → F23 j = F j := fun j hj => (o23 j (by omega)).trans (hO j hj)
                  have hW := WV.upd hW (fun j a b => o23 j (by omega))
                  refine lv_iload_n X.1.1 X.1.2.1 dX4_tell_166 rfl (lv_at hl 0 rfl) ?_
                  refine sx_if_ne X (by decide) (tgt := 194) dX4_tell_167 (by decide) (fun _ => ?_) (fun h => absurd h (by decide))
                  refine lv_aload_n X.1.1 X.1.2.1 dX4_tell_194 rfl (lv_at hl 3 rfl) ?_
                  refine sx_get X hP in_X4_tell_X4 h84 (by decide) rfl 8 (by decide) lk_X4_tell_fieldLink_RX4_45_RaceWatch_Telling_depth_I rfl dX4_tell_195 ?_
                  refine lv_istore (lv' := [(4, .int (nI (d1))), (2, .int (nI 3)), (3, .int (nI (1 + i1))), (0, rf G 84), (1, rf G 1)]) X.1.1 X.1.2.1 dX4_tell_198 hl (by decide) rfl (fun ls hl => ?_)
                  exact l2 (d1) (w1) (n1) (en1) (jo1) (1) (it1) (who1) (d1) (ol1) (ot1) (.int (nI 1)) (.int (nI (it1))) (.int (nI (who1))) (3) (i1) ((nI (i1))) ((w1, n1, en1, jo1, 1, it1, who1, d1, ol1, ot1)) (i1) _ _ _ _ (rfl) (⟨h84, hW, ⟨_, _, h85, h86, h87, hBk⟩, _, _, h89, h90, hag⟩) (hIT1) (by omega) (hgo1.trans (goT_fault (i := i1) (by omega) (tS_full q1_ q2_ q3_ c82 g1) (by decide))) (by decide) (by rw [if_neg (by decide)]) (rfl) (hHO1) (hfar1) hO hP (lv_sub hl [3, 4, 1, 0] rfl)
                · refine lv_iload_n X.1.1 X.1.2.1 dX4_tell_32 rfl (lv_at hl 0 rfl) ?_
                  refine sx_if_ne X (by decide) (tgt := 151) dX4_tell_33 (by decide) (fun _ => ?_) (fun h => absurd h (by decide))
                  refine lv_aload_n X.1.1 X.1.2.1 dX4_tell_151 rfl (lv_at hl 3 rfl) ?_
                  refine lv_iload_n X.1.1 X.1.2.1 dX4_tell_152 rfl (lv_at hl 0 rfl) ?_
                  refine sx_if_ne X (by decide) (tgt := 160) dX4_tell_153 (by decide) (fun _ => ?_) (fun h => absurd h (by decide))
                  refine lv_iload_n X.1.1 X.1.2.1 dX4_tell_160 rfl (lv_at hl 1 rfl) ?_
                  refine lv_iconst (v := nI 1) X.1.1 X.1.2.1 dX4_tell_161 (by decide) ?_
                  refine sx_subN X (i1) (by omega) (by omega) dX4_tell_162 ?_
                  refine sx_put X hP in_X4_tell_X4 tyX4 tyX4_ok nmX4 h84 (by decide) rfl 1 (by decide) lk_X4_tell_fieldLink_RX4_9_RaceWatch_Telling_faultAt_I rfl rfl rfl (Nat.le_of_ble_eq_true rfl) dX4_tell_163 (fun F24 H24 l24 e24 o24 hP => ?_)
                  have h84 : F24 (84) = ob 4 ([.int (nI (len)), .int (nI (i1)), rf G 85, rf G 88, .int (nI 1), .int (nI (it1)), .int (nI (who1)), .int (nI (rgF ol1 d1)), .int (nI (d1)), rf G 89, rf G 90]) := e24
                  have h88 := (o24 (88) (by decide)).trans h88
                  have h85 := (o24 (85) (by decide)).trans h85
                  have h86 := (o24 (86) (by decide)).trans h86
                  have h87 := (o24 (87) (by decide)).trans h87
                  have h89 := (o24 (89) (by decide)).trans h89
                  have h90 := (o24 (90) (by decide)).trans h90
                  have h1 := (o24 (1) (by decide)).trans h1
                  have hO : ∀ j, j = 0 ∨ (27 < j ∧ j < 84) ∨ j = 88 ∨ 90 < j → F24 j = F j := fun j hj => (o24 j (by omega)).trans (hO j hj)
                  have hW := WV.upd hW (fun j a b => o24 j (by omega))
                  refine lv_iload_n X.1.1 X.1.2.1 dX4_tell_166 rfl (lv_at hl 0 rfl) ?_
                  refine sx_if_ne X (by decide) (tgt := 194) dX4_tell_167 (by decide) (fun _ => ?_) (fun h => absurd h (by decide))
                  refine lv_aload_n X.1.1 X.1.2.1 dX4_tell_194 rfl (lv_at hl 3 rfl) ?_
                  refine sx_get X hP in_X4_tell_X4 h84 (by decide) rfl 8 (by decide) lk_X4_tell_fieldLink_RX4_45_RaceWatch_Telling_depth_I rfl dX4_tell_195 ?_
                  refine lv_istore (lv' := [(4, .int (nI (d1))), (2, .int (nI 3)), (3, .int (nI (1 + i1))), (0, rf G 84), (1, rf G 1)]) X.1.1 X.1.2.1 dX4_tell_198 hl (by decide) rfl (fun ls hl => ?_)
                  exact l2 (d1) (w1) (n1) (en1) (jo1) (1) (it1) (who1) (d1) (ol1) (ot1) (.int (nI 1)) (.int (nI (it1))) (.int (nI (who1))) (3) (i1) ((nI (i1))) ((w1, n1, en1, jo1, 1, it1, who1, d1, ol1, ot1)) (i1) _ _ _ _ (rfl) (⟨h84, hW, ⟨_, _, h85, h86, h87, hBk⟩, _, _, h89, h90, hag⟩) (hIT1) (by omega) (hgo1.trans (goT_fault (i := i1) (by omega) (tS_full q1_ q2_ q3_ c82 g1) (by decide))) (by decide) (by rw [if_neg (by decide)]) (rfl) (hHO1) (hfar1) hO hP (lv_sub hl [3, 4, 1, 0] rfl)
              · have hF := hF.symm
                subst hF
                refine lv_istore_n (lv' := [(2, .int (nI 4)), (3, .int (nI (1 + i1))), (4, .int (nI (A i1))), (0, rf G 84), (1, rf G 1)]) X.1.1 X.1.2.1 dX4_tell_108 rfl hl (by decide) rfl (fun ls hl => ?_)
                refine lv_goto (tgt := 148) X.1.1 X.1.2.1 dX4_tell_109 (by decide) ?_
                refine lv_goto (tgt := 24) X.1.1 X.1.2.1 dX4_tell_148 (by decide) ?_
                refine lv_iload_n X.1.1 X.1.2.1 dX4_tell_24 rfl (lv_at hl 1 rfl) ?_
                refine lv_aload_n X.1.1 X.1.2.1 dX4_tell_25 rfl (lv_at hl 3 rfl) ?_
                refine sx_get X hP in_X4_tell_X4 h84 (by decide) rfl 0 (by decide) lk_X4_tell_fieldLink_RX4_32_RaceWatch_Telling_length_I rfl dX4_tell_26 ?_
                refine sx_icmp_ge X (by omega) (by omega) (tgt := 151) dX4_tell_29 (by decide) (fun c29 => ?_) (fun c29 => ?_)
                · refine lv_aload_n X.1.1 X.1.2.1 dX4_tell_151 rfl (lv_at hl 3 rfl) ?_
                  refine lv_iload_n X.1.1 X.1.2.1 dX4_tell_152 rfl (lv_at hl 0 rfl) ?_
                  refine sx_if_ne X (by decide) (tgt := 160) dX4_tell_153 (by decide) (fun _ => ?_) (fun h => absurd h (by decide))
                  refine lv_iload_n X.1.1 X.1.2.1 dX4_tell_160 rfl (lv_at hl 1 rfl) ?_
                  refine lv_iconst (v := nI 1) X.1.1 X.1.2.1 dX4_tell_161 (by decide) ?_
                  refine sx_subN X (i1) (by omega) (by omega) dX4_tell_162 ?_
                  refine sx_put X hP in_X4_tell_X4 tyX4 tyX4_ok nmX4 h84 (by decide) rfl 1 (by decide) lk_X4_tell_fieldLink_RX4_9_RaceWatch_Telling_faultAt_I rfl rfl rfl (Nat.le_of_ble_eq_true rfl) dX4_tell_163 (fun F25 H25 l25 e25 o25 hP => ?_)
                  have h84 : F25 (84) = ob 4 ([.int (nI (len)), .int (nI (i1)), rf G 85, rf G 88, .int (nI 1), .int (nI (it1)), .int (nI (who1)), .int (nI (rgF ol1 d1)), .int (nI (d1)), rf G 89, rf G 90]) := e25
                  have h88 := (o25 (88) (by decide)).trans h88
                  have h85 := (o25 (85) (by decide)).trans h85
                  have h86 := (o25 (86) (by decide)).trans h86
                  have h87 := (o25 (87) (by decide)).trans h87
                  have h89 := (o25 (89) (by decide)).trans h89
                  have h90 := (o25 (90) (by decide)).trans h90
                  have h1 := (o25 (1) (by decide)).trans h1
                  have hO : ∀ j, j = 0 ∨ (27 < j ∧ j < 84) ∨ j = 88 ∨ 90 < j → F25 j = F j := fun j hj => (o25 j (by omega)).trans (hO j hj)
                  have hW := WV.upd hW (fun j a b => o25 j (by omega))
                  refine lv_iload_n X.1.1 X.1.2.1 dX4_tell_166 rfl (lv_at hl 0 rfl) ?_
                  refine sx_if_ne X (by decide) (tgt := 194) dX4_tell_167 (by decide) (fun _ => ?_) (fun h => absurd h (by decide))
                  refine lv_aload_n X.1.1 X.1.2.1 dX4_tell_194 rfl (lv_at hl 3 rfl) ?_
                  refine sx_get X hP in_X4_tell_X4 h84 (by decide) rfl 8 (by decide) lk_X4_tell_fieldLink_RX4_45_RaceWatch_Telling_depth_I rfl dX4_tell_195 ?_
                  refine lv_istore (lv' := [(4, .int (nI (d1))), (2, .int (nI 4)), (3, .int (nI (1 + i1))), (0, rf G 84), (1, rf G 1)]) X.1.1 X.1.2.1 dX4_tell_198 hl (by decide) rfl (fun ls hl => ?_)
                  exact l2 (d1) (w1) (n1) (en1) (jo1) (1) (it1) (who1) (d1) (ol1) (ot1) (.int (nI 1)) (.int (nI (it1))) (.int (nI (who1))) (4) (i1) ((nI (i1))) ((w1, n1, en1, jo1, 1, it1, who1, d1, ol1, ot1)) (i1) _ _ _ _ (rfl) (⟨h84, hW, ⟨_, _, h85, h86, h87, hBk⟩, _, _, h89, h90, hag⟩) (hIT1) (by omega) (hgo1.trans (goT_fault (i := i1) (by omega) (tS_not q1_ q2_ q3_ c82 g1 g2) (by decide))) (by decide) (by rw [if_neg (by decide)]) (rfl) (hHO1) (hfar1) hO hP (lv_sub hl [3, 4, 1, 0] rfl)
                · refine lv_iload_n X.1.1 X.1.2.1 dX4_tell_32 rfl (lv_at hl 0 rfl) ?_
                  refine sx_if_ne X (by decide) (tgt := 151) dX4_tell_33 (by decide) (fun _ => ?_) (fun h => absurd h (by decide))
                  refine lv_aload_n X.1.1 X.1.2.1 dX4_tell_151 rfl (lv_at hl 3 rfl) ?_
                  refine lv_iload_n X.1.1 X.1.2.1 dX4_tell_152 rfl (lv_at hl 0 rfl) ?_
                  refine sx_if_ne X (by decide) (tgt := 160) dX4_tell_153 (by decide) (fun _ => ?_) (fun h => absurd h (by decide))
                  refine lv_iload_n X.1.1 X.1.2.1 dX4_tell_160 rfl (lv_at hl 1 rfl) ?_
                  refine lv_iconst (v := nI 1) X.1.1 X.1.2.1 dX4_tell_161 (by decide) ?_
                  refine sx_subN X (i1) (by omega) (by omega) dX4_tell_162 ?_
                  refine sx_put X hP in_X4_tell_X4 tyX4 tyX4_ok nmX4 h84 (by decide) rfl 1 (by decide) lk_X4_tell_fieldLink_RX4_9_RaceWatch_Telling_faultAt_I rfl rfl rfl (Nat.le_of_ble_eq_true rfl) dX4_tell_163 (fun F26 H26 l26 e26 o26 hP => ?_)
                  have h84 : F26 (84) = ob 4 ([.int (nI (len)), .int (nI (i1)), rf G 85, rf G 88, .int (nI 1), .int (nI (it1)), .int (nI (who1)), .int (nI (rgF ol1 d1)), .int (nI (d1)), rf G 89, rf G 90]) := e26
                  have h88 := (o26 (88) (by decide)).trans h88
                  have h85 := (o26 (85) (by decide)).trans h85
                  have h86 := (o26 (86) (by decide)).trans h86
                  have h87 := (o26 (87) (by decide)).trans h87
                  have h89 := (o26 (89) (by decide)).trans h89
                  have h90 := (o26 (90) (by decide)).trans h90
                  have h1 := (o26 (1) (by decide)).trans h1
                  have hO : ∀ j, j = 0 ∨ (27 < j ∧ j < 84) ∨ j = 88 ∨ 90 < j → F26 j = F j := fun j hj => (o26 j (by omega)).trans (hO j hj)
                  have hW := WV.upd hW (fun j a b => o26 j (by omega))
                  refine lv_iload_n X.1.1 X.1.2.1 dX4_tell_166 rfl (lv_at hl 0 rfl) ?_
                  refine sx_if_ne X (by decide) (tgt := 194) dX4_tell_167 (by decide) (fun _ => ?_) (fun h => absurd h (by decide))
                  refine lv_aload_n X.1.1 X.1.2.1 dX4_tell_194 rfl (lv_at hl 3 rfl) ?_
                  refine sx_get X hP in_X4_tell_X4 h84 (by decide) rfl 8 (by decide) lk_X4_tell_fieldLink_RX4_45_RaceWatch_Telling_depth_I rfl dX4_tell_195 ?_
                  refine lv_istore (lv' := [(4, .int (nI (d1))), (2, .int (nI 4)), (3, .int (nI (1 + i1))), (0, rf G 84), (1, rf G 1)]) X.1.1 X.1.2.1 dX4_tell_198 hl (by decide) rfl (fun ls hl => ?_)
                  exact l2 (d1) (w1) (n1) (en1) (jo1) (1) (it1) (who1) (d1) (ol1) (ot1) (.int (nI 1)) (.int (nI (it1))) (.int (nI (who1))) (4) (i1) ((nI (i1))) ((w1, n1, en1, jo1, 1, it1, who1, d1, ol1, ot1)) (i1) _ _ _ _ (rfl) (⟨h84, hW, ⟨_, _, h85, h86, h87, hBk⟩, _, _, h89, h90, hag⟩) (hIT1) (by omega) (hgo1.trans (goT_fault (i := i1) (by omega) (tS_not q1_ q2_ q3_ c82 g1 g2) (by decide))) (by decide) (by rw [if_neg (by decide)]) (rfl) (hHO1) (hfar1) hO hP (lv_sub hl [3, 4, 1, 0] rfl)
              · have h88 := (o22 88 (by omega)).trans h88
                have hO : ∀ j, j = 0 ∨ (27 < j ∧ j < 84) ∨ j = 88 ∨ 90 < j → F22 j = F j := fun j hj => (o22 j hj).trans (hO j hj)
                have hm1 : 1 ≤ moreF it1 := by unfold moreF; split <;> omega
                refine lv_istore_n (lv' := [(2, .int (nI 0)), (3, .int (nI (1 + i1))), (4, .int (nI (A i1))), (0, rf G 84), (1, rf G 1)]) X.1.1 X.1.2.1 dX4_tell_108 rfl hl (by decide) rfl (fun ls hl => ?_)
                refine lv_goto (tgt := 148) X.1.1 X.1.2.1 dX4_tell_109 (by decide) ?_
                refine lv_goto (tgt := 24) X.1.1 X.1.2.1 dX4_tell_148 (by decide) ?_
                exact ih_l1 ((comeF w1 n1 who1 it1 (A i1 - 48))) ((1 + n1)) (en1) (jo1) (2) (it1) (who1) (d1) (ol1) (ot1) (1 + i1) (.int (nI it1)) _ _ _ _ (by omega) (hT3) ((hIT1.evn (by omega) q3_ g2 g1).le (by omega)) (by decide) (fun q => absurd q (by decide)) (hgo1.trans (goT_go (i := i1) (by omega) (tS_ev q1_ q2_ q3_ c82 g3 g1 g2))) (HO_come hHO1 hwf1.2.2.2.1 hwho (by omega) q3_) (fun k hk => (come_far hwf1 (by omega) hwho (by omega) q3_ hk).trans (hfar1 k hk)) h88 hO hP (lv_sub hl [3, 4, 0, 1] rfl)
              · have h88 := (o22 88 (by omega)).trans h88
                have hO : ∀ j, j = 0 ∨ (27 < j ∧ j < 84) ∨ j = 88 ∨ 90 < j → F22 j = F j := fun j hj => (o22 j hj).trans (hO j hj)
                subst g3
                have hm : moreF 2 = 2 := rfl
                have hx3 : A i1 - 48 < 3 := q3_
                refine lv_istore_n (lv' := [(2, .int (nI 0)), (3, .int (nI (1 + i1))), (4, .int (nI (A i1))), (0, rf G 84), (1, rf G 1)]) X.1.1 X.1.2.1 dX4_tell_108 rfl hl (by decide) rfl (fun ls hl => ?_)
                refine lv_goto (tgt := 148) X.1.1 X.1.2.1 dX4_tell_109 (by decide) ?_
                refine lv_goto (tgt := 24) X.1.1 X.1.2.1 dX4_tell_148 (by decide) ?_
                exact ih_l1 ((comeF w1 n1 who1 2 (A i1 - 48))) ((1 + n1)) ((jnE en1)) ((jnR en1 jo1 (nI (1 + 2 * (A i1 - 48))))) (3) (2) (who1) ((1 + d1)) ((upd ol1 d1 (nI (A i1 - 48)))) ((upd ot1 d1 (nI who1))) (1 + i1) (.int (nI 2)) _ _ _ _ (by omega) (hT3) (hIT1.reg hx3 g2 (by omega) (by omega)) (by decide) (fun q => absurd q (by decide)) (hgo1.trans (goT_go (i := i1) (by omega) (tS_reg q1_ q2_ hx3 (by omega) g2))) (HO_come hHO1 hwf1.2.2.2.1 hwho (by decide) q3_) (fun k hk => (come_far hwf1 (by omega) hwho (by decide) q3_ hk).trans (hfar1 k hk)) h88 hO hP (lv_sub hl [3, 4, 0, 1] rfl)
            · refine lv_aload_n X.1.1 X.1.2.1 dX4_tell_85 rfl (lv_at hl 3 rfl) ?_
              refine lv_iload X.1.1 X.1.2.1 dX4_tell_86 (lv_at hl 2 rfl) ?_
              refine lv_bipush (v := nI 48) X.1.1 X.1.2.1 dX4_tell_88 (by decide) ?_
              refine sx_subN X ((A i1 - 48)) (by omega) (by omega) dX4_tell_90 ?_
              refine lv_aload_n X.1.1 X.1.2.1 dX4_tell_91 rfl (lv_at hl 4 rfl) ?_
              have hx4 : A i1 - 48 < 4 := by rw [c82] at q3_; exact q3_
              obtain ⟨st, h2, hst2⟩ := WV.sts hW
              refine sx_cvI (As := [.int (nI ((A i1 - 48))), rf G 1]) (rest := []) X (mX4_tellThread l (d := d1) (x := A i1 - 48) (tw := nI who1) (by omega) hx4 h84 h89 h90 h1 h2) gX4_tell_X4_tellThread rfl yv_X4_tellThread ⟨Nat.le_of_ble_eq_true rfl, Nat.le_of_ble_eq_true rfl⟩ h84 (by decide) rfl rfl hl.1 rfl (Nat.le_of_ble_eq_true rfl) dX4_tell_92 ⟨Nat.le_of_ble_eq_true rfl, Nat.le_of_ble_eq_true rfl⟩ hs rfl hP (fun r27 F27 H27 l27 hp hP => ?_)
              obtain ⟨g1, hF, rfl⟩ | ⟨g1, e27, f27, g27, o27, rfl⟩ := hp
              · have hF := hF.symm
                subst hF
                refine lv_goto (tgt := 108) X.1.1 X.1.2.1 dX4_tell_95 (by decide) ?_
                refine lv_istore_n (lv' := [(2, .int (nI 4)), (3, .int (nI (1 + i1))), (4, .int (nI (A i1))), (0, rf G 84), (1, rf G 1)]) X.1.1 X.1.2.1 dX4_tell_108 rfl hl (by decide) rfl (fun ls hl => ?_)
                refine lv_goto (tgt := 148) X.1.1 X.1.2.1 dX4_tell_109 (by decide) ?_
                refine lv_goto (tgt := 24) X.1.1 X.1.2.1 dX4_tell_148 (by decide) ?_
                refine lv_iload_n X.1.1 X.1.2.1 dX4_tell_24 rfl (lv_at hl 1 rfl) ?_
                refine lv_aload_n X.1.1 X.1.2.1 dX4_tell_25 rfl (lv_at hl 3 rfl) ?_
                refine sx_get X hP in_X4_tell_X4 h84 (by decide) rfl 0 (by decide) lk_X4_tell_fieldLink_RX4_32_RaceWatch_Telling_length_I rfl dX4_tell_26 ?_
                refine sx_icmp_ge X (by omega) (by omega) (tgt := 151) dX4_tell_29 (by decide) (fun c29 => ?_) (fun c29 => ?_)
                · refine lv_aload_n X.1.1 X.1.2.1 dX4_tell_151 rfl (lv_at hl 3 rfl) ?_
                  refine lv_iload_n X.1.1 X.1.2.1 dX4_tell_152 rfl (lv_at hl 0 rfl) ?_
                  refine sx_if_ne X (by decide) (tgt := 160) dX4_tell_153 (by decide) (fun _ => ?_) (fun h => absurd h (by decide))
                  refine lv_iload_n X.1.1 X.1.2.1 dX4_tell_160 rfl (lv_at hl 1 rfl) ?_
                  refine lv_iconst (v := nI 1) X.1.1 X.1.2.1 dX4_tell_161 (by decide) ?_
                  refine sx_subN X (i1) (by omega) (by omega) dX4_tell_162 ?_
                  refine sx_put X hP in_X4_tell_X4 tyX4 tyX4_ok nmX4 h84 (by decide) rfl 1 (by decide) lk_X4_tell_fieldLink_RX4_9_RaceWatch_Telling_faultAt_I rfl rfl rfl (Nat.le_of_ble_eq_true rfl) dX4_tell_163 (fun F28 H28 l28 e28 o28 hP => ?_)
                  have h84 : F28 (84) = ob 4 ([.int (nI (len)), .int (nI (i1)), rf G 85, rf G 88, .int (nI 1), .int (nI (it1)), .int (nI (who1)), .int (nI (rgF ol1 d1)), .int (nI (d1)), rf G 89, rf G 90]) := e28
                  have h88 := (o28 (88) (by decide)).trans h88
                  have h85 := (o28 (85) (by decide)).trans h85
                  have h86 := (o28 (86) (by decide)).trans h86
                  have h87 := (o28 (87) (by decide)).trans h87
                  have h89 := (o28 (89) (by decide)).trans h89
                  have h90 := (o28 (90) (by decide)).trans h90
                  have h1 := (o28 (1) (by decide)).trans h1
                  have hO : ∀ j, j = 0 ∨ (27 < j ∧ j < 84) ∨ j = 88 ∨ 90 < j → F28 j = F j := fun j hj => (o28 j (by omega)).trans (hO j hj)
                  have hW := WV.upd hW (fun j a b => o28 j (by omega))
                  refine lv_iload_n X.1.1 X.1.2.1 dX4_tell_166 rfl (lv_at hl 0 rfl) ?_
                  refine sx_if_ne X (by decide) (tgt := 194) dX4_tell_167 (by decide) (fun _ => ?_) (fun h => absurd h (by decide))
                  refine lv_aload_n X.1.1 X.1.2.1 dX4_tell_194 rfl (lv_at hl 3 rfl) ?_
                  refine sx_get X hP in_X4_tell_X4 h84 (by decide) rfl 8 (by decide) lk_X4_tell_fieldLink_RX4_45_RaceWatch_Telling_depth_I rfl dX4_tell_195 ?_
                  refine lv_istore (lv' := [(4, .int (nI (d1))), (2, .int (nI 4)), (3, .int (nI (1 + i1))), (0, rf G 84), (1, rf G 1)]) X.1.1 X.1.2.1 dX4_tell_198 hl (by decide) rfl (fun ls hl => ?_)
                  exact l2 (d1) (w1) (n1) (en1) (jo1) (1) (it1) (who1) (d1) (ol1) (ot1) (.int (nI 1)) (.int (nI (it1))) (.int (nI (who1))) (4) (i1) ((nI (i1))) ((w1, n1, en1, jo1, 1, it1, who1, d1, ol1, ot1)) (i1) _ _ _ _ (rfl) (⟨h84, hW, ⟨_, _, h85, h86, h87, hBk⟩, _, _, h89, h90, hag⟩) (hIT1) (by omega) (hgo1.trans (goT_fault (i := i1) (by omega) (by rw [c82]; exact tS_turnN q1_ q2_ hx4 (fun q => g1 ((hst2 _ hx4).trans q))) (by decide))) (by decide) (by rw [if_neg (by decide)]) (rfl) (hHO1) (hfar1) hO hP (lv_sub hl [3, 4, 1, 0] rfl)
                · refine lv_iload_n X.1.1 X.1.2.1 dX4_tell_32 rfl (lv_at hl 0 rfl) ?_
                  refine sx_if_ne X (by decide) (tgt := 151) dX4_tell_33 (by decide) (fun _ => ?_) (fun h => absurd h (by decide))
                  refine lv_aload_n X.1.1 X.1.2.1 dX4_tell_151 rfl (lv_at hl 3 rfl) ?_
                  refine lv_iload_n X.1.1 X.1.2.1 dX4_tell_152 rfl (lv_at hl 0 rfl) ?_
                  refine sx_if_ne X (by decide) (tgt := 160) dX4_tell_153 (by decide) (fun _ => ?_) (fun h => absurd h (by decide))
                  refine lv_iload_n X.1.1 X.1.2.1 dX4_tell_160 rfl (lv_at hl 1 rfl) ?_
                  refine lv_iconst (v := nI 1) X.1.1 X.1.2.1 dX4_tell_161 (by decide) ?_
                  refine sx_subN X (i1) (by omega) (by omega) dX4_tell_162 ?_
                  refine sx_put X hP in_X4_tell_X4 tyX4 tyX4_ok nmX4 h84 (by decide) rfl 1 (by decide) lk_X4_tell_fieldLink_RX4_9_RaceWatch_Telling_faultAt_I rfl rfl rfl (Nat.le_of_ble_eq_true rfl) dX4_tell_163 (fun F29 H29 l29 e29 o29 hP => ?_)
                  have h84 : F29 (84) = ob 4 ([.int (nI (len)), .int (nI (i1)), rf G 85, rf G 88, .int (nI 1), .int (nI (it1)), .int (nI (who1)), .int (nI (rgF ol1 d1)), .int (nI (d1)), rf G 89, rf G 90]) := e29
                  have h88 := (o29 (88) (by decide)).trans h88
                  have h85 := (o29 (85) (by decide)).trans h85
                  have h86 := (o29 (86) (by decide)).trans h86
                  have h87 := (o29 (87) (by decide)).trans h87
                  have h89 := (o29 (89) (by decide)).trans h89
                  have h90 := (o29 (90) (by decide)).trans h90
                  have h1 := (o29 (1) (by decide)).trans h1
                  have hO : ∀ j, j = 0 ∨ (27 < j ∧ j < 84) ∨ j = 88 ∨ 90 < j → F29 j = F j := fun j hj => (o29 j (by omega)).trans (hO j hj)
                  have hW := WV.upd hW (fun j a b => o29 j (by omega))
                  refine lv_iload_n X.1.1 X.1.2.1 dX4_tell_166 rfl (lv_at hl 0 rfl) ?_
                  refine sx_if_ne X (by decide) (tgt := 194) dX4_tell_167 (by decide) (fun _ => ?_) (fun h => absurd h (by decide))
                  refine lv_aload_n X.1.1 X.1.2.1 dX4_tell_194 rfl (lv_at hl 3 rfl) ?_
                  refine sx_get X hP in_X4_tell_X4 h84 (by decide) rfl 8 (by decide) lk_X4_tell_fieldLink_RX4_45_RaceWatch_Telling_depth_I rfl dX4_tell_195 ?_
                  refine lv_istore (lv' := [(4, .int (nI (d1))), (2, .int (nI 4)), (3, .int (nI (1 + i1))), (0, rf G 84), (1, rf G 1)]) X.1.1 X.1.2.1 dX4_tell_198 hl (by decide) rfl (fun ls hl => ?_)
                  exact l2 (d1) (w1) (n1) (en1) (jo1) (1) (it1) (who1) (d1) (ol1) (ot1) (.int (nI 1)) (.int (nI (it1))) (.int (nI (who1))) (4) (i1) ((nI (i1))) ((w1, n1, en1, jo1, 1, it1, who1, d1, ol1, ot1)) (i1) _ _ _ _ (rfl) (⟨h84, hW, ⟨_, _, h85, h86, h87, hBk⟩, _, _, h89, h90, hag⟩) (hIT1) (by omega) (hgo1.trans (goT_fault (i := i1) (by omega) (by rw [c82]; exact tS_turnN q1_ q2_ hx4 (fun q => g1 ((hst2 _ hx4).trans q))) (by decide))) (by decide) (by rw [if_neg (by decide)]) (rfl) (hHO1) (hfar1) hO hP (lv_sub hl [3, 4, 1, 0] rfl)
              · have h88 := (o27 (88) (by decide)).trans h88
                have h84 : F27 (84) = ob 4 ([.int (nI (len)), q1, rf G 85, rf G 88, .int (nI 3), .int (nI (it1)), .int (nI ((A i1 - 48))), .int (nI (rgF ol1 d1)), .int (nI (1 + d1)), rf G 89, rf G 90]) := e27
                have h85 := (o27 (85) (by decide)).trans h85
                have h86 := (o27 (86) (by decide)).trans h86
                have h87 := (o27 (87) (by decide)).trans h87
                have h89 : F27 (89) = rI G (240) (upd lw d1 (-1)) := f27
                have h90 : F27 (90) = rI G (240) (upd tb d1 (nI who1)) := g27
                have h1 := (o27 (1) (by decide)).trans h1
                have hO : ∀ j, j = 0 ∨ (27 < j ∧ j < 84) ∨ j = 88 ∨ 90 < j → F27 j = F j := fun j hj => (o27 j (by omega)).trans (hO j hj)
                have hW := WV.upd hW (fun j a b => o27 j (by omega))
                have hrg2 : rgF (upd ol1 d1 (-1)) (1 + d1) = rgF ol1 d1 := by rw [rgF_no pk_us, rgF_upd]
                refine lv_goto (tgt := 108) X.1.1 X.1.2.1 dX4_tell_95 (by decide) ?_
                refine lv_istore_n (lv' := [(2, .int (nI 0)), (3, .int (nI (1 + i1))), (4, .int (nI (A i1))), (0, rf G 84), (1, rf G 1)]) X.1.1 X.1.2.1 dX4_tell_108 rfl hl (by decide) rfl (fun ls hl => ?_)
                refine lv_goto (tgt := 148) X.1.1 X.1.2.1 dX4_tell_109 (by decide) ?_
                refine lv_goto (tgt := 24) X.1.1 X.1.2.1 dX4_tell_148 (by decide) ?_
                exact ih_l1 (w1) (n1) (en1) (jo1) (3) (8) ((A i1 - 48)) ((1 + d1)) ((upd ol1 d1 (-1))) ((upd ot1 d1 (nI who1))) (1 + i1) (.int (nI it1)) _ _ _ _ (by omega) (⟨h84.trans (by rw [hrg2]), hW, ⟨_, _, h85, h86, h87, hBk⟩, _, _, h89, h90, fun j hj => by by_cases e : j = d1; (rw [e, pk_us, pk_us, pk_us, pk_us]; exact ⟨rfl, rfl⟩); (rw [pk_un e, pk_un e, pk_un e, pk_un e]; exact hag j (by omega))⟩) (hIT1.turn hx4 (by omega)) (by decide) (fun q => absurd q (by decide)) (hgo1.trans (goT_go (i := i1) (by omega) (by rw [c82]; exact tS_turn q1_ q2_ hx4 ((hst2 _ hx4).symm.trans g1)))) (hHO1) (hfar1) h88 hO hP (lv_sub hl [3, 4, 0, 1] rfl)
        · refine lv_aload_n X.1.1 X.1.2.1 dX4_tell_57 rfl (lv_at hl 2 rfl) ?_
          refine sx_get X hP in_X4_tell_X4 h84 (by decide) rfl 4 (by decide) lk_X4_tell_fieldLink_RX4_36_RaceWatch_Telling_due_I rfl dX4_tell_58 ?_
          refine lv_iconst (v := nI 1) X.1.1 X.1.2.1 dX4_tell_61 (by decide) ?_
          refine sx_icmp_ne X (by decide) (by decide) (tgt := 112) dX4_tell_62 (by decide) (fun _ => ?_) (fun h => absurd h (by decide))
          refine lv_aload_n X.1.1 X.1.2.1 dX4_tell_112 rfl (lv_at hl 2 rfl) ?_
          refine sx_get X hP in_X4_tell_X4 h84 (by decide) rfl 4 (by decide) lk_X4_tell_fieldLink_RX4_36_RaceWatch_Telling_due_I rfl dX4_tell_113 ?_
          refine sx_if_ne X (by decide) (tgt := 141) dX4_tell_116 (by decide) (fun _ => ?_) (fun h => absurd h (by decide))
          refine lv_aload_n X.1.1 X.1.2.1 dX4_tell_141 rfl (lv_at hl 2 rfl) ?_
          refine lv_iload X.1.1 X.1.2.1 dX4_tell_142 (lv_at hl 1 rfl) ?_
          refine sx_cvI (As := [.int (nI (A i1))]) (rest := []) X (mX4_tellSign_2 l (a := A i1) hA256 h84) gX4_tell_X4_tellSign rfl yv_X4_tellSign ⟨Nat.le_of_ble_eq_true rfl, Nat.le_of_ble_eq_true rfl⟩ h84 (by decide) rfl rfl hl.1 rfl (Nat.le_of_ble_eq_true rfl) dX4_tell_144 ⟨Nat.le_of_ble_eq_true rfl, Nat.le_of_ble_eq_true rfl⟩ hs rfl hP (fun r30 F30 H30 l30 hp hP => ?_)
          obtain ⟨e30, o30, ⟨g1, rfl⟩ | ⟨g1, rfl⟩⟩ := hp
          · have h84 : F30 (84) = ob 4 ([.int (nI (len)), q1, rf G 85, rf G 88, .int (nI 0), iv1, .int (nI (who1)), .int (nI (rgF ol1 d1)), .int (nI (d1)), rf G 89, rf G 90]) := e30
            have h88 := (o30 (88) (by decide)).trans h88
            have h85 := (o30 (85) (by decide)).trans h85
            have h86 := (o30 (86) (by decide)).trans h86
            have h87 := (o30 (87) (by decide)).trans h87
            have h89 := (o30 (89) (by decide)).trans h89
            have h90 := (o30 (90) (by decide)).trans h90
            have h1 := (o30 (1) (by decide)).trans h1
            have hO : ∀ j, j = 0 ∨ (27 < j ∧ j < 84) ∨ j = 88 ∨ 90 < j → F30 j = F j := fun j hj => (o30 j (by omega)).trans (hO j hj)
            have hW := WV.upd hW (fun j a b => o30 j (by omega))
            refine lv_istore_n (lv' := [(2, .int (nI 0)), (3, .int (nI (1 + i1))), (4, .int (nI (A i1))), (0, rf G 84), (1, rf G 1)]) X.1.1 X.1.2.1 dX4_tell_147 rfl hl (by decide) rfl (fun ls hl => ?_)
            refine lv_goto (tgt := 24) X.1.1 X.1.2.1 dX4_tell_148 (by decide) ?_
            exact ih_l1 (w1) (n1) (en1) (jo1) (0) (it1) (who1) (d1) (ol1) (ot1) (1 + i1) (iv1) _ _ _ _ (by omega) (⟨h84, hW, ⟨_, _, h85, h86, h87, hBk⟩, _, _, h89, h90, hag⟩) (hIT1.le (by omega)) (by decide) (fun q => absurd q (by decide)) (hgo1.trans (goT_go (i := i1) (by omega) (by rw [g1]; exact tS_semi))) (hHO1) (hfar1) h88 hO hP (lv_sub hl [3, 4, 0, 1] rfl)
          · have h84 : F30 (84) = ob 4 ([.int (nI (len)), q1, rf G 85, rf G 88, .int (nI 0), iv1, .int (nI (who1)), .int (nI (rgF ol1 d1)), .int (nI (d1)), rf G 89, rf G 90]) := e30
            have h88 := (o30 (88) (by decide)).trans h88
            have h85 := (o30 (85) (by decide)).trans h85
            have h86 := (o30 (86) (by decide)).trans h86
            have h87 := (o30 (87) (by decide)).trans h87
            have h89 := (o30 (89) (by decide)).trans h89
            have h90 := (o30 (90) (by decide)).trans h90
            have h1 := (o30 (1) (by decide)).trans h1
            have hO : ∀ j, j = 0 ∨ (27 < j ∧ j < 84) ∨ j = 88 ∨ 90 < j → F30 j = F j := fun j hj => (o30 j (by omega)).trans (hO j hj)
            have hW := WV.upd hW (fun j a b => o30 j (by omega))
            refine lv_istore_n (lv' := [(2, .int (nI 1)), (3, .int (nI (1 + i1))), (4, .int (nI (A i1))), (0, rf G 84), (1, rf G 1)]) X.1.1 X.1.2.1 dX4_tell_147 rfl hl (by decide) rfl (fun ls hl => ?_)
            refine lv_goto (tgt := 24) X.1.1 X.1.2.1 dX4_tell_148 (by decide) ?_
            refine lv_iload_n X.1.1 X.1.2.1 dX4_tell_24 rfl (lv_at hl 1 rfl) ?_
            refine lv_aload_n X.1.1 X.1.2.1 dX4_tell_25 rfl (lv_at hl 3 rfl) ?_
            refine sx_get X hP in_X4_tell_X4 h84 (by decide) rfl 0 (by decide) lk_X4_tell_fieldLink_RX4_32_RaceWatch_Telling_length_I rfl dX4_tell_26 ?_
            refine sx_icmp_ge X (by omega) (by omega) (tgt := 151) dX4_tell_29 (by decide) (fun c29 => ?_) (fun c29 => ?_)
            · refine lv_aload_n X.1.1 X.1.2.1 dX4_tell_151 rfl (lv_at hl 3 rfl) ?_
              refine lv_iload_n X.1.1 X.1.2.1 dX4_tell_152 rfl (lv_at hl 0 rfl) ?_
              refine sx_if_ne X (by decide) (tgt := 160) dX4_tell_153 (by decide) (fun _ => ?_) (fun h => absurd h (by decide))
              refine lv_iload_n X.1.1 X.1.2.1 dX4_tell_160 rfl (lv_at hl 1 rfl) ?_
              refine lv_iconst (v := nI 1) X.1.1 X.1.2.1 dX4_tell_161 (by decide) ?_
              refine sx_subN X (i1) (by omega) (by omega) dX4_tell_162 ?_
              refine sx_put X hP in_X4_tell_X4 tyX4 tyX4_ok nmX4 h84 (by decide) rfl 1 (by decide) lk_X4_tell_fieldLink_RX4_9_RaceWatch_Telling_faultAt_I rfl rfl rfl (Nat.le_of_ble_eq_true rfl) dX4_tell_163 (fun F31 H31 l31 e31 o31 hP => ?_)
              have h84 : F31 (84) = ob 4 ([.int (nI (len)), .int (nI (i1)), rf G 85, rf G 88, .int (nI 0), iv1, .int (nI (who1)), .int (nI (rgF ol1 d1)), .int (nI (d1)), rf G 89, rf G 90]) := e31
              have h88 := (o31 (88) (by decide)).trans h88
              have h85 := (o31 (85) (by decide)).trans h85
              have h86 := (o31 (86) (by decide)).trans h86
              have h87 := (o31 (87) (by decide)).trans h87
              have h89 := (o31 (89) (by decide)).trans h89
              have h90 := (o31 (90) (by decide)).trans h90
              have h1 := (o31 (1) (by decide)).trans h1
              have hO : ∀ j, j = 0 ∨ (27 < j ∧ j < 84) ∨ j = 88 ∨ 90 < j → F31 j = F j := fun j hj => (o31 j (by omega)).trans (hO j hj)
              have hW := WV.upd hW (fun j a b => o31 j (by omega))
              refine lv_iload_n X.1.1 X.1.2.1 dX4_tell_166 rfl (lv_at hl 0 rfl) ?_
              refine sx_if_ne X (by decide) (tgt := 194) dX4_tell_167 (by decide) (fun _ => ?_) (fun h => absurd h (by decide))
              refine lv_aload_n X.1.1 X.1.2.1 dX4_tell_194 rfl (lv_at hl 3 rfl) ?_
              refine sx_get X hP in_X4_tell_X4 h84 (by decide) rfl 8 (by decide) lk_X4_tell_fieldLink_RX4_45_RaceWatch_Telling_depth_I rfl dX4_tell_195 ?_
              refine lv_istore (lv' := [(4, .int (nI (d1))), (2, .int (nI 1)), (3, .int (nI (1 + i1))), (0, rf G 84), (1, rf G 1)]) X.1.1 X.1.2.1 dX4_tell_198 hl (by decide) rfl (fun ls hl => ?_)
              exact l2 (d1) (w1) (n1) (en1) (jo1) (2) (it1) (who1) (d1) (ol1) (ot1) (.int (nI 0)) (iv1) (.int (nI (who1))) (1) (i1) ((nI (i1))) ((w1, n1, en1, jo1, 2, it1, who1, d1, ol1, ot1)) (i1) _ _ _ _ (rfl) (⟨h84, hW, ⟨_, _, h85, h86, h87, hBk⟩, _, _, h89, h90, hag⟩) (hIT1) (by omega) (hgo1.trans (goT_fault (i := i1) (by omega) (tS_semiN c51 g1) (by decide))) (by decide) (by rw [if_neg (by decide)]) (rfl) (hHO1) (hfar1) hO hP (lv_sub hl [3, 4, 1, 0] rfl)
            · refine lv_iload_n X.1.1 X.1.2.1 dX4_tell_32 rfl (lv_at hl 0 rfl) ?_
              refine sx_if_ne X (by decide) (tgt := 151) dX4_tell_33 (by decide) (fun _ => ?_) (fun h => absurd h (by decide))
              refine lv_aload_n X.1.1 X.1.2.1 dX4_tell_151 rfl (lv_at hl 3 rfl) ?_
              refine lv_iload_n X.1.1 X.1.2.1 dX4_tell_152 rfl (lv_at hl 0 rfl) ?_
              refine sx_if_ne X (by decide) (tgt := 160) dX4_tell_153 (by decide) (fun _ => ?_) (fun h => absurd h (by decide))
              refine lv_iload_n X.1.1 X.1.2.1 dX4_tell_160 rfl (lv_at hl 1 rfl) ?_
              refine lv_iconst (v := nI 1) X.1.1 X.1.2.1 dX4_tell_161 (by decide) ?_
              refine sx_subN X (i1) (by omega) (by omega) dX4_tell_162 ?_
              refine sx_put X hP in_X4_tell_X4 tyX4 tyX4_ok nmX4 h84 (by decide) rfl 1 (by decide) lk_X4_tell_fieldLink_RX4_9_RaceWatch_Telling_faultAt_I rfl rfl rfl (Nat.le_of_ble_eq_true rfl) dX4_tell_163 (fun F32 H32 l32 e32 o32 hP => ?_)
              have h84 : F32 (84) = ob 4 ([.int (nI (len)), .int (nI (i1)), rf G 85, rf G 88, .int (nI 0), iv1, .int (nI (who1)), .int (nI (rgF ol1 d1)), .int (nI (d1)), rf G 89, rf G 90]) := e32
              have h88 := (o32 (88) (by decide)).trans h88
              have h85 := (o32 (85) (by decide)).trans h85
              have h86 := (o32 (86) (by decide)).trans h86
              have h87 := (o32 (87) (by decide)).trans h87
              have h89 := (o32 (89) (by decide)).trans h89
              have h90 := (o32 (90) (by decide)).trans h90
              have h1 := (o32 (1) (by decide)).trans h1
              have hO : ∀ j, j = 0 ∨ (27 < j ∧ j < 84) ∨ j = 88 ∨ 90 < j → F32 j = F j := fun j hj => (o32 j (by omega)).trans (hO j hj)
              have hW := WV.upd hW (fun j a b => o32 j (by omega))
              refine lv_iload_n X.1.1 X.1.2.1 dX4_tell_166 rfl (lv_at hl 0 rfl) ?_
              refine sx_if_ne X (by decide) (tgt := 194) dX4_tell_167 (by decide) (fun _ => ?_) (fun h => absurd h (by decide))
              refine lv_aload_n X.1.1 X.1.2.1 dX4_tell_194 rfl (lv_at hl 3 rfl) ?_
              refine sx_get X hP in_X4_tell_X4 h84 (by decide) rfl 8 (by decide) lk_X4_tell_fieldLink_RX4_45_RaceWatch_Telling_depth_I rfl dX4_tell_195 ?_
              refine lv_istore (lv' := [(4, .int (nI (d1))), (2, .int (nI 1)), (3, .int (nI (1 + i1))), (0, rf G 84), (1, rf G 1)]) X.1.1 X.1.2.1 dX4_tell_198 hl (by decide) rfl (fun ls hl => ?_)
              exact l2 (d1) (w1) (n1) (en1) (jo1) (2) (it1) (who1) (d1) (ol1) (ot1) (.int (nI 0)) (iv1) (.int (nI (who1))) (1) (i1) ((nI (i1))) ((w1, n1, en1, jo1, 2, it1, who1, d1, ol1, ot1)) (i1) _ _ _ _ (rfl) (⟨h84, hW, ⟨_, _, h85, h86, h87, hBk⟩, _, _, h89, h90, hag⟩) (hIT1) (by omega) (hgo1.trans (goT_fault (i := i1) (by omega) (tS_semiN c51 g1) (by decide))) (by decide) (by rw [if_neg (by decide)]) (rfl) (hHO1) (hfar1) hO hP (lv_sub hl [3, 4, 1, 0] rfl)
        · refine lv_aload_n X.1.1 X.1.2.1 dX4_tell_57 rfl (lv_at hl 2 rfl) ?_
          refine sx_get X hP in_X4_tell_X4 h84 (by decide) rfl 4 (by decide) lk_X4_tell_fieldLink_RX4_36_RaceWatch_Telling_due_I rfl dX4_tell_58 ?_
          refine lv_iconst (v := nI 1) X.1.1 X.1.2.1 dX4_tell_61 (by decide) ?_
          refine sx_icmp_ne X (by decide) (by decide) (tgt := 112) dX4_tell_62 (by decide) (fun _ => ?_) (fun h => absurd h (by decide))
          refine lv_aload_n X.1.1 X.1.2.1 dX4_tell_112 rfl (lv_at hl 2 rfl) ?_
          refine sx_get X hP in_X4_tell_X4 h84 (by decide) rfl 4 (by decide) lk_X4_tell_fieldLink_RX4_36_RaceWatch_Telling_due_I rfl dX4_tell_113 ?_
          refine sx_if_ne X (by decide) (tgt := 141) dX4_tell_116 (by decide) (fun _ => ?_) (fun h => absurd h (by decide))
          refine lv_aload_n X.1.1 X.1.2.1 dX4_tell_141 rfl (lv_at hl 2 rfl) ?_
          refine lv_iload X.1.1 X.1.2.1 dX4_tell_142 (lv_at hl 1 rfl) ?_
          refine sx_cvI (As := [.int (nI (A i1))]) (rest := []) X (mX4_tellSign_3 l (a := A i1) hA256 h84) gX4_tell_X4_tellSign rfl yv_X4_tellSign ⟨Nat.le_of_ble_eq_true rfl, Nat.le_of_ble_eq_true rfl⟩ h84 (by decide) rfl rfl hl.1 rfl (Nat.le_of_ble_eq_true rfl) dX4_tell_144 ⟨Nat.le_of_ble_eq_true rfl, Nat.le_of_ble_eq_true rfl⟩ hs rfl hP (fun r33 F33 H33 l33 hp hP => ?_)
          obtain ⟨e33, o33, ⟨g1, rfl⟩ | ⟨g1, rfl⟩⟩ := hp
          · have h84 : F33 (84) = ob 4 ([.int (nI (len)), q1, rf G 85, rf G 88, .int (nI 0), iv1, .int (nI (who1)), .int (nI (rgF ol1 d1)), .int (nI (d1)), rf G 89, rf G 90]) := e33
            have h88 := (o33 (88) (by decide)).trans h88
            have h85 := (o33 (85) (by decide)).trans h85
            have h86 := (o33 (86) (by decide)).trans h86
            have h87 := (o33 (87) (by decide)).trans h87
            have h89 := (o33 (89) (by decide)).trans h89
            have h90 := (o33 (90) (by decide)).trans h90
            have h1 := (o33 (1) (by decide)).trans h1
            have hO : ∀ j, j = 0 ∨ (27 < j ∧ j < 84) ∨ j = 88 ∨ 90 < j → F33 j = F j := fun j hj => (o33 j (by omega)).trans (hO j hj)
            have hW := WV.upd hW (fun j a b => o33 j (by omega))
            refine lv_istore_n (lv' := [(2, .int (nI 0)), (3, .int (nI (1 + i1))), (4, .int (nI (A i1))), (0, rf G 84), (1, rf G 1)]) X.1.1 X.1.2.1 dX4_tell_147 rfl hl (by decide) rfl (fun ls hl => ?_)
            refine lv_goto (tgt := 24) X.1.1 X.1.2.1 dX4_tell_148 (by decide) ?_
            exact ih_l1 (w1) (n1) (en1) (jo1) (0) (it1) (who1) (d1) (ol1) (ot1) (1 + i1) (iv1) _ _ _ _ (by omega) (⟨h84, hW, ⟨_, _, h85, h86, h87, hBk⟩, _, _, h89, h90, hag⟩) (hIT1.le (by omega)) (by decide) (fun q => absurd q (by decide)) (hgo1.trans (goT_go (i := i1) (by omega) (by rw [g1]; exact tS_brk))) (hHO1) (hfar1) h88 hO hP (lv_sub hl [3, 4, 0, 1] rfl)
          · have h84 : F33 (84) = ob 4 ([.int (nI (len)), q1, rf G 85, rf G 88, .int (nI 0), iv1, .int (nI (who1)), .int (nI (rgF ol1 d1)), .int (nI (d1)), rf G 89, rf G 90]) := e33
            have h88 := (o33 (88) (by decide)).trans h88
            have h85 := (o33 (85) (by decide)).trans h85
            have h86 := (o33 (86) (by decide)).trans h86
            have h87 := (o33 (87) (by decide)).trans h87
            have h89 := (o33 (89) (by decide)).trans h89
            have h90 := (o33 (90) (by decide)).trans h90
            have h1 := (o33 (1) (by decide)).trans h1
            have hO : ∀ j, j = 0 ∨ (27 < j ∧ j < 84) ∨ j = 88 ∨ 90 < j → F33 j = F j := fun j hj => (o33 j (by omega)).trans (hO j hj)
            have hW := WV.upd hW (fun j a b => o33 j (by omega))
            refine lv_istore_n (lv' := [(2, .int (nI 1)), (3, .int (nI (1 + i1))), (4, .int (nI (A i1))), (0, rf G 84), (1, rf G 1)]) X.1.1 X.1.2.1 dX4_tell_147 rfl hl (by decide) rfl (fun ls hl => ?_)
            refine lv_goto (tgt := 24) X.1.1 X.1.2.1 dX4_tell_148 (by decide) ?_
            refine lv_iload_n X.1.1 X.1.2.1 dX4_tell_24 rfl (lv_at hl 1 rfl) ?_
            refine lv_aload_n X.1.1 X.1.2.1 dX4_tell_25 rfl (lv_at hl 3 rfl) ?_
            refine sx_get X hP in_X4_tell_X4 h84 (by decide) rfl 0 (by decide) lk_X4_tell_fieldLink_RX4_32_RaceWatch_Telling_length_I rfl dX4_tell_26 ?_
            refine sx_icmp_ge X (by omega) (by omega) (tgt := 151) dX4_tell_29 (by decide) (fun c29 => ?_) (fun c29 => ?_)
            · refine lv_aload_n X.1.1 X.1.2.1 dX4_tell_151 rfl (lv_at hl 3 rfl) ?_
              refine lv_iload_n X.1.1 X.1.2.1 dX4_tell_152 rfl (lv_at hl 0 rfl) ?_
              refine sx_if_ne X (by decide) (tgt := 160) dX4_tell_153 (by decide) (fun _ => ?_) (fun h => absurd h (by decide))
              refine lv_iload_n X.1.1 X.1.2.1 dX4_tell_160 rfl (lv_at hl 1 rfl) ?_
              refine lv_iconst (v := nI 1) X.1.1 X.1.2.1 dX4_tell_161 (by decide) ?_
              refine sx_subN X (i1) (by omega) (by omega) dX4_tell_162 ?_
              refine sx_put X hP in_X4_tell_X4 tyX4 tyX4_ok nmX4 h84 (by decide) rfl 1 (by decide) lk_X4_tell_fieldLink_RX4_9_RaceWatch_Telling_faultAt_I rfl rfl rfl (Nat.le_of_ble_eq_true rfl) dX4_tell_163 (fun F34 H34 l34 e34 o34 hP => ?_)
              have h84 : F34 (84) = ob 4 ([.int (nI (len)), .int (nI (i1)), rf G 85, rf G 88, .int (nI 0), iv1, .int (nI (who1)), .int (nI (rgF ol1 d1)), .int (nI (d1)), rf G 89, rf G 90]) := e34
              have h88 := (o34 (88) (by decide)).trans h88
              have h85 := (o34 (85) (by decide)).trans h85
              have h86 := (o34 (86) (by decide)).trans h86
              have h87 := (o34 (87) (by decide)).trans h87
              have h89 := (o34 (89) (by decide)).trans h89
              have h90 := (o34 (90) (by decide)).trans h90
              have h1 := (o34 (1) (by decide)).trans h1
              have hO : ∀ j, j = 0 ∨ (27 < j ∧ j < 84) ∨ j = 88 ∨ 90 < j → F34 j = F j := fun j hj => (o34 j (by omega)).trans (hO j hj)
              have hW := WV.upd hW (fun j a b => o34 j (by omega))
              refine lv_iload_n X.1.1 X.1.2.1 dX4_tell_166 rfl (lv_at hl 0 rfl) ?_
              refine sx_if_ne X (by decide) (tgt := 194) dX4_tell_167 (by decide) (fun _ => ?_) (fun h => absurd h (by decide))
              refine lv_aload_n X.1.1 X.1.2.1 dX4_tell_194 rfl (lv_at hl 3 rfl) ?_
              refine sx_get X hP in_X4_tell_X4 h84 (by decide) rfl 8 (by decide) lk_X4_tell_fieldLink_RX4_45_RaceWatch_Telling_depth_I rfl dX4_tell_195 ?_
              refine lv_istore (lv' := [(4, .int (nI (d1))), (2, .int (nI 1)), (3, .int (nI (1 + i1))), (0, rf G 84), (1, rf G 1)]) X.1.1 X.1.2.1 dX4_tell_198 hl (by decide) rfl (fun ls hl => ?_)
              exact l2 (d1) (w1) (n1) (en1) (jo1) (3) (it1) (who1) (d1) (ol1) (ot1) (.int (nI 0)) (iv1) (.int (nI (who1))) (1) (i1) ((nI (i1))) ((w1, n1, en1, jo1, 3, it1, who1, d1, ol1, ot1)) (i1) _ _ _ _ (rfl) (⟨h84, hW, ⟨_, _, h85, h86, h87, hBk⟩, _, _, h89, h90, hag⟩) (hIT1) (by omega) (hgo1.trans (goT_fault (i := i1) (by omega) (tS_brkN c51 g1) (by decide))) (by decide) (by rw [if_neg (by decide)]) (rfl) (hHO1) (hfar1) hO hP (lv_sub hl [3, 4, 1, 0] rfl)
            · refine lv_iload_n X.1.1 X.1.2.1 dX4_tell_32 rfl (lv_at hl 0 rfl) ?_
              refine sx_if_ne X (by decide) (tgt := 151) dX4_tell_33 (by decide) (fun _ => ?_) (fun h => absurd h (by decide))
              refine lv_aload_n X.1.1 X.1.2.1 dX4_tell_151 rfl (lv_at hl 3 rfl) ?_
              refine lv_iload_n X.1.1 X.1.2.1 dX4_tell_152 rfl (lv_at hl 0 rfl) ?_
              refine sx_if_ne X (by decide) (tgt := 160) dX4_tell_153 (by decide) (fun _ => ?_) (fun h => absurd h (by decide))
              refine lv_iload_n X.1.1 X.1.2.1 dX4_tell_160 rfl (lv_at hl 1 rfl) ?_
              refine lv_iconst (v := nI 1) X.1.1 X.1.2.1 dX4_tell_161 (by decide) ?_
              refine sx_subN X (i1) (by omega) (by omega) dX4_tell_162 ?_
              refine sx_put X hP in_X4_tell_X4 tyX4 tyX4_ok nmX4 h84 (by decide) rfl 1 (by decide) lk_X4_tell_fieldLink_RX4_9_RaceWatch_Telling_faultAt_I rfl rfl rfl (Nat.le_of_ble_eq_true rfl) dX4_tell_163 (fun F35 H35 l35 e35 o35 hP => ?_)
              have h84 : F35 (84) = ob 4 ([.int (nI (len)), .int (nI (i1)), rf G 85, rf G 88, .int (nI 0), iv1, .int (nI (who1)), .int (nI (rgF ol1 d1)), .int (nI (d1)), rf G 89, rf G 90]) := e35
              have h88 := (o35 (88) (by decide)).trans h88
              have h85 := (o35 (85) (by decide)).trans h85
              have h86 := (o35 (86) (by decide)).trans h86
              have h87 := (o35 (87) (by decide)).trans h87
              have h89 := (o35 (89) (by decide)).trans h89
              have h90 := (o35 (90) (by decide)).trans h90
              have h1 := (o35 (1) (by decide)).trans h1
              have hO : ∀ j, j = 0 ∨ (27 < j ∧ j < 84) ∨ j = 88 ∨ 90 < j → F35 j = F j := fun j hj => (o35 j (by omega)).trans (hO j hj)
              have hW := WV.upd hW (fun j a b => o35 j (by omega))
              refine lv_iload_n X.1.1 X.1.2.1 dX4_tell_166 rfl (lv_at hl 0 rfl) ?_
              refine sx_if_ne X (by decide) (tgt := 194) dX4_tell_167 (by decide) (fun _ => ?_) (fun h => absurd h (by decide))
              refine lv_aload_n X.1.1 X.1.2.1 dX4_tell_194 rfl (lv_at hl 3 rfl) ?_
              refine sx_get X hP in_X4_tell_X4 h84 (by decide) rfl 8 (by decide) lk_X4_tell_fieldLink_RX4_45_RaceWatch_Telling_depth_I rfl dX4_tell_195 ?_
              refine lv_istore (lv' := [(4, .int (nI (d1))), (2, .int (nI 1)), (3, .int (nI (1 + i1))), (0, rf G 84), (1, rf G 1)]) X.1.1 X.1.2.1 dX4_tell_198 hl (by decide) rfl (fun ls hl => ?_)
              exact l2 (d1) (w1) (n1) (en1) (jo1) (3) (it1) (who1) (d1) (ol1) (ot1) (.int (nI 0)) (iv1) (.int (nI (who1))) (1) (i1) ((nI (i1))) ((w1, n1, en1, jo1, 3, it1, who1, d1, ol1, ot1)) (i1) _ _ _ _ (rfl) (⟨h84, hW, ⟨_, _, h85, h86, h87, hBk⟩, _, _, h89, h90, hag⟩) (hIT1) (by omega) (hgo1.trans (goT_fault (i := i1) (by omega) (tS_brkN c51 g1) (by decide))) (by decide) (by rw [if_neg (by decide)]) (rfl) (hHO1) (hfar1) hO hP (lv_sub hl [3, 4, 1, 0] rfl)
      · refine lv_goto (tgt := 24) X.1.1 X.1.2.1 dX4_tell_54 (by decide) ?_
        exact ih_l1 (w1) (n1) (en1) (jo1) (due1) (it1) (who1) (d1) (ol1) (ot1) (1 + i1) (iv1) _ _ _ _ (by omega) (⟨h84, hW, ⟨_, _, h85, h86, h87, hBk⟩, _, _, h89, h90, hag⟩) (hIT1.le (by omega)) (hdue) (hiv) (hgo1.trans (goT_go (i := i1) (by omega) (by rw [c51]; exact tS_blank))) (hHO1) (hfar1) h88 hO hP (lv_sub hl [2, 3, 4, 0] rfl)
  exact l1 (len) (w) (n) (en) (jo) (0) (0) (0) (0) (ol) (ot) (0) (iv) _ _ _ _ (by omega) (⟨h84, hW, ⟨_, _, h85, h86, h87, hBk⟩, _, _, h89, h90, fun j hj => absurd hj (by omega)⟩) (⟨hwf, hwf.2.1, by omega, by decide, hen, hjo, fun j hj => absurd hj (by omega), ⟨fun j hj => absurd hj (by omega), fun hj => absurd hj (by omega)⟩, hA⟩) (by decide) (fun q => absurd q (by decide)) (rfl) (hHO) (fun _ _ => rfl) h88 hO hP (lv_sub hl [2, 3, 1, 0] rfl)
theorem ys_X6_run : yX6_run.cls ≠ "java/lang/invoke/MethodHandle" ∧ yX6_run.cls ≠ "java/lang/invoke/VarHandle" ∧ (parseMethodDescriptor yX6_run.desc).map (fun d => d.parameters.length) = some 0 := by decide +kernel
theorem yv_X6_run : yX6_run.cls = RX6 ∧ yX6_run.cls ≠ "java/lang/invoke/MethodHandle" ∧ yX6_run.cls ≠ "java/lang/invoke/VarHandle" ∧ (parseMethodDescriptor yX6_run.desc).map (fun d => d.parameters.length) = some 0 := ⟨rfl, ys_X6_run⟩
theorem in_X6_run_X6 : ∀ w ∈ wsX60, w ∈ wsX6_run := fun _ h => List.mem_cons_of_mem _ (List.mem_append_left _ (List.mem_append_left _ (List.mem_append_left _ (List.mem_append_left _ (List.mem_append_left _ (List.mem_append_left _ (List.mem_append_right _ (h))))))))
theorem lk_X6_run_fieldLink_RX6_10_RaceWatch_world_LRaceWatch_World : (.fieldLink RX6 10 "RaceWatch" "world" "LRaceWatch$World;" : Cond) ∈ wsX6_run := List.mem_cons_of_mem _ (List.mem_append_left _ (List.mem_append_left _ (List.mem_append_left _ (List.mem_append_left _ (List.mem_append_left _ (List.mem_append_left _ (List.mem_append_left _ (List.mem_append_left _ (List.mem_of_getElem? (i := 0) rfl)))))))))
theorem in_X6_run_X5 : ∀ w ∈ wsX50, w ∈ wsX6_run := fun _ h => List.mem_cons_of_mem _ (List.mem_append_left _ (List.mem_append_left _ (List.mem_append_left _ (List.mem_append_left _ (List.mem_append_left _ (List.mem_append_right _ (h)))))))
theorem lk_X6_run_fieldLink_RX6_31_RaceWatch_World_log_LRaceWatch_Log : (.fieldLink RX6 31 "RaceWatch$World" "log" "LRaceWatch$Log;" : Cond) ∈ wsX6_run := List.mem_cons_of_mem _ (List.mem_append_left _ (List.mem_append_left _ (List.mem_append_left _ (List.mem_append_left _ (List.mem_append_left _ (List.mem_append_left _ (List.mem_append_left _ (List.mem_append_left _ (List.mem_of_getElem? (i := 1) rfl)))))))))
theorem in_X6_run_X3 : ∀ w ∈ wsX30, w ∈ wsX6_run := fun _ h => List.mem_cons_of_mem _ (List.mem_append_left _ (List.mem_append_left _ (List.mem_append_left _ (List.mem_append_left _ (List.mem_append_right _ (h))))))
theorem lk_X6_run_fieldLink_RX6_35_RaceWatch_Log_count_I : (.fieldLink RX6 35 "RaceWatch$Log" "count" "I" : Cond) ∈ wsX6_run := List.mem_cons_of_mem _ (List.mem_append_left _ (List.mem_append_left _ (List.mem_append_left _ (List.mem_append_left _ (List.mem_append_left _ (List.mem_append_left _ (List.mem_append_left _ (List.mem_append_left _ (List.mem_of_getElem? (i := 2) rfl)))))))))
theorem lk_X6_run_fieldLink_RX6_27_RaceWatch_telling_LRaceWatch_Telling : (.fieldLink RX6 27 "RaceWatch" "telling" "LRaceWatch$Telling;" : Cond) ∈ wsX6_run := List.mem_cons_of_mem _ (List.mem_append_left _ (List.mem_append_left _ (List.mem_append_left _ (List.mem_append_left _ (List.mem_append_left _ (List.mem_append_left _ (List.mem_append_left _ (List.mem_append_left _ (List.mem_of_getElem? (i := 3) rfl)))))))))
abbrev rmX6_run : Room := { frames := 7, cells := 0, slots := 0, locals := 181 }
set_option maxHeartbeats 800000 in
set_option maxRecDepth 100000 in
theorem mX6_run {G : sx_G} (l : Launch) {F : Nat → va_E} {q1 dv iv wv rv pv : Value} {w jo ol ot jl jp lt lw tb : Nat → Int32} {A : Nat → Nat} {len n en : Nat}  (hW : WV G F w n 1) (hwf : WFw w n) (hA : LT A len w) (hlt : ∀ j, j < len → lt j = nI (A j)) (hen : en ≤ 24) (hjo : ∀ j, j < en → ∃ v, v < 6 ∧ jo j = nI v) (hBk : BkV en jo jl jp) (hHO : HO w) (h0 : F (0) = ob 6 ([rf G 1, rf G 28, rf G 83, rf G 84])) (h84 : F (84) = ob 4 ([.int (nI (len)), q1, rf G 85, rf G 88, dv, iv, wv, rv, pv, rf G 89, rf G 90])) (h85 : F (85) = ob 0 ([.int (nI (en)), rf G 86, rf G 87])) (h86 : F (86) = rI G (24) (jl)) (h87 : F (87) = rI G (24) (jp)) (h88 : F (88) = rI G (240) (lt)) (h89 : F (89) = rI G (240) (lw)) (h90 : F (90) = rI G (240) (tb)) : sx_I G l yX6_run wsX6_run rmX6_run [rf G 0] (97) F (97) (fun r F1 => ∃ (f pos : Nat) (Tf : TT), goT A len (len - 0) (w, n, en, jo, 0, 0, 0, 0, ol, ot) = (f, pos, Tf) ∧ (∃ dv iv wv i, TP G F1 (.int (nI 0)) (.int (if f = 0 then -1 else nI pos)) dv iv wv (shA Tf.2.2.2.2.2.2.2.1 Tf) ∧ i ≤ len ∧ IT A len i (shA Tf.2.2.2.2.2.2.2.1 Tf)) ∧ (HO (shA Tf.2.2.2.2.2.2.2.1 Tf).1 ∧ ∀ k, 1372 ≤ k → (shA Tf.2.2.2.2.2.2.2.1 Tf).1 k = w k) ∧ (if f = 0 then nI (shA Tf.2.2.2.2.2.2.2.1 Tf).2.1 - nI n else -10 - nI f) = r ∧ ∀ j, j = 0 ∨ (27 < j ∧ j < 84) ∨ j = 88 ∨ 90 < j → F1 j = F j) := by
  refine sx_enter (cc := cX6_run) (maxL := 3) (ret := some .int) (own := RX6) (nm := "run") (by decide) rfl rfl rfl (Nat.le_of_ble_eq_true rfl) ?_
  intro pp ee ss mm args below meth kc ls Q hQ X hs hP hl
  have hl : lv_has ls 3 [(0, rf G 0)] := hl
  have hO : ∀ j, j = 0 ∨ (27 < j ∧ j < 84) ∨ j = 88 ∨ 90 < j → F j = F j := fun _ _ => rfl
  have h1 := WV.obj hW
  have h19 := WV.log hW
  refine lv_aload_n X.1.1 X.1.2.1 dX6_run_0 rfl (lv_at hl 0 rfl) ?_
  refine sx_get X hP in_X6_run_X6 h0 (by decide) rfl 0 (by decide) lk_X6_run_fieldLink_RX6_10_RaceWatch_world_LRaceWatch_World rfl dX6_run_1 ?_
  refine sx_get X hP in_X6_run_X5 h1 (by decide) rfl 6 (by decide) lk_X6_run_fieldLink_RX6_31_RaceWatch_World_log_LRaceWatch_Log rfl dX6_run_4 ?_
  refine sx_get X hP in_X6_run_X3 h19 (by decide) rfl 0 (by decide) lk_X6_run_fieldLink_RX6_35_RaceWatch_Log_count_I rfl dX6_run_7 ?_
  refine lv_istore_n (lv' := [(1, .int (nI (n))), (0, rf G 0)]) X.1.1 X.1.2.1 dX6_run_10 rfl hl (by decide) rfl (fun ls hl => ?_)
  refine lv_aload_n X.1.1 X.1.2.1 dX6_run_11 rfl (lv_at hl 1 rfl) ?_
  refine sx_get X hP in_X6_run_X6 h0 (by decide) rfl 3 (by decide) lk_X6_run_fieldLink_RX6_27_RaceWatch_telling_LRaceWatch_Telling rfl dX6_run_12 ?_
  refine lv_aload_n X.1.1 X.1.2.1 dX6_run_15 rfl (lv_at hl 1 rfl) ?_
  refine sx_get X hP in_X6_run_X6 h0 (by decide) rfl 0 (by decide) lk_X6_run_fieldLink_RX6_10_RaceWatch_world_LRaceWatch_World rfl dX6_run_16 ?_
  refine sx_cvI (As := [rf G 1]) (rest := []) X (mX4_tell l (A := A) (len := len) (ol := ol) (ot := ot) hW hwf hA hlt hen hjo hBk hHO h84 h85 h86 h87 h88 h89 h90) gX6_run_X4_tell rfl yv_X4_tell ⟨Nat.le_of_ble_eq_true rfl, Nat.le_of_ble_eq_true rfl⟩ h84 (by decide) rfl rfl hl.1 rfl (Nat.le_of_ble_eq_true rfl) dX6_run_19 ⟨Nat.le_of_ble_eq_true rfl, Nat.le_of_ble_eq_true rfl⟩ hs rfl hP (fun r1 F1 H1 l1 hp hP => ?_)
  obtain ⟨f, pos, Tf, hgo, hf4, ⟨dv2, iv2, wv2, hT2⟩, ⟨i2, hi2, hIT2⟩, ⟨hHO2, hfar2⟩, o1, rfl⟩ := hp
  generalize hS : (shA Tf.2.2.2.2.2.2.2.1 Tf) = S2 at hT2 hIT2 hHO2 hfar2
  obtain ⟨w2, n2, en2, jo2, due2, it2, who2, d2, ol2, ot2⟩ := S2
  have hW2 := hT2.2.1
  have h0 := (o1 0 (by omega)).trans h0
  have h1 := WV.obj hW2
  have h19 := WV.log hW2
  have hO : ∀ j, j = 0 ∨ (27 < j ∧ j < 84) ∨ j = 88 ∨ 90 < j → F1 j = F j := fun j hj => (o1 j hj).trans (hO j hj)
  refine lv_istore_n (lv' := [(2, .int (nI (f))), (1, .int (nI (n))), (0, rf G 0)]) X.1.1 X.1.2.1 dX6_run_22 rfl hl (by decide) rfl (fun ls hl => ?_)
  refine lv_iload_n X.1.1 X.1.2.1 dX6_run_23 rfl (lv_at hl 0 rfl) ?_
  refine sx_if_ne X (by omega) (tgt := 42) dX6_run_24 (by decide) (fun c24 => ?_) (fun c24 => ?_)
  · refine lv_bipush (v := (-10)) X.1.1 X.1.2.1 dX6_run_42 (by decide) ?_
    refine lv_iload_n X.1.1 X.1.2.1 dX6_run_44 rfl (lv_at hl 0 rfl) ?_
    refine lv_isub X.1.1 X.1.2.1 dX6_run_45 ?_
    rw [hQ]
    exact sx_iret X rfl hs rfl hP dX6_run_46 (⟨f, pos, Tf, hgo, ⟨dv2, iv2, wv2, i2, by rw [hS]; exact hT2, hi2, by rw [hS]; exact hIT2⟩, ⟨by rw [hS]; exact hHO2, by rw [hS]; exact hfar2⟩, by rw [hS]; exact if_neg c24, hO⟩)
  · refine lv_aload_n X.1.1 X.1.2.1 dX6_run_27 rfl (lv_at hl 2 rfl) ?_
    refine sx_get X hP in_X6_run_X6 h0 (by decide) rfl 0 (by decide) lk_X6_run_fieldLink_RX6_10_RaceWatch_world_LRaceWatch_World rfl dX6_run_28 ?_
    refine sx_get X hP in_X6_run_X5 h1 (by decide) rfl 6 (by decide) lk_X6_run_fieldLink_RX6_31_RaceWatch_World_log_LRaceWatch_Log rfl dX6_run_31 ?_
    refine sx_get X hP in_X6_run_X3 h19 (by decide) rfl 0 (by decide) lk_X6_run_fieldLink_RX6_35_RaceWatch_Log_count_I rfl dX6_run_34 ?_
    refine lv_iload_n X.1.1 X.1.2.1 dX6_run_37 rfl (lv_at hl 1 rfl) ?_
    refine lv_isub X.1.1 X.1.2.1 dX6_run_38 ?_
    refine lv_goto (tgt := 46) X.1.1 X.1.2.1 dX6_run_39 (by decide) ?_
    rw [hQ]
    exact sx_iret X rfl hs rfl hP dX6_run_46 (⟨f, pos, Tf, hgo, ⟨dv2, iv2, wv2, i2, by rw [hS]; exact hT2, hi2, by rw [hS]; exact hIT2⟩, ⟨by rw [hS]; exact hHO2, by rw [hS]; exact hfar2⟩, by rw [hS]; exact if_pos c24, hO⟩)
