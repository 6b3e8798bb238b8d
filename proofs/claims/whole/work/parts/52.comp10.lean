theorem ys_X6_isIn : yX6_isIn.cls ≠ "java/lang/invoke/MethodHandle" ∧ yX6_isIn.cls ≠ "java/lang/invoke/VarHandle" ∧ (parseMethodDescriptor yX6_isIn.desc).map (fun d => d.parameters.length) = some 2 := by decide +kernel
theorem yv_X6_isIn : yX6_isIn.cls = RX6 ∧ yX6_isIn.cls ≠ "java/lang/invoke/MethodHandle" ∧ yX6_isIn.cls ≠ "java/lang/invoke/VarHandle" ∧ (parseMethodDescriptor yX6_isIn.desc).map (fun d => d.parameters.length) = some 2 := ⟨rfl, ys_X6_isIn⟩
abbrev rmX6_isIn : Room := { frames := 0, cells := 0, slots := 0, locals := 0 }
set_option maxHeartbeats 800000 in
set_option maxRecDepth 100000 in
theorem mX6_isIn {G : sx_G} (l : Launch) {F : Nat → va_E} {n k : Nat} {x : Int32}  (hk : k < 2 ^ 31) : sx_I G l yX6_isIn wsX6_isIn rmX6_isIn [.int (x), .int (nI (k))] (n) F (n) (fun r F1 => F = F1 ∧ ((inR x k) ∧ nI 1 = r ∨ ¬ (inR x k) ∧ nI 0 = r)) := by
  refine sx_enter (cc := cX6_isIn) (maxL := 2) (ret := some .boolean) (own := RX6) (nm := "isIn") (by decide) rfl rfl rfl (Nat.le_of_ble_eq_true rfl) ?_
  intro pp ee ss mm args below meth kc ls Q hQ X hs hP hl
  have hl : lv_has ls 2 [(0, .int (x)), (1, .int (nI (k)))] := hl
  refine lv_iload_n X.1.1 X.1.2.1 dX6_isIn_0 rfl (lv_at hl 0 rfl) ?_
  refine lv_if_lt X.1.1 X.1.2.1 (tgt := 13) dX6_isIn_1 (by decide) (fun c1 => ?_) (fun c1 => ?_)
  · refine lv_iconst (v := nI 0) X.1.1 X.1.2.1 dX6_isIn_13 (by decide) ?_
    rw [hQ]
    exact sx_zret X rfl (by decide) hs rfl hP dX6_isIn_14 (⟨rfl, Or.inr ⟨fun q => ((isin_iff hk).mp q).1 c1, rfl⟩⟩)
  · refine lv_iload_n X.1.1 X.1.2.1 dX6_isIn_4 rfl (lv_at hl 0 rfl) ?_
    refine lv_iload_n X.1.1 X.1.2.1 dX6_isIn_5 rfl (lv_at hl 1 rfl) ?_
    refine lv_icmp_ge X.1.1 X.1.2.1 (tgt := 13) dX6_isIn_6 (by decide) (fun c6 => ?_) (fun c6 => ?_)
    · refine lv_iconst (v := nI 0) X.1.1 X.1.2.1 dX6_isIn_13 (by decide) ?_
      rw [hQ]
      exact sx_zret X rfl (by decide) hs rfl hP dX6_isIn_14 (⟨rfl, Or.inr ⟨fun q => ((isin_iff hk).mp q).2 c6, rfl⟩⟩)
    · refine lv_iconst (v := nI 1) X.1.1 X.1.2.1 dX6_isIn_9 (by decide) ?_
      refine lv_goto (tgt := 14) X.1.1 X.1.2.1 dX6_isIn_10 (by decide) ?_
      rw [hQ]
      exact sx_zret X rfl (by decide) hs rfl hP dX6_isIn_14 (⟨rfl, Or.inl ⟨(isin_iff hk).mpr ⟨c1, c6⟩, rfl⟩⟩)
theorem ys_X6_isItself : yX6_isItself.cls ≠ "java/lang/invoke/MethodHandle" ∧ yX6_isItself.cls ≠ "java/lang/invoke/VarHandle" ∧ (parseMethodDescriptor yX6_isItself.desc).map (fun d => d.parameters.length) = some 3 := by decide +kernel
theorem yv_X6_isItself : yX6_isItself.cls = RX6 ∧ yX6_isItself.cls ≠ "java/lang/invoke/MethodHandle" ∧ yX6_isItself.cls ≠ "java/lang/invoke/VarHandle" ∧ (parseMethodDescriptor yX6_isItself.desc).map (fun d => d.parameters.length) = some 3 := ⟨rfl, ys_X6_isItself⟩
abbrev rmX6_isItself : Room := { frames := 0, cells := 0, slots := 0, locals := 0 }
set_option maxHeartbeats 800000 in
set_option maxRecDepth 100000 in
theorem mX6_isItself {G : sx_G} (l : Launch) {F : Nat → va_E} {n t s x : Nat}  (ht : t < 4) (hs8 : s < 8) (hx4 : x < 4) : sx_I G l yX6_isItself wsX6_isItself rmX6_isItself [.int (nI (t)), .int (nI (s)), .int (nI (x))] (n) F (n) (fun r F1 => F = F1 ∧ (((s = 6 ∨ s = 7) ∧ x = t) ∧ nI 1 = r ∨ ¬ ((s = 6 ∨ s = 7) ∧ x = t) ∧ nI 0 = r)) := by
  refine sx_enter (cc := cX6_isItself) (maxL := 3) (ret := some .boolean) (own := RX6) (nm := "isItself") (by decide) rfl rfl rfl (Nat.le_of_ble_eq_true rfl) ?_
  intro pp ee ss mm args below meth kc ls Q hQ X hs hP hl
  have hl : lv_has ls 3 [(0, .int (nI (t))), (1, .int (nI (s))), (2, .int (nI (x)))] := hl
  refine lv_iload_n X.1.1 X.1.2.1 dX6_isItself_0 rfl (lv_at hl 1 rfl) ?_
  refine lv_bipush (v := nI 6) X.1.1 X.1.2.1 dX6_isItself_1 (by decide) ?_
  refine sx_icmp_eq X (by omega) (by decide) (tgt := 12) dX6_isItself_3 (by decide) (fun c3 => ?_) (fun c3 => ?_)
  · refine lv_iload_n X.1.1 X.1.2.1 dX6_isItself_12 rfl (lv_at hl 2 rfl) ?_
    refine lv_iload_n X.1.1 X.1.2.1 dX6_isItself_13 rfl (lv_at hl 0 rfl) ?_
    refine sx_icmp_ne X (by omega) (by omega) (tgt := 21) dX6_isItself_14 (by decide) (fun c14 => ?_) (fun c14 => ?_)
    · refine lv_iconst (v := nI 0) X.1.1 X.1.2.1 dX6_isItself_21 (by decide) ?_
      rw [hQ]
      exact sx_zret X rfl (by decide) hs rfl hP dX6_isItself_22 (⟨rfl, Or.inr ⟨by omega, rfl⟩⟩)
    · refine lv_iconst (v := nI 1) X.1.1 X.1.2.1 dX6_isItself_17 (by decide) ?_
      refine lv_goto (tgt := 22) X.1.1 X.1.2.1 dX6_isItself_18 (by decide) ?_
      rw [hQ]
      exact sx_zret X rfl (by decide) hs rfl hP dX6_isItself_22 (⟨rfl, Or.inl ⟨by omega, rfl⟩⟩)
  · refine lv_iload_n X.1.1 X.1.2.1 dX6_isItself_6 rfl (lv_at hl 1 rfl) ?_
    refine lv_bipush (v := nI 7) X.1.1 X.1.2.1 dX6_isItself_7 (by decide) ?_
    refine sx_icmp_ne X (by omega) (by decide) (tgt := 21) dX6_isItself_9 (by decide) (fun c9 => ?_) (fun c9 => ?_)
    · refine lv_iconst (v := nI 0) X.1.1 X.1.2.1 dX6_isItself_21 (by decide) ?_
      rw [hQ]
      exact sx_zret X rfl (by decide) hs rfl hP dX6_isItself_22 (⟨rfl, Or.inr ⟨by omega, rfl⟩⟩)
    · refine lv_iload_n X.1.1 X.1.2.1 dX6_isItself_12 rfl (lv_at hl 2 rfl) ?_
      refine lv_iload_n X.1.1 X.1.2.1 dX6_isItself_13 rfl (lv_at hl 0 rfl) ?_
      refine sx_icmp_ne X (by omega) (by omega) (tgt := 21) dX6_isItself_14 (by decide) (fun c14 => ?_) (fun c14 => ?_)
      · refine lv_iconst (v := nI 0) X.1.1 X.1.2.1 dX6_isItself_21 (by decide) ?_
        rw [hQ]
        exact sx_zret X rfl (by decide) hs rfl hP dX6_isItself_22 (⟨rfl, Or.inr ⟨by omega, rfl⟩⟩)
      · refine lv_iconst (v := nI 1) X.1.1 X.1.2.1 dX6_isItself_17 (by decide) ?_
        refine lv_goto (tgt := 22) X.1.1 X.1.2.1 dX6_isItself_18 (by decide) ?_
        rw [hQ]
        exact sx_zret X rfl (by decide) hs rfl hP dX6_isItself_22 (⟨rfl, Or.inl ⟨by omega, rfl⟩⟩)
theorem ys_X6_boundOf : yX6_boundOf.cls ≠ "java/lang/invoke/MethodHandle" ∧ yX6_boundOf.cls ≠ "java/lang/invoke/VarHandle" ∧ (parseMethodDescriptor yX6_boundOf.desc).map (fun d => d.parameters.length) = some 1 := by decide +kernel
theorem yv_X6_boundOf : yX6_boundOf.cls = RX6 ∧ yX6_boundOf.cls ≠ "java/lang/invoke/MethodHandle" ∧ yX6_boundOf.cls ≠ "java/lang/invoke/VarHandle" ∧ (parseMethodDescriptor yX6_boundOf.desc).map (fun d => d.parameters.length) = some 1 := ⟨rfl, ys_X6_boundOf⟩
abbrev rmX6_boundOf : Room := { frames := 0, cells := 0, slots := 0, locals := 0 }
set_option maxHeartbeats 800000 in
set_option maxRecDepth 100000 in
theorem mX6_boundOf {G : sx_G} (l : Launch) {F : Nat → va_E} {n s : Nat}  (hs8 : s < 9) : sx_I G l yX6_boundOf wsX6_boundOf rmX6_boundOf [.int (nI (s))] (n) F (n) (fun r F1 => F = F1 ∧ nI (boundF s) = r) := by
  refine sx_enter (cc := cX6_boundOf) (maxL := 1) (ret := some .int) (own := RX6) (nm := "boundOf") (by decide) rfl rfl rfl (Nat.le_of_ble_eq_true rfl) ?_
  intro pp ee ss mm args below meth kc ls Q hQ X hs hP hl
  have hl : lv_has ls 1 [(0, .int (nI (s)))] := hl
  rcases (show s = 0 ∨ s = 1 ∨ s = 2 ∨ s = 3 ∨ s = 4 ∨ s = 5 ∨ s = 6 ∨ s = 7 ∨ s = 8 by omega) with rfl | rfl | rfl | rfl | rfl | rfl | rfl | rfl | rfl
  · refine lv_iload_n X.1.1 X.1.2.1 dX6_boundOf_0 rfl (lv_at hl 0 rfl) ?_
    refine lv_tableIn (off := 39) (tgt := 40) X.1.1 X.1.2.1 dX6_boundOf_1 (by decide) (by decide) (by decide) (by decide) ?_
    refine lv_iconst (v := nI 4) X.1.1 X.1.2.1 dX6_boundOf_40 (by decide) ?_
    rw [hQ]
    exact sx_iret X rfl hs rfl hP dX6_boundOf_41 (⟨rfl, rfl⟩)
  · refine lv_iload_n X.1.1 X.1.2.1 dX6_boundOf_0 rfl (lv_at hl 0 rfl) ?_
    refine lv_tableIn (off := 39) (tgt := 40) X.1.1 X.1.2.1 dX6_boundOf_1 (by decide) (by decide) (by decide) (by decide) ?_
    refine lv_iconst (v := nI 4) X.1.1 X.1.2.1 dX6_boundOf_40 (by decide) ?_
    rw [hQ]
    exact sx_iret X rfl hs rfl hP dX6_boundOf_41 (⟨rfl, rfl⟩)
  · refine lv_iload_n X.1.1 X.1.2.1 dX6_boundOf_0 rfl (lv_at hl 0 rfl) ?_
    refine lv_tableIn (off := 41) (tgt := 42) X.1.1 X.1.2.1 dX6_boundOf_1 (by decide) (by decide) (by decide) (by decide) ?_
    refine lv_iconst (v := nI 3) X.1.1 X.1.2.1 dX6_boundOf_42 (by decide) ?_
    rw [hQ]
    exact sx_iret X rfl hs rfl hP dX6_boundOf_43 (⟨rfl, rfl⟩)
  · refine lv_iload_n X.1.1 X.1.2.1 dX6_boundOf_0 rfl (lv_at hl 0 rfl) ?_
    refine lv_tableIn (off := 41) (tgt := 42) X.1.1 X.1.2.1 dX6_boundOf_1 (by decide) (by decide) (by decide) (by decide) ?_
    refine lv_iconst (v := nI 3) X.1.1 X.1.2.1 dX6_boundOf_42 (by decide) ?_
    rw [hQ]
    exact sx_iret X rfl hs rfl hP dX6_boundOf_43 (⟨rfl, rfl⟩)
  · refine lv_iload_n X.1.1 X.1.2.1 dX6_boundOf_0 rfl (lv_at hl 0 rfl) ?_
    refine lv_tableIn (off := 43) (tgt := 44) X.1.1 X.1.2.1 dX6_boundOf_1 (by decide) (by decide) (by decide) (by decide) ?_
    refine lv_iconst (v := nI 2) X.1.1 X.1.2.1 dX6_boundOf_44 (by decide) ?_
    rw [hQ]
    exact sx_iret X rfl hs rfl hP dX6_boundOf_45 (⟨rfl, rfl⟩)
  · refine lv_iload_n X.1.1 X.1.2.1 dX6_boundOf_0 rfl (lv_at hl 0 rfl) ?_
    refine lv_tableIn (off := 43) (tgt := 44) X.1.1 X.1.2.1 dX6_boundOf_1 (by decide) (by decide) (by decide) (by decide) ?_
    refine lv_iconst (v := nI 2) X.1.1 X.1.2.1 dX6_boundOf_44 (by decide) ?_
    rw [hQ]
    exact sx_iret X rfl hs rfl hP dX6_boundOf_45 (⟨rfl, rfl⟩)
  · refine lv_iload_n X.1.1 X.1.2.1 dX6_boundOf_0 rfl (lv_at hl 0 rfl) ?_
    refine lv_tableOut (tgt := 46) X.1.1 X.1.2.1 dX6_boundOf_1 (by decide) (by decide) ?_
    refine lv_iconst (v := nI 4) X.1.1 X.1.2.1 dX6_boundOf_46 (by decide) ?_
    rw [hQ]
    exact sx_iret X rfl hs rfl hP dX6_boundOf_47 (⟨rfl, rfl⟩)
  · refine lv_iload_n X.1.1 X.1.2.1 dX6_boundOf_0 rfl (lv_at hl 0 rfl) ?_
    refine lv_tableOut (tgt := 46) X.1.1 X.1.2.1 dX6_boundOf_1 (by decide) (by decide) ?_
    refine lv_iconst (v := nI 4) X.1.1 X.1.2.1 dX6_boundOf_46 (by decide) ?_
    rw [hQ]
    exact sx_iret X rfl hs rfl hP dX6_boundOf_47 (⟨rfl, rfl⟩)
  · refine lv_iload_n X.1.1 X.1.2.1 dX6_boundOf_0 rfl (lv_at hl 0 rfl) ?_
    refine lv_tableOut (tgt := 46) X.1.1 X.1.2.1 dX6_boundOf_1 (by decide) (by decide) ?_
    refine lv_iconst (v := nI 4) X.1.1 X.1.2.1 dX6_boundOf_46 (by decide) ?_
    rw [hQ]
    exact sx_iret X rfl hs rfl hP dX6_boundOf_47 (⟨rfl, rfl⟩)
theorem ys_X6_holder : yX6_holder.cls ≠ "java/lang/invoke/MethodHandle" ∧ yX6_holder.cls ≠ "java/lang/invoke/VarHandle" ∧ (parseMethodDescriptor yX6_holder.desc).map (fun d => d.parameters.length) = some 1 := by decide +kernel
theorem yv_X6_holder : yX6_holder.cls = RX6 ∧ yX6_holder.cls ≠ "java/lang/invoke/MethodHandle" ∧ yX6_holder.cls ≠ "java/lang/invoke/VarHandle" ∧ (parseMethodDescriptor yX6_holder.desc).map (fun d => d.parameters.length) = some 1 := ⟨rfl, ys_X6_holder⟩
theorem in_X6_holder_X6 : ∀ w ∈ wsX60, w ∈ wsX6_holder := fun _ h => List.mem_cons_of_mem _ (List.mem_append_left _ (List.mem_append_right _ (h)))
theorem lk_X6_holder_fieldLink_RX6_10_RaceWatch_world_LRaceWatch_World : (.fieldLink RX6 10 "RaceWatch" "world" "LRaceWatch$World;" : Cond) ∈ wsX6_holder := List.mem_cons_of_mem _ (List.mem_append_left _ (List.mem_append_left _ (List.mem_of_getElem? (i := 0) rfl)))
theorem in_X6_holder_X5 : ∀ w ∈ wsX50, w ∈ wsX6_holder := fun _ h => List.mem_cons_of_mem _ (List.mem_append_right _ (h))
theorem lk_X6_holder_fieldLink_RX6_152_RaceWatch_World_holders_I : (.fieldLink RX6 152 "RaceWatch$World" "holders" "[I" : Cond) ∈ wsX6_holder := List.mem_cons_of_mem _ (List.mem_append_left _ (List.mem_append_left _ (List.mem_of_getElem? (i := 1) rfl)))
theorem lk_X6_holder_constant_RX6_67_1000000001 : (.constant RX6 67 (-1000000001) : Cond) ∈ wsX6_holder := List.mem_cons_of_mem _ (List.mem_append_left _ (List.mem_append_left _ (List.mem_of_getElem? (i := 2) rfl)))
abbrev rmX6_holder : Room := { frames := 1, cells := 0, slots := 0, locals := 21 }
set_option maxHeartbeats 800000 in
set_option maxRecDepth 100000 in
theorem mX6_holder {G : sx_G} (l : Launch) {F : Nat → va_E} {w : Nat → Int32} {M : Nat} {x : Int32}  (hW : WV G F w M 1) (hwf : WFw w M) (h0 : F (0) = ob 6 ([rf G 1, rf G 28, rf G 83, rf G 84])) : sx_I G l yX6_holder wsX6_holder rmX6_holder [rf G 0, .int (x)] (97) F (97) (fun r F1 => F = F1 ∧ holdF w x = r) := by
  refine sx_enter (cc := cX6_holder) (maxL := 2) (ret := some .int) (own := RX6) (nm := "holder") (by decide) rfl rfl rfl (Nat.le_of_ble_eq_true rfl) ?_
  intro pp ee ss mm args below meth kc ls Q hQ X hs hP hl
  have hl : lv_has ls 2 [(0, rf G 0), (1, .int (x))] := hl
  obtain ⟨st, ho, ct, cl, cs, kr, r4, r6, r8, h1, h2, h3, h4, h5, h6, h7, h8, h9, h10, hkr, hRV, hKV, hLg, hRw⟩ := hW
  obtain ⟨th, so, wi, lo, lc, rb, rc, rr, h19, h20, h21, h22, h23, h24, h25, h26, h27, hLV, hRB, hRC⟩ := hLg
  have h1 : F 1 = ob 5 ([rf G 2, rf G 3, rf G 4, rf G 6, rf G 8, rf G 10, rf G 19]) := h1
  have h2 : F 2 = rI G (4) (st) := h2
  have h3 : F 3 = rI G (3) (ho) := h3
  have h4 : F 4 = ob 1 ([r4, rf G 5]) := h4
  have h5 : F 5 = rI G (16) (ct) := h5
  have h6 : F 6 = ob 1 ([r6, rf G 7]) := h6
  have h7 : F 7 = rI G (12) (cl) := h7
  have h8 : F 8 = ob 1 ([r8, rf G 9]) := h8
  have h9 : F 9 = rI G (8) (cs) := h9
  have h10 : F 10 = rK G (4) (kr) := h10
  have h19 : F 19 = ob 3 ([.int (nI (M)), rf G 20, rf G 21, rf G 22, rf G 23, rf G 24, rf G 26, rf G 27]) := h19
  have h20 : F 20 = rI G (160) (th) := h20
  have h21 : F 21 = rI G (160) (so) := h21
  have h22 : F 22 = rI G (160) (wi) := h22
  have h23 : F 23 = rI G (160) (lo) := h23
  have h24 : F 24 = ob 1 ([rr, rf G 25]) := h24
  have h25 : F 25 = rI G (640) (lc) := h25
  have h26 : F 26 = rI G (160) (rb) := h26
  have h27 : F 27 = rI G (12) (rc) := h27
  have hkr : ∀ j, j < 4 → kr j = some (sx_b G + (11 + 2 * j)) := hkr
  refine lv_iload_n X.1.1 X.1.2.1 dX6_holder_0 rfl (lv_at hl 1 rfl) ?_
  refine lv_iconst (v := nI 3) X.1.1 X.1.2.1 dX6_holder_1 (by decide) ?_
  refine sx_csI (As := [.int (x), .int (nI 3)]) (rest := []) X (mX6_isIn l (x := (x)) (k := 3) (by omega)) gX6_holder_X6_isIn rfl ys_X6_isIn ⟨Nat.le_of_ble_eq_true rfl, Nat.le_of_ble_eq_true rfl⟩ hl.1 rfl (Nat.le_of_ble_eq_true rfl) dX6_holder_2 ⟨Nat.le_of_ble_eq_true rfl, Nat.le_of_ble_eq_true rfl⟩ hs rfl hP (fun r1 F1 H1 l1 hp hP => ?_)
  obtain ⟨rfl, ⟨b2, rfl⟩ | ⟨b2, rfl⟩⟩ := hp
  · obtain ⟨j, hj, rfl⟩ := b2
    refine sx_if_eq X (by decide) (tgt := 20) dX6_holder_5 (by decide) (fun h => absurd h (by decide)) (fun _ => ?_)
    refine lv_aload_n X.1.1 X.1.2.1 dX6_holder_8 rfl (lv_at hl 0 rfl) ?_
    refine sx_get X hP in_X6_holder_X6 h0 (by decide) rfl 0 (by decide) lk_X6_holder_fieldLink_RX6_10_RaceWatch_world_LRaceWatch_World rfl dX6_holder_9 ?_
    refine sx_get X hP in_X6_holder_X5 h1 (by decide) rfl 1 (by decide) lk_X6_holder_fieldLink_RX6_152_RaceWatch_World_holders_I rfl dX6_holder_12 ?_
    refine lv_iload_n X.1.1 X.1.2.1 dX6_holder_15 rfl (lv_at hl 1 rfl) ?_
    refine sx_ald X hP h3 (by decide) (j) (by omega) (by decide) dX6_holder_16 ?_
    refine lv_goto (tgt := 22) X.1.1 X.1.2.1 dX6_holder_17 (by decide) ?_
    rw [hQ]
    exact sx_iret X rfl hs rfl hP dX6_holder_22 (⟨rfl, by unfold holdF; rw [cif_t ⟨j, hj, rfl⟩, nI_clamp (by omega)]; exact (hRV.2.1 j hj).symm⟩)
  · refine sx_if_eq X (by decide) (tgt := 20) dX6_holder_5 (by decide) (fun _ => ?_) (fun h => absurd h (by decide))
    refine lv_ldc (v := -1000000001) X.1.1 X.1.2.1 X.1.2.2.2.1 (X.1.2.2.2.2 _ lk_X6_holder_constant_RX6_67_1000000001) dX6_holder_20 ?_
    rw [hQ]
    exact sx_iret X rfl hs rfl hP dX6_holder_22 (⟨rfl, by unfold holdF; rw [cif_f b2]⟩)
theorem ys_X6_guard : yX6_guard.cls ≠ "java/lang/invoke/MethodHandle" ∧ yX6_guard.cls ≠ "java/lang/invoke/VarHandle" ∧ (parseMethodDescriptor yX6_guard.desc).map (fun d => d.parameters.length) = some 1 := by decide +kernel
theorem yv_X6_guard : yX6_guard.cls = RX6 ∧ yX6_guard.cls ≠ "java/lang/invoke/MethodHandle" ∧ yX6_guard.cls ≠ "java/lang/invoke/VarHandle" ∧ (parseMethodDescriptor yX6_guard.desc).map (fun d => d.parameters.length) = some 1 := ⟨rfl, ys_X6_guard⟩
theorem in_X6_guard_X6 : ∀ w ∈ wsX60, w ∈ wsX6_guard := fun _ h => List.mem_cons_of_mem _ (List.mem_append_left _ (List.mem_append_left _ (List.mem_append_right _ (h))))
theorem lk_X6_guard_fieldLink_RX6_10_RaceWatch_world_LRaceWatch_World : (.fieldLink RX6 10 "RaceWatch" "world" "LRaceWatch$World;" : Cond) ∈ wsX6_guard := List.mem_cons_of_mem _ (List.mem_append_left _ (List.mem_append_left _ (List.mem_append_left _ (List.mem_of_getElem? (i := 0) rfl))))
theorem in_X6_guard_X5 : ∀ w ∈ wsX50, w ∈ wsX6_guard := fun _ h => List.mem_cons_of_mem _ (List.mem_append_left _ (List.mem_append_right _ (h)))
theorem lk_X6_guard_fieldLink_RX6_171_RaceWatch_World_cells_LRaceWatch_Kept : (.fieldLink RX6 171 "RaceWatch$World" "cells" "[LRaceWatch$Kept;" : Cond) ∈ wsX6_guard := List.mem_cons_of_mem _ (List.mem_append_left _ (List.mem_append_left _ (List.mem_append_left _ (List.mem_of_getElem? (i := 1) rfl))))
theorem in_X6_guard_X2 : ∀ w ∈ wsX20, w ∈ wsX6_guard := fun _ h => List.mem_cons_of_mem _ (List.mem_append_right _ (h))
theorem lk_X6_guard_fieldLink_RX6_209_RaceWatch_Kept_guards_I : (.fieldLink RX6 209 "RaceWatch$Kept" "guards" "I" : Cond) ∈ wsX6_guard := List.mem_cons_of_mem _ (List.mem_append_left _ (List.mem_append_left _ (List.mem_append_left _ (List.mem_of_getElem? (i := 2) rfl))))
theorem lk_X6_guard_constant_RX6_67_1000000001 : (.constant RX6 67 (-1000000001) : Cond) ∈ wsX6_guard := List.mem_cons_of_mem _ (List.mem_append_left _ (List.mem_append_left _ (List.mem_append_left _ (List.mem_of_getElem? (i := 3) rfl))))
abbrev rmX6_guard : Room := { frames := 1, cells := 0, slots := 0, locals := 21 }
set_option maxHeartbeats 800000 in
set_option maxRecDepth 100000 in
theorem mX6_guard {G : sx_G} (l : Launch) {F : Nat → va_E} {w : Nat → Int32} {M : Nat} {x : Int32}  (hW : WV G F w M 1) (hwf : WFw w M) (h0 : F (0) = ob 6 ([rf G 1, rf G 28, rf G 83, rf G 84])) : sx_I G l yX6_guard wsX6_guard rmX6_guard [rf G 0, .int (x)] (97) F (97) (fun r F1 => F = F1 ∧ guardF w M x = r) := by
  refine sx_enter (cc := cX6_guard) (maxL := 2) (ret := some .int) (own := RX6) (nm := "guard") (by decide) rfl rfl rfl (Nat.le_of_ble_eq_true rfl) ?_
  intro pp ee ss mm args below meth kc ls Q hQ X hs hP hl
  have hl : lv_has ls 2 [(0, rf G 0), (1, .int (x))] := hl
  obtain ⟨st, ho, ct, cl, cs, kr, r4, r6, r8, h1, h2, h3, h4, h5, h6, h7, h8, h9, h10, hkr, hRV, hKV, hLg, hRw⟩ := hW
  obtain ⟨th, so, wi, lo, lc, rb, rc, rr, h19, h20, h21, h22, h23, h24, h25, h26, h27, hLV, hRB, hRC⟩ := hLg
  have h1 : F 1 = ob 5 ([rf G 2, rf G 3, rf G 4, rf G 6, rf G 8, rf G 10, rf G 19]) := h1
  have h2 : F 2 = rI G (4) (st) := h2
  have h3 : F 3 = rI G (3) (ho) := h3
  have h4 : F 4 = ob 1 ([r4, rf G 5]) := h4
  have h5 : F 5 = rI G (16) (ct) := h5
  have h6 : F 6 = ob 1 ([r6, rf G 7]) := h6
  have h7 : F 7 = rI G (12) (cl) := h7
  have h8 : F 8 = ob 1 ([r8, rf G 9]) := h8
  have h9 : F 9 = rI G (8) (cs) := h9
  have h10 : F 10 = rK G (4) (kr) := h10
  have h19 : F 19 = ob 3 ([.int (nI (M)), rf G 20, rf G 21, rf G 22, rf G 23, rf G 24, rf G 26, rf G 27]) := h19
  have h20 : F 20 = rI G (160) (th) := h20
  have h21 : F 21 = rI G (160) (so) := h21
  have h22 : F 22 = rI G (160) (wi) := h22
  have h23 : F 23 = rI G (160) (lo) := h23
  have h24 : F 24 = ob 1 ([rr, rf G 25]) := h24
  have h25 : F 25 = rI G (640) (lc) := h25
  have h26 : F 26 = rI G (160) (rb) := h26
  have h27 : F 27 = rI G (12) (rc) := h27
  have hkr : ∀ j, j < 4 → kr j = some (sx_b G + (11 + 2 * j)) := hkr
  refine lv_iload_n X.1.1 X.1.2.1 dX6_guard_0 rfl (lv_at hl 1 rfl) ?_
  refine lv_iconst (v := nI 4) X.1.1 X.1.2.1 dX6_guard_1 (by decide) ?_
  refine sx_csI (As := [.int (x), .int (nI 4)]) (rest := []) X (mX6_isIn l (x := (x)) (k := 4) (by omega)) gX6_guard_X6_isIn rfl ys_X6_isIn ⟨Nat.le_of_ble_eq_true rfl, Nat.le_of_ble_eq_true rfl⟩ hl.1 rfl (Nat.le_of_ble_eq_true rfl) dX6_guard_2 ⟨Nat.le_of_ble_eq_true rfl, Nat.le_of_ble_eq_true rfl⟩ hs rfl hP (fun r1 F1 H1 l1 hp hP => ?_)
  obtain ⟨rfl, ⟨b2, rfl⟩ | ⟨b2, rfl⟩⟩ := hp
  · obtain ⟨j, hj, rfl⟩ := b2
    obtain ⟨hKx, nrx, hNx, hnr⟩ := hKV j hj
    have h11___2___j : F (11 + 2 * j) = ob 2 ([.int (w (43 + 12 * j)), .int (w (44 + 12 * j)), .int (w (45 + 12 * j)), .int (w (46 + 12 * j)), .int (w (47 + 12 * j)), rf G (12 + 2 * j), .int (w (52 + 12 * j)), .int (w (53 + 12 * j)), .int (w (54 + 12 * j)), .int (gdF w j M)]) := hKx
    have h12___2___j : F (12 + 2 * j) = rI G 4 nrx := hNx
    refine sx_if_eq X (by decide) (tgt := 23) dX6_guard_5 (by decide) (fun h => absurd h (by decide)) (fun _ => ?_)
    refine lv_aload_n X.1.1 X.1.2.1 dX6_guard_8 rfl (lv_at hl 0 rfl) ?_
    refine sx_get X hP in_X6_guard_X6 h0 (by decide) rfl 0 (by decide) lk_X6_guard_fieldLink_RX6_10_RaceWatch_world_LRaceWatch_World rfl dX6_guard_9 ?_
    refine sx_get X hP in_X6_guard_X5 h1 (by decide) rfl 5 (by decide) lk_X6_guard_fieldLink_RX6_171_RaceWatch_World_cells_LRaceWatch_Kept rfl dX6_guard_12 ?_
    refine lv_iload_n X.1.1 X.1.2.1 dX6_guard_15 rfl (lv_at hl 1 rfl) ?_
    refine sx_kald X hP h10 (by decide) (j) (by omega) (by decide) (q := 11 + 2 * j) ((hkr _ (by omega)).trans (congrArg some (by omega))) dX6_guard_16 ?_
    refine sx_get X hP in_X6_guard_X2 h11___2___j (by omega) rfl 9 (by decide) lk_X6_guard_fieldLink_RX6_209_RaceWatch_Kept_guards_I rfl dX6_guard_17 ?_
    refine lv_goto (tgt := 25) X.1.1 X.1.2.1 dX6_guard_20 (by decide) ?_
    rw [hQ]
    exact sx_iret X rfl hs rfl hP dX6_guard_25 (⟨rfl, by unfold guardF; rw [cif_f (fun q => q ⟨j, hj, rfl⟩), nI_clamp (by omega)]⟩)
  · refine sx_if_eq X (by decide) (tgt := 23) dX6_guard_5 (by decide) (fun _ => ?_) (fun h => absurd h (by decide))
    refine lv_ldc (v := -1000000001) X.1.1 X.1.2.1 X.1.2.2.2.1 (X.1.2.2.2.2 _ lk_X6_guard_constant_RX6_67_1000000001) dX6_guard_23 ?_
    rw [hQ]
    exact sx_iret X rfl hs rfl hP dX6_guard_25 (⟨rfl, by unfold guardF; rw [cif_t b2]⟩)
theorem ys_X6_anew : yX6_anew.cls ≠ "java/lang/invoke/MethodHandle" ∧ yX6_anew.cls ≠ "java/lang/invoke/VarHandle" ∧ (parseMethodDescriptor yX6_anew.desc).map (fun d => d.parameters.length) = some 0 := by decide +kernel
theorem yv_X6_anew : yX6_anew.cls = RX6 ∧ yX6_anew.cls ≠ "java/lang/invoke/MethodHandle" ∧ yX6_anew.cls ≠ "java/lang/invoke/VarHandle" ∧ (parseMethodDescriptor yX6_anew.desc).map (fun d => d.parameters.length) = some 0 := ⟨rfl, ys_X6_anew⟩
theorem in_X6_anew_X6 : ∀ w ∈ wsX60, w ∈ wsX6_anew := fun _ h => List.mem_cons_of_mem _ (List.mem_append_left _ (List.mem_append_left _ (List.mem_append_left _ (List.mem_append_left _ (List.mem_append_right _ (h))))))
theorem lk_X6_anew_fieldLink_RX6_10_RaceWatch_world_LRaceWatch_World : (.fieldLink RX6 10 "RaceWatch" "world" "LRaceWatch$World;" : Cond) ∈ wsX6_anew := List.mem_cons_of_mem _ (List.mem_append_left _ (List.mem_append_left _ (List.mem_append_left _ (List.mem_append_left _ (List.mem_append_left _ (List.mem_append_left _ (List.mem_of_getElem? (i := 0) rfl)))))))
theorem in_X6_anew_X5 : ∀ w ∈ wsX50, w ∈ wsX6_anew := fun _ h => List.mem_cons_of_mem _ (List.mem_append_left _ (List.mem_append_left _ (List.mem_append_left _ (List.mem_append_right _ (h)))))
theorem lk_X6_anew_fieldLink_RX6_31_RaceWatch_World_log_LRaceWatch_Log : (.fieldLink RX6 31 "RaceWatch$World" "log" "LRaceWatch$Log;" : Cond) ∈ wsX6_anew := List.mem_cons_of_mem _ (List.mem_append_left _ (List.mem_append_left _ (List.mem_append_left _ (List.mem_append_left _ (List.mem_append_left _ (List.mem_append_left _ (List.mem_of_getElem? (i := 1) rfl)))))))
theorem in_X6_anew_X3 : ∀ w ∈ wsX30, w ∈ wsX6_anew := fun _ h => List.mem_cons_of_mem _ (List.mem_append_left _ (List.mem_append_left _ (List.mem_append_right _ (h))))
theorem lk_X6_anew_fieldLink_RX6_35_RaceWatch_Log_count_I : (.fieldLink RX6 35 "RaceWatch$Log" "count" "I" : Cond) ∈ wsX6_anew := List.mem_cons_of_mem _ (List.mem_append_left _ (List.mem_append_left _ (List.mem_append_left _ (List.mem_append_left _ (List.mem_append_left _ (List.mem_append_left _ (List.mem_of_getElem? (i := 2) rfl)))))))
abbrev rmX6_anew : Room := { frames := 4, cells := 0, slots := 0, locals := 84 }
set_option maxHeartbeats 800000 in
set_option maxRecDepth 100000 in
theorem mX6_anew {G : sx_G} (l : Launch) {F : Nat → va_E} {w : Nat → Int32} {M : Nat}  (hW : WV G F w M 1) (hwf : WFw w M) (h0 : F (0) = ob 6 ([rf G 1, rf G 28, rf G 83, rf G 84])) : sx_I G l yX6_anew wsX6_anew rmX6_anew [rf G 0] (97) F (97) (fun r F1 => WV G F1 (iniF w) 0 1 ∧ (∀ j, (j = 0 ∨ 27 < j) → F1 j = F j) ∧ nI M = r) := by
  refine sx_enter (cc := cX6_anew) (maxL := 2) (ret := some .int) (own := RX6) (nm := "anew") (by decide) rfl rfl rfl (Nat.le_of_ble_eq_true rfl) ?_
  intro pp ee ss mm args below meth kc ls Q hQ X hs hP hl
  have hl : lv_has ls 2 [(0, rf G 0)] := hl
  have hO : ∀ j, j = 0 ∨ 27 < j → F j = F j := fun _ _ => rfl
  have hW0 := hW
  obtain ⟨st, ho, ct, cl, cs, kr, r4, r6, r8, h1, h2, h3, h4, h5, h6, h7, h8, h9, h10, hkr, hRV, hKV, hLg, hRw⟩ := hW
  obtain ⟨th, so, wi, lo, lc, rb, rc, rr, h19, h20, h21, h22, h23, h24, h25, h26, h27, hLV, hRB, hRC⟩ := hLg
  have h1 : F 1 = ob 5 ([rf G 2, rf G 3, rf G 4, rf G 6, rf G 8, rf G 10, rf G 19]) := h1
  have h2 : F 2 = rI G (4) (st) := h2
  have h3 : F 3 = rI G (3) (ho) := h3
  have h4 : F 4 = ob 1 ([r4, rf G 5]) := h4
  have h5 : F 5 = rI G (16) (ct) := h5
  have h6 : F 6 = ob 1 ([r6, rf G 7]) := h6
  have h7 : F 7 = rI G (12) (cl) := h7
  have h8 : F 8 = ob 1 ([r8, rf G 9]) := h8
  have h9 : F 9 = rI G (8) (cs) := h9
  have h10 : F 10 = rK G (4) (kr) := h10
  have h19 : F 19 = ob 3 ([.int (nI (M)), rf G 20, rf G 21, rf G 22, rf G 23, rf G 24, rf G 26, rf G 27]) := h19
  have h20 : F 20 = rI G (160) (th) := h20
  have h21 : F 21 = rI G (160) (so) := h21
  have h22 : F 22 = rI G (160) (wi) := h22
  have h23 : F 23 = rI G (160) (lo) := h23
  have h24 : F 24 = ob 1 ([rr, rf G 25]) := h24
  have h25 : F 25 = rI G (640) (lc) := h25
  have h26 : F 26 = rI G (160) (rb) := h26
  have h27 : F 27 = rI G (12) (rc) := h27
  have hkr : ∀ j, j < 4 → kr j = some (sx_b G + (11 + 2 * j)) := hkr
  have hW := hW0
  refine lv_aload_n X.1.1 X.1.2.1 dX6_anew_0 rfl (lv_at hl 0 rfl) ?_
  refine sx_get X hP in_X6_anew_X6 h0 (by decide) rfl 0 (by decide) lk_X6_anew_fieldLink_RX6_10_RaceWatch_world_LRaceWatch_World rfl dX6_anew_1 ?_
  refine sx_get X hP in_X6_anew_X5 h1 (by decide) rfl 6 (by decide) lk_X6_anew_fieldLink_RX6_31_RaceWatch_World_log_LRaceWatch_Log rfl dX6_anew_4 ?_
  refine sx_get X hP in_X6_anew_X3 h19 (by decide) rfl 0 (by decide) lk_X6_anew_fieldLink_RX6_35_RaceWatch_Log_count_I rfl dX6_anew_7 ?_
  refine lv_istore_n (lv' := [(1, .int (nI (M))), (0, rf G 0)]) X.1.1 X.1.2.1 dX6_anew_10 rfl hl (by decide) rfl (fun ls hl => ?_)
  refine lv_aload_n X.1.1 X.1.2.1 dX6_anew_11 rfl (lv_at hl 1 rfl) ?_
  refine sx_get X hP in_X6_anew_X6 h0 (by decide) rfl 0 (by decide) lk_X6_anew_fieldLink_RX6_10_RaceWatch_world_LRaceWatch_World rfl dX6_anew_12 ?_
  refine sx_cvV (As := []) (rest := []) X (mX5_begin l (B := 1) (w := w) (by decide) (WV.shape hW)) gX6_anew_X5_begin rfl yv_X5_begin ⟨Nat.le_of_ble_eq_true rfl, Nat.le_of_ble_eq_true rfl⟩ h1 (by decide) rfl rfl hl.1 rfl (Nat.le_of_ble_eq_true rfl) dX6_anew_15 ⟨Nat.le_of_ble_eq_true rfl, Nat.le_of_ble_eq_true rfl⟩ hs rfl hP (fun F1 H1 l1 hp hP => ?_)
  obtain ⟨hW1, o1⟩ := hp
  have hO : ∀ j, j = 0 ∨ 27 < j → F1 j = F j := fun j hj => (o1 j (by omega)).trans (hO j hj)
  refine lv_iload_n X.1.1 X.1.2.1 dX6_anew_18 rfl (lv_at hl 0 rfl) ?_
  rw [hQ]
  exact sx_iret X rfl hs rfl hP dX6_anew_19 (⟨hW1, hO, rfl⟩)
