theorem ys_X7_fault : yX7_fault.cls ≠ "java/lang/invoke/MethodHandle" ∧ yX7_fault.cls ≠ "java/lang/invoke/VarHandle" ∧ (parseMethodDescriptor yX7_fault.desc).map (fun d => d.parameters.length) = some 0 := by decide +kernel
theorem yv_X7_fault : yX7_fault.cls = RX7 ∧ yX7_fault.cls ≠ "java/lang/invoke/MethodHandle" ∧ yX7_fault.cls ≠ "java/lang/invoke/VarHandle" ∧ (parseMethodDescriptor yX7_fault.desc).map (fun d => d.parameters.length) = some 0 := ⟨rfl, ys_X7_fault⟩
theorem in_X7_fault_X7 : ∀ w ∈ wsX70, w ∈ wsX7_fault := fun _ h => List.mem_cons_of_mem _ (List.mem_append_right _ (h))
theorem lk_X7_fault_fieldLink_RX7_7_RaceWatchModel_w_I : (.fieldLink RX7 7 "RaceWatchModel" "w" "[I" : Cond) ∈ wsX7_fault := List.mem_cons_of_mem _ (List.mem_append_left _ (List.mem_of_getElem? (i := 0) rfl))
abbrev rmX7_fault : Room := { frames := 0, cells := 0, slots := 0, locals := 0 }
set_option maxHeartbeats 4000000 in
set_option maxRecDepth 100000 in
theorem mX7_fault {G : sx_G} (l : Launch) {F : Nat → va_E} {w : Nat → Int32} {of : List Value}  (h91 : F (91) = ob 7 (rf G 92 :: of)) (h92 : F (92) = rI G (4358) (w)) : sx_I G l yX7_fault wsX7_fault rmX7_fault [rf G 91] (97) F (97) (fun r F1 => F = F1 ∧ w 1613 = r) := by
  refine sx_enter (cc := cX7_fault) (maxL := 1) (ret := some .int) (own := RX7) (nm := "fault") (by decide) rfl rfl rfl (Nat.le_of_ble_eq_true rfl) ?_
  intro pp ee ss mm args below meth kc ls Q hQ X hs hP hl
  have hl : lv_has ls 1 [(0, rf G 91)] := hl
  refine lv_aload_n X.1.1 X.1.2.1 dX7_fault_0 rfl (lv_at hl 0 rfl) ?_
  refine sx_get X hP in_X7_fault_X7 h91 (by decide) rfl 0 (by decide) lk_X7_fault_fieldLink_RX7_7_RaceWatchModel_w_I rfl dX7_fault_1 ?_
  refine lv_sipush (v := nI 1613) X.1.1 X.1.2.1 dX7_fault_4 (by decide) ?_
  refine sx_ald X hP h92 (by decide) (1613) (by decide) (by decide) dX7_fault_7 ?_
  rw [hQ]
  exact sx_iret X rfl hs rfl hP dX7_fault_8 (⟨rfl, rfl⟩)
theorem ys_X7_whoIs : yX7_whoIs.cls ≠ "java/lang/invoke/MethodHandle" ∧ yX7_whoIs.cls ≠ "java/lang/invoke/VarHandle" ∧ (parseMethodDescriptor yX7_whoIs.desc).map (fun d => d.parameters.length) = some 1 := by decide +kernel
theorem yv_X7_whoIs : yX7_whoIs.cls = RX7 ∧ yX7_whoIs.cls ≠ "java/lang/invoke/MethodHandle" ∧ yX7_whoIs.cls ≠ "java/lang/invoke/VarHandle" ∧ (parseMethodDescriptor yX7_whoIs.desc).map (fun d => d.parameters.length) = some 1 := ⟨rfl, ys_X7_whoIs⟩
theorem in_X7_whoIs_X7 : ∀ w ∈ wsX70, w ∈ wsX7_whoIs := fun _ h => List.mem_cons_of_mem _ (List.mem_append_right _ (h))
theorem lk_X7_whoIs_fieldLink_RX7_7_RaceWatchModel_w_I : (.fieldLink RX7 7 "RaceWatchModel" "w" "[I" : Cond) ∈ wsX7_whoIs := List.mem_cons_of_mem _ (List.mem_append_left _ (List.mem_of_getElem? (i := 0) rfl))
abbrev rmX7_whoIs : Room := { frames := 0, cells := 0, slots := 0, locals := 0 }
set_option maxHeartbeats 4000000 in
set_option maxRecDepth 100000 in
theorem mX7_whoIs {G : sx_G} (l : Launch) {F : Nat → va_E} {w : Nat → Int32} {of : List Value} {x : Int32} (h91 : F (91) = ob 7 (rf G 92 :: of)) (h92 : F (92) = rI G (4358) (w)) : sx_I G l yX7_whoIs wsX7_whoIs rmX7_whoIs [rf G 91, .int (x)] (97) F (97) (fun r F1 => F = F1 ∧ setF4 w x = r) := by
  refine sx_enter (cc := cX7_whoIs) (maxL := 4) (ret := some .int) (own := RX7) (nm := "whoIs") (by decide) rfl rfl rfl (Nat.le_of_ble_eq_true rfl) ?_
  intro pp ee ss mm args below meth kc ls Q hQ X hs hP hl
  have hl : lv_has ls 4 [(0, rf G 91), (1, .int (x))] := hl
  refine lv_iconst (v := nI 0) X.1.1 X.1.2.1 dX7_whoIs_0 (by decide) ?_
  refine lv_istore_n (lv' := [(2, .int (nI 0)), (0, rf G 91), (1, .int (x))]) X.1.1 X.1.2.1 dX7_whoIs_1 rfl hl (by decide) rfl (fun ls hl => ?_)
  refine lv_iconst (v := nI 0) X.1.1 X.1.2.1 dX7_whoIs_2 (by decide) ?_
  refine lv_istore_n (lv' := [(3, .int (nI 0)), (2, .int (nI 0)), (0, rf G 91), (1, .int (x))]) X.1.1 X.1.2.1 dX7_whoIs_3 rfl hl (by decide) rfl (fun ls hl => ?_)
  refine lv_iload_n X.1.1 X.1.2.1 dX7_whoIs_4 rfl (lv_at hl 0 rfl) ?_
  refine lv_iconst (v := nI 4) X.1.1 X.1.2.1 dX7_whoIs_5 (by decide) ?_
  refine sx_icmp_ge X (by decide) (by decide) (tgt := 37) dX7_whoIs_6 (by decide) (fun h => absurd h (by decide)) (fun _ => ?_)
  refine lv_iload_n X.1.1 X.1.2.1 dX7_whoIs_9 rfl (lv_at hl 1 rfl) ?_
  refine lv_aload_n X.1.1 X.1.2.1 dX7_whoIs_10 rfl (lv_at hl 2 rfl) ?_
  refine sx_get X hP in_X7_whoIs_X7 h91 (by decide) rfl 0 (by decide) lk_X7_whoIs_fieldLink_RX7_7_RaceWatchModel_w_I rfl dX7_whoIs_11 ?_
  refine lv_iconst (v := nI 0) X.1.1 X.1.2.1 dX7_whoIs_14 (by decide) ?_
  refine lv_iload_n X.1.1 X.1.2.1 dX7_whoIs_15 rfl (lv_at hl 0 rfl) ?_
  refine sx_addN X (0) rfl dX7_whoIs_16 ?_
  refine sx_ald X hP h92 (by decide) (0) (by decide) (by decide) dX7_whoIs_17 ?_
  refine lv_iload_n X.1.1 X.1.2.1 dX7_whoIs_18 rfl (lv_at hl 3 rfl) ?_
  refine sx_join (P := fun z => W pp l ee rmX7_whoIs ss mm args below meth kc ss.heap [] 0 0 Q (F0 mm 29 ls (.int z :: .int (nI 0) :: []))) ((w 0) = (x)) (a := ((nI (1)) <<< ((nI (0)) &&& 31))) (b := (nI (0))) (fun ja jb => ?_) ?_
  · refine lv_icmp_ne X.1.1 X.1.2.1 (tgt := 28) dX7_whoIs_19 (by decide) (fun c19 => ?_) (fun c19 => ?_)
    · refine lv_iconst (v := nI 0) X.1.1 X.1.2.1 dX7_whoIs_28 (by decide) ?_
      exact jb c19
    · refine lv_iconst (v := nI 1) X.1.1 X.1.2.1 dX7_whoIs_22 (by decide) ?_
      refine lv_iload_n X.1.1 X.1.2.1 dX7_whoIs_23 rfl (lv_at hl 0 rfl) ?_
      refine lv_ishl X.1.1 X.1.2.1 dX7_whoIs_24 ?_
      refine lv_goto (tgt := 29) X.1.1 X.1.2.1 dX7_whoIs_25 (by decide) ?_
      exact ja c19
  · refine lv_ior X.1.1 X.1.2.1 dX7_whoIs_29 ?_
    refine lv_istore_n (lv' := [(2, .int ((nI (0)) ||| (if (w 0) = (x) then ((nI (1)) <<< ((nI (0)) &&& 31)) else (nI (0))))), (3, .int (nI 0)), (0, rf G 91), (1, .int (x))]) X.1.1 X.1.2.1 dX7_whoIs_30 rfl hl (by decide) rfl (fun ls hl => ?_)
    refine lv_iinc (v := (nI (1))) (lv' := [(3, .int (nI 1)), (2, .int ((nI (0)) ||| (if (w 0) = (x) then ((nI (1)) <<< ((nI (0)) &&& 31)) else (nI (0))))), (0, rf G 91), (1, .int (x))]) X.1.1 X.1.2.1 dX7_whoIs_31 hl (k := 1) rfl (by decide) (by decide) rfl (fun ls hl => ?_)
    refine lv_goto (tgt := 4) X.1.1 X.1.2.1 dX7_whoIs_34 (by decide) ?_
    refine lv_iload_n X.1.1 X.1.2.1 dX7_whoIs_4 rfl (lv_at hl 0 rfl) ?_
    refine lv_iconst (v := nI 4) X.1.1 X.1.2.1 dX7_whoIs_5 (by decide) ?_
    refine sx_icmp_ge X (by decide) (by decide) (tgt := 37) dX7_whoIs_6 (by decide) (fun h => absurd h (by decide)) (fun _ => ?_)
    refine lv_iload_n X.1.1 X.1.2.1 dX7_whoIs_9 rfl (lv_at hl 1 rfl) ?_
    refine lv_aload_n X.1.1 X.1.2.1 dX7_whoIs_10 rfl (lv_at hl 2 rfl) ?_
    refine sx_get X hP in_X7_whoIs_X7 h91 (by decide) rfl 0 (by decide) lk_X7_whoIs_fieldLink_RX7_7_RaceWatchModel_w_I rfl dX7_whoIs_11 ?_
    refine lv_iconst (v := nI 0) X.1.1 X.1.2.1 dX7_whoIs_14 (by decide) ?_
    refine lv_iload_n X.1.1 X.1.2.1 dX7_whoIs_15 rfl (lv_at hl 0 rfl) ?_
    refine sx_addN X (1) rfl dX7_whoIs_16 ?_
    refine sx_ald X hP h92 (by decide) (1) (by decide) (by decide) dX7_whoIs_17 ?_
    refine lv_iload_n X.1.1 X.1.2.1 dX7_whoIs_18 rfl (lv_at hl 3 rfl) ?_
    refine sx_join (P := fun z => W pp l ee rmX7_whoIs ss mm args below meth kc ss.heap [] 0 0 Q (F0 mm 29 ls (.int z :: .int ((nI (0)) ||| (if (w 0) = (x) then ((nI (1)) <<< ((nI (0)) &&& 31)) else (nI (0)))) :: []))) ((w 1) = (x)) (a := ((nI (1)) <<< ((nI (1)) &&& 31))) (b := (nI (0))) (fun ja jb => ?_) ?_
    · refine lv_icmp_ne X.1.1 X.1.2.1 (tgt := 28) dX7_whoIs_19 (by decide) (fun c19 => ?_) (fun c19 => ?_)
      · refine lv_iconst (v := nI 0) X.1.1 X.1.2.1 dX7_whoIs_28 (by decide) ?_
        exact jb c19
      · refine lv_iconst (v := nI 1) X.1.1 X.1.2.1 dX7_whoIs_22 (by decide) ?_
        refine lv_iload_n X.1.1 X.1.2.1 dX7_whoIs_23 rfl (lv_at hl 0 rfl) ?_
        refine lv_ishl X.1.1 X.1.2.1 dX7_whoIs_24 ?_
        refine lv_goto (tgt := 29) X.1.1 X.1.2.1 dX7_whoIs_25 (by decide) ?_
        exact ja c19
    · refine lv_ior X.1.1 X.1.2.1 dX7_whoIs_29 ?_
      refine lv_istore_n (lv' := [(2, .int (((nI (0)) ||| (if (w 0) = (x) then ((nI (1)) <<< ((nI (0)) &&& 31)) else (nI (0)))) ||| (if (w 1) = (x) then ((nI (1)) <<< ((nI (1)) &&& 31)) else (nI (0))))), (3, .int (nI 1)), (0, rf G 91), (1, .int (x))]) X.1.1 X.1.2.1 dX7_whoIs_30 rfl hl (by decide) rfl (fun ls hl => ?_)
      refine lv_iinc (v := (nI (2))) (lv' := [(3, .int (nI 2)), (2, .int (((nI (0)) ||| (if (w 0) = (x) then ((nI (1)) <<< ((nI (0)) &&& 31)) else (nI (0)))) ||| (if (w 1) = (x) then ((nI (1)) <<< ((nI (1)) &&& 31)) else (nI (0))))), (0, rf G 91), (1, .int (x))]) X.1.1 X.1.2.1 dX7_whoIs_31 hl (k := 1) rfl (by decide) (by decide) rfl (fun ls hl => ?_)
      refine lv_goto (tgt := 4) X.1.1 X.1.2.1 dX7_whoIs_34 (by decide) ?_
      refine lv_iload_n X.1.1 X.1.2.1 dX7_whoIs_4 rfl (lv_at hl 0 rfl) ?_
      refine lv_iconst (v := nI 4) X.1.1 X.1.2.1 dX7_whoIs_5 (by decide) ?_
      refine sx_icmp_ge X (by decide) (by decide) (tgt := 37) dX7_whoIs_6 (by decide) (fun h => absurd h (by decide)) (fun _ => ?_)
      refine lv_iload_n X.1.1 X.1.2.1 dX7_whoIs_9 rfl (lv_at hl 1 rfl) ?_
      refine lv_aload_n X.1.1 X.1.2.1 dX7_whoIs_10 rfl (lv_at hl 2 rfl) ?_
      refine sx_get X hP in_X7_whoIs_X7 h91 (by decide) rfl 0 (by decide) lk_X7_whoIs_fieldLink_RX7_7_RaceWatchModel_w_I rfl dX7_whoIs_11 ?_
      refine lv_iconst (v := nI 0) X.1.1 X.1.2.1 dX7_whoIs_14 (by decide) ?_
      refine lv_iload_n X.1.1 X.1.2.1 dX7_whoIs_15 rfl (lv_at hl 0 rfl) ?_
      refine sx_addN X (2) rfl dX7_whoIs_16 ?_
      refine sx_ald X hP h92 (by decide) (2) (by decide) (by decide) dX7_whoIs_17 ?_
      refine lv_iload_n X.1.1 X.1.2.1 dX7_whoIs_18 rfl (lv_at hl 3 rfl) ?_
      refine sx_join (P := fun z => W pp l ee rmX7_whoIs ss mm args below meth kc ss.heap [] 0 0 Q (F0 mm 29 ls (.int z :: .int (((nI (0)) ||| (if (w 0) = (x) then ((nI (1)) <<< ((nI (0)) &&& 31)) else (nI (0)))) ||| (if (w 1) = (x) then ((nI (1)) <<< ((nI (1)) &&& 31)) else (nI (0)))) :: []))) ((w 2) = (x)) (a := ((nI (1)) <<< ((nI (2)) &&& 31))) (b := (nI (0))) (fun ja jb => ?_) ?_
      · refine lv_icmp_ne X.1.1 X.1.2.1 (tgt := 28) dX7_whoIs_19 (by decide) (fun c19 => ?_) (fun c19 => ?_)
        · refine lv_iconst (v := nI 0) X.1.1 X.1.2.1 dX7_whoIs_28 (by decide) ?_
          exact jb c19
        · refine lv_iconst (v := nI 1) X.1.1 X.1.2.1 dX7_whoIs_22 (by decide) ?_
          refine lv_iload_n X.1.1 X.1.2.1 dX7_whoIs_23 rfl (lv_at hl 0 rfl) ?_
          refine lv_ishl X.1.1 X.1.2.1 dX7_whoIs_24 ?_
          refine lv_goto (tgt := 29) X.1.1 X.1.2.1 dX7_whoIs_25 (by decide) ?_
          exact ja c19
      · refine lv_ior X.1.1 X.1.2.1 dX7_whoIs_29 ?_
        refine lv_istore_n (lv' := [(2, .int ((((nI (0)) ||| (if (w 0) = (x) then ((nI (1)) <<< ((nI (0)) &&& 31)) else (nI (0)))) ||| (if (w 1) = (x) then ((nI (1)) <<< ((nI (1)) &&& 31)) else (nI (0)))) ||| (if (w 2) = (x) then ((nI (1)) <<< ((nI (2)) &&& 31)) else (nI (0))))), (3, .int (nI 2)), (0, rf G 91), (1, .int (x))]) X.1.1 X.1.2.1 dX7_whoIs_30 rfl hl (by decide) rfl (fun ls hl => ?_)
        refine lv_iinc (v := (nI (3))) (lv' := [(3, .int (nI 3)), (2, .int ((((nI (0)) ||| (if (w 0) = (x) then ((nI (1)) <<< ((nI (0)) &&& 31)) else (nI (0)))) ||| (if (w 1) = (x) then ((nI (1)) <<< ((nI (1)) &&& 31)) else (nI (0)))) ||| (if (w 2) = (x) then ((nI (1)) <<< ((nI (2)) &&& 31)) else (nI (0))))), (0, rf G 91), (1, .int (x))]) X.1.1 X.1.2.1 dX7_whoIs_31 hl (k := 1) rfl (by decide) (by decide) rfl (fun ls hl => ?_)
        refine lv_goto (tgt := 4) X.1.1 X.1.2.1 dX7_whoIs_34 (by decide) ?_
        refine lv_iload_n X.1.1 X.1.2.1 dX7_whoIs_4 rfl (lv_at hl 0 rfl) ?_
        refine lv_iconst (v := nI 4) X.1.1 X.1.2.1 dX7_whoIs_5 (by decide) ?_
        refine sx_icmp_ge X (by decide) (by decide) (tgt := 37) dX7_whoIs_6 (by decide) (fun h => absurd h (by decide)) (fun _ => ?_)
        refine lv_iload_n X.1.1 X.1.2.1 dX7_whoIs_9 rfl (lv_at hl 1 rfl) ?_
        refine lv_aload_n X.1.1 X.1.2.1 dX7_whoIs_10 rfl (lv_at hl 2 rfl) ?_
        refine sx_get X hP in_X7_whoIs_X7 h91 (by decide) rfl 0 (by decide) lk_X7_whoIs_fieldLink_RX7_7_RaceWatchModel_w_I rfl dX7_whoIs_11 ?_
        refine lv_iconst (v := nI 0) X.1.1 X.1.2.1 dX7_whoIs_14 (by decide) ?_
        refine lv_iload_n X.1.1 X.1.2.1 dX7_whoIs_15 rfl (lv_at hl 0 rfl) ?_
        refine sx_addN X (3) rfl dX7_whoIs_16 ?_
        refine sx_ald X hP h92 (by decide) (3) (by decide) (by decide) dX7_whoIs_17 ?_
        refine lv_iload_n X.1.1 X.1.2.1 dX7_whoIs_18 rfl (lv_at hl 3 rfl) ?_
        refine sx_join (P := fun z => W pp l ee rmX7_whoIs ss mm args below meth kc ss.heap [] 0 0 Q (F0 mm 29 ls (.int z :: .int ((((nI (0)) ||| (if (w 0) = (x) then ((nI (1)) <<< ((nI (0)) &&& 31)) else (nI (0)))) ||| (if (w 1) = (x) then ((nI (1)) <<< ((nI (1)) &&& 31)) else (nI (0)))) ||| (if (w 2) = (x) then ((nI (1)) <<< ((nI (2)) &&& 31)) else (nI (0)))) :: []))) ((w 3) = (x)) (a := ((nI (1)) <<< ((nI (3)) &&& 31))) (b := (nI (0))) (fun ja jb => ?_) ?_
        · refine lv_icmp_ne X.1.1 X.1.2.1 (tgt := 28) dX7_whoIs_19 (by decide) (fun c19 => ?_) (fun c19 => ?_)
          · refine lv_iconst (v := nI 0) X.1.1 X.1.2.1 dX7_whoIs_28 (by decide) ?_
            exact jb c19
          · refine lv_iconst (v := nI 1) X.1.1 X.1.2.1 dX7_whoIs_22 (by decide) ?_
            refine lv_iload_n X.1.1 X.1.2.1 dX7_whoIs_23 rfl (lv_at hl 0 rfl) ?_
            refine lv_ishl X.1.1 X.1.2.1 dX7_whoIs_24 ?_
            refine lv_goto (tgt := 29) X.1.1 X.1.2.1 dX7_whoIs_25 (by decide) ?_
            exact ja c19
        · refine lv_ior X.1.1 X.1.2.1 dX7_whoIs_29 ?_
          refine lv_istore_n (lv' := [(2, .int (((((nI (0)) ||| (if (w 0) = (x) then ((nI (1)) <<< ((nI (0)) &&& 31)) else (nI (0)))) ||| (if (w 1) = (x) then ((nI (1)) <<< ((nI (1)) &&& 31)) else (nI (0)))) ||| (if (w 2) = (x) then ((nI (1)) <<< ((nI (2)) &&& 31)) else (nI (0)))) ||| (if (w 3) = (x) then ((nI (1)) <<< ((nI (3)) &&& 31)) else (nI (0))))), (3, .int (nI 3)), (0, rf G 91), (1, .int (x))]) X.1.1 X.1.2.1 dX7_whoIs_30 rfl hl (by decide) rfl (fun ls hl => ?_)
          refine lv_iinc (v := (nI (4))) (lv' := [(3, .int (nI 4)), (2, .int (((((nI (0)) ||| (if (w 0) = (x) then ((nI (1)) <<< ((nI (0)) &&& 31)) else (nI (0)))) ||| (if (w 1) = (x) then ((nI (1)) <<< ((nI (1)) &&& 31)) else (nI (0)))) ||| (if (w 2) = (x) then ((nI (1)) <<< ((nI (2)) &&& 31)) else (nI (0)))) ||| (if (w 3) = (x) then ((nI (1)) <<< ((nI (3)) &&& 31)) else (nI (0))))), (0, rf G 91), (1, .int (x))]) X.1.1 X.1.2.1 dX7_whoIs_31 hl (k := 1) rfl (by decide) (by decide) rfl (fun ls hl => ?_)
          refine lv_goto (tgt := 4) X.1.1 X.1.2.1 dX7_whoIs_34 (by decide) ?_
          refine lv_iload_n X.1.1 X.1.2.1 dX7_whoIs_4 rfl (lv_at hl 0 rfl) ?_
          refine lv_iconst (v := nI 4) X.1.1 X.1.2.1 dX7_whoIs_5 (by decide) ?_
          refine sx_icmp_ge X (by decide) (by decide) (tgt := 37) dX7_whoIs_6 (by decide) (fun _ => ?_) (fun h => absurd h (by decide))
          refine lv_iload_n X.1.1 X.1.2.1 dX7_whoIs_37 rfl (lv_at hl 1 rfl) ?_
          rw [hQ]
          exact sx_iret X rfl hs rfl hP dX7_whoIs_38 (⟨rfl, by simp only [setF4, Nat.reduceAdd]; (repeat' split) <;> first | rfl | (exfalso; simp_all; done) | simp_all⟩)
theorem ys_X7_locksHeld : yX7_locksHeld.cls ≠ "java/lang/invoke/MethodHandle" ∧ yX7_locksHeld.cls ≠ "java/lang/invoke/VarHandle" ∧ (parseMethodDescriptor yX7_locksHeld.desc).map (fun d => d.parameters.length) = some 0 := by decide +kernel
theorem yv_X7_locksHeld : yX7_locksHeld.cls = RX7 ∧ yX7_locksHeld.cls ≠ "java/lang/invoke/MethodHandle" ∧ yX7_locksHeld.cls ≠ "java/lang/invoke/VarHandle" ∧ (parseMethodDescriptor yX7_locksHeld.desc).map (fun d => d.parameters.length) = some 0 := ⟨rfl, ys_X7_locksHeld⟩
theorem in_X7_locksHeld_X7 : ∀ w ∈ wsX70, w ∈ wsX7_locksHeld := fun _ h => List.mem_cons_of_mem _ (List.mem_append_right _ (h))
theorem lk_X7_locksHeld_fieldLink_RX7_7_RaceWatchModel_w_I : (.fieldLink RX7 7 "RaceWatchModel" "w" "[I" : Cond) ∈ wsX7_locksHeld := List.mem_cons_of_mem _ (List.mem_append_left _ (List.mem_of_getElem? (i := 0) rfl))
abbrev rmX7_locksHeld : Room := { frames := 0, cells := 0, slots := 0, locals := 0 }
set_option maxHeartbeats 4000000 in
set_option maxRecDepth 100000 in
theorem mX7_locksHeld {G : sx_G} (l : Launch) {F : Nat → va_E} {w : Nat → Int32} {of : List Value}  (h91 : F (91) = ob 7 (rf G 92 :: of)) (h92 : F (92) = rI G (4358) (w)) : sx_I G l yX7_locksHeld wsX7_locksHeld rmX7_locksHeld [rf G 91] (97) F (97) (fun r F1 => F = F1 ∧ lockF (fun j => w (40 + j)) = r) := by
  refine sx_enter (cc := cX7_locksHeld) (maxL := 3) (ret := some .int) (own := RX7) (nm := "locksHeld") (by decide) rfl rfl rfl (Nat.le_of_ble_eq_true rfl) ?_
  intro pp ee ss mm args below meth kc ls Q hQ X hs hP hl
  have hl : lv_has ls 3 [(0, rf G 91)] := hl
  refine lv_iconst (v := nI 0) X.1.1 X.1.2.1 dX7_locksHeld_0 (by decide) ?_
  refine lv_istore_n (lv' := [(1, .int (nI 0)), (0, rf G 91)]) X.1.1 X.1.2.1 dX7_locksHeld_1 rfl hl (by decide) rfl (fun ls hl => ?_)
  refine lv_iconst (v := nI 0) X.1.1 X.1.2.1 dX7_locksHeld_2 (by decide) ?_
  refine lv_istore_n (lv' := [(2, .int (nI 0)), (1, .int (nI 0)), (0, rf G 91)]) X.1.1 X.1.2.1 dX7_locksHeld_3 rfl hl (by decide) rfl (fun ls hl => ?_)
  refine lv_iload_n X.1.1 X.1.2.1 dX7_locksHeld_4 rfl (lv_at hl 0 rfl) ?_
  refine lv_iconst (v := nI 3) X.1.1 X.1.2.1 dX7_locksHeld_5 (by decide) ?_
  refine sx_icmp_ge X (by decide) (by decide) (tgt := 38) dX7_locksHeld_6 (by decide) (fun h => absurd h (by decide)) (fun _ => ?_)
  refine lv_iload_n X.1.1 X.1.2.1 dX7_locksHeld_9 rfl (lv_at hl 1 rfl) ?_
  refine lv_aload_n X.1.1 X.1.2.1 dX7_locksHeld_10 rfl (lv_at hl 2 rfl) ?_
  refine sx_get X hP in_X7_locksHeld_X7 h91 (by decide) rfl 0 (by decide) lk_X7_locksHeld_fieldLink_RX7_7_RaceWatchModel_w_I rfl dX7_locksHeld_11 ?_
  refine lv_bipush (v := nI 40) X.1.1 X.1.2.1 dX7_locksHeld_14 (by decide) ?_
  refine lv_iload_n X.1.1 X.1.2.1 dX7_locksHeld_16 rfl (lv_at hl 0 rfl) ?_
  refine sx_addN X (40) rfl dX7_locksHeld_17 ?_
  refine sx_ald X hP h92 (by decide) (40) (by decide) (by decide) dX7_locksHeld_18 ?_
  refine lv_iconst (v := (-1)) X.1.1 X.1.2.1 dX7_locksHeld_19 (by decide) ?_
  refine sx_join (P := fun z => W pp l ee rmX7_locksHeld ss mm args below meth kc ss.heap [] 0 0 Q (F0 mm 30 ls (.int z :: .int (nI 0) :: []))) ((w 40) = (-1)) (a := (nI (0))) (b := ((nI (1)) <<< ((nI (0)) &&& 31))) (fun ja jb => ?_) ?_
  · refine lv_icmp_eq X.1.1 X.1.2.1 (tgt := 29) dX7_locksHeld_20 (by decide) (fun c20 => ?_) (fun c20 => ?_)
    · refine lv_iconst (v := nI 0) X.1.1 X.1.2.1 dX7_locksHeld_29 (by decide) ?_
      exact ja c20
    · refine lv_iconst (v := nI 1) X.1.1 X.1.2.1 dX7_locksHeld_23 (by decide) ?_
      refine lv_iload_n X.1.1 X.1.2.1 dX7_locksHeld_24 rfl (lv_at hl 0 rfl) ?_
      refine lv_ishl X.1.1 X.1.2.1 dX7_locksHeld_25 ?_
      refine lv_goto (tgt := 30) X.1.1 X.1.2.1 dX7_locksHeld_26 (by decide) ?_
      exact jb c20
  · refine lv_ior X.1.1 X.1.2.1 dX7_locksHeld_30 ?_
    refine lv_istore_n (lv' := [(1, .int ((nI (0)) ||| (if (w 40) = (-1) then (nI (0)) else ((nI (1)) <<< ((nI (0)) &&& 31))))), (2, .int (nI 0)), (0, rf G 91)]) X.1.1 X.1.2.1 dX7_locksHeld_31 rfl hl (by decide) rfl (fun ls hl => ?_)
    refine lv_iinc (v := (nI (1))) (lv' := [(2, .int (nI 1)), (1, .int ((nI (0)) ||| (if (w 40) = (-1) then (nI (0)) else ((nI (1)) <<< ((nI (0)) &&& 31))))), (0, rf G 91)]) X.1.1 X.1.2.1 dX7_locksHeld_32 hl (k := 1) rfl (by decide) (by decide) rfl (fun ls hl => ?_)
    refine lv_goto (tgt := 4) X.1.1 X.1.2.1 dX7_locksHeld_35 (by decide) ?_
    refine lv_iload_n X.1.1 X.1.2.1 dX7_locksHeld_4 rfl (lv_at hl 0 rfl) ?_
    refine lv_iconst (v := nI 3) X.1.1 X.1.2.1 dX7_locksHeld_5 (by decide) ?_
    refine sx_icmp_ge X (by decide) (by decide) (tgt := 38) dX7_locksHeld_6 (by decide) (fun h => absurd h (by decide)) (fun _ => ?_)
    refine lv_iload_n X.1.1 X.1.2.1 dX7_locksHeld_9 rfl (lv_at hl 1 rfl) ?_
    refine lv_aload_n X.1.1 X.1.2.1 dX7_locksHeld_10 rfl (lv_at hl 2 rfl) ?_
    refine sx_get X hP in_X7_locksHeld_X7 h91 (by decide) rfl 0 (by decide) lk_X7_locksHeld_fieldLink_RX7_7_RaceWatchModel_w_I rfl dX7_locksHeld_11 ?_
    refine lv_bipush (v := nI 40) X.1.1 X.1.2.1 dX7_locksHeld_14 (by decide) ?_
    refine lv_iload_n X.1.1 X.1.2.1 dX7_locksHeld_16 rfl (lv_at hl 0 rfl) ?_
    refine sx_addN X (41) rfl dX7_locksHeld_17 ?_
    refine sx_ald X hP h92 (by decide) (41) (by decide) (by decide) dX7_locksHeld_18 ?_
    refine lv_iconst (v := (-1)) X.1.1 X.1.2.1 dX7_locksHeld_19 (by decide) ?_
    refine sx_join (P := fun z => W pp l ee rmX7_locksHeld ss mm args below meth kc ss.heap [] 0 0 Q (F0 mm 30 ls (.int z :: .int ((nI (0)) ||| (if (w 40) = (-1) then (nI (0)) else ((nI (1)) <<< ((nI (0)) &&& 31)))) :: []))) ((w 41) = (-1)) (a := (nI (0))) (b := ((nI (1)) <<< ((nI (1)) &&& 31))) (fun ja jb => ?_) ?_
    · refine lv_icmp_eq X.1.1 X.1.2.1 (tgt := 29) dX7_locksHeld_20 (by decide) (fun c20 => ?_) (fun c20 => ?_)
      · refine lv_iconst (v := nI 0) X.1.1 X.1.2.1 dX7_locksHeld_29 (by decide) ?_
        exact ja c20
      · refine lv_iconst (v := nI 1) X.1.1 X.1.2.1 dX7_locksHeld_23 (by decide) ?_
        refine lv_iload_n X.1.1 X.1.2.1 dX7_locksHeld_24 rfl (lv_at hl 0 rfl) ?_
        refine lv_ishl X.1.1 X.1.2.1 dX7_locksHeld_25 ?_
        refine lv_goto (tgt := 30) X.1.1 X.1.2.1 dX7_locksHeld_26 (by decide) ?_
        exact jb c20
    · refine lv_ior X.1.1 X.1.2.1 dX7_locksHeld_30 ?_
      refine lv_istore_n (lv' := [(1, .int (((nI (0)) ||| (if (w 40) = (-1) then (nI (0)) else ((nI (1)) <<< ((nI (0)) &&& 31)))) ||| (if (w 41) = (-1) then (nI (0)) else ((nI (1)) <<< ((nI (1)) &&& 31))))), (2, .int (nI 1)), (0, rf G 91)]) X.1.1 X.1.2.1 dX7_locksHeld_31 rfl hl (by decide) rfl (fun ls hl => ?_)
      refine lv_iinc (v := (nI (2))) (lv' := [(2, .int (nI 2)), (1, .int (((nI (0)) ||| (if (w 40) = (-1) then (nI (0)) else ((nI (1)) <<< ((nI (0)) &&& 31)))) ||| (if (w 41) = (-1) then (nI (0)) else ((nI (1)) <<< ((nI (1)) &&& 31))))), (0, rf G 91)]) X.1.1 X.1.2.1 dX7_locksHeld_32 hl (k := 1) rfl (by decide) (by decide) rfl (fun ls hl => ?_)
      refine lv_goto (tgt := 4) X.1.1 X.1.2.1 dX7_locksHeld_35 (by decide) ?_
      refine lv_iload_n X.1.1 X.1.2.1 dX7_locksHeld_4 rfl (lv_at hl 0 rfl) ?_
      refine lv_iconst (v := nI 3) X.1.1 X.1.2.1 dX7_locksHeld_5 (by decide) ?_
      refine sx_icmp_ge X (by decide) (by decide) (tgt := 38) dX7_locksHeld_6 (by decide) (fun h => absurd h (by decide)) (fun _ => ?_)
      refine lv_iload_n X.1.1 X.1.2.1 dX7_locksHeld_9 rfl (lv_at hl 1 rfl) ?_
      refine lv_aload_n X.1.1 X.1.2.1 dX7_locksHeld_10 rfl (lv_at hl 2 rfl) ?_
      refine sx_get X hP in_X7_locksHeld_X7 h91 (by decide) rfl 0 (by decide) lk_X7_locksHeld_fieldLink_RX7_7_RaceWatchModel_w_I rfl dX7_locksHeld_11 ?_
      refine lv_bipush (v := nI 40) X.1.1 X.1.2.1 dX7_locksHeld_14 (by decide) ?_
      refine lv_iload_n X.1.1 X.1.2.1 dX7_locksHeld_16 rfl (lv_at hl 0 rfl) ?_
      refine sx_addN X (42) rfl dX7_locksHeld_17 ?_
      refine sx_ald X hP h92 (by decide) (42) (by decide) (by decide) dX7_locksHeld_18 ?_
      refine lv_iconst (v := (-1)) X.1.1 X.1.2.1 dX7_locksHeld_19 (by decide) ?_
      refine sx_join (P := fun z => W pp l ee rmX7_locksHeld ss mm args below meth kc ss.heap [] 0 0 Q (F0 mm 30 ls (.int z :: .int (((nI (0)) ||| (if (w 40) = (-1) then (nI (0)) else ((nI (1)) <<< ((nI (0)) &&& 31)))) ||| (if (w 41) = (-1) then (nI (0)) else ((nI (1)) <<< ((nI (1)) &&& 31)))) :: []))) ((w 42) = (-1)) (a := (nI (0))) (b := ((nI (1)) <<< ((nI (2)) &&& 31))) (fun ja jb => ?_) ?_
      · refine lv_icmp_eq X.1.1 X.1.2.1 (tgt := 29) dX7_locksHeld_20 (by decide) (fun c20 => ?_) (fun c20 => ?_)
        · refine lv_iconst (v := nI 0) X.1.1 X.1.2.1 dX7_locksHeld_29 (by decide) ?_
          exact ja c20
        · refine lv_iconst (v := nI 1) X.1.1 X.1.2.1 dX7_locksHeld_23 (by decide) ?_
          refine lv_iload_n X.1.1 X.1.2.1 dX7_locksHeld_24 rfl (lv_at hl 0 rfl) ?_
          refine lv_ishl X.1.1 X.1.2.1 dX7_locksHeld_25 ?_
          refine lv_goto (tgt := 30) X.1.1 X.1.2.1 dX7_locksHeld_26 (by decide) ?_
          exact jb c20
      · refine lv_ior X.1.1 X.1.2.1 dX7_locksHeld_30 ?_
        refine lv_istore_n (lv' := [(1, .int ((((nI (0)) ||| (if (w 40) = (-1) then (nI (0)) else ((nI (1)) <<< ((nI (0)) &&& 31)))) ||| (if (w 41) = (-1) then (nI (0)) else ((nI (1)) <<< ((nI (1)) &&& 31)))) ||| (if (w 42) = (-1) then (nI (0)) else ((nI (1)) <<< ((nI (2)) &&& 31))))), (2, .int (nI 2)), (0, rf G 91)]) X.1.1 X.1.2.1 dX7_locksHeld_31 rfl hl (by decide) rfl (fun ls hl => ?_)
        refine lv_iinc (v := (nI (3))) (lv' := [(2, .int (nI 3)), (1, .int ((((nI (0)) ||| (if (w 40) = (-1) then (nI (0)) else ((nI (1)) <<< ((nI (0)) &&& 31)))) ||| (if (w 41) = (-1) then (nI (0)) else ((nI (1)) <<< ((nI (1)) &&& 31)))) ||| (if (w 42) = (-1) then (nI (0)) else ((nI (1)) <<< ((nI (2)) &&& 31))))), (0, rf G 91)]) X.1.1 X.1.2.1 dX7_locksHeld_32 hl (k := 1) rfl (by decide) (by decide) rfl (fun ls hl => ?_)
        refine lv_goto (tgt := 4) X.1.1 X.1.2.1 dX7_locksHeld_35 (by decide) ?_
        refine lv_iload_n X.1.1 X.1.2.1 dX7_locksHeld_4 rfl (lv_at hl 0 rfl) ?_
        refine lv_iconst (v := nI 3) X.1.1 X.1.2.1 dX7_locksHeld_5 (by decide) ?_
        refine sx_icmp_ge X (by decide) (by decide) (tgt := 38) dX7_locksHeld_6 (by decide) (fun _ => ?_) (fun h => absurd h (by decide))
        refine lv_iload_n X.1.1 X.1.2.1 dX7_locksHeld_38 rfl (lv_at hl 1 rfl) ?_
        rw [hQ]
        exact sx_iret X rfl hs rfl hP dX7_locksHeld_39 (⟨rfl, by simp only [lockF, Nat.reduceAdd]; (repeat' split) <;> first | rfl | (exfalso; simp_all; done) | simp_all⟩)
theorem ys_X7_holder : yX7_holder.cls ≠ "java/lang/invoke/MethodHandle" ∧ yX7_holder.cls ≠ "java/lang/invoke/VarHandle" ∧ (parseMethodDescriptor yX7_holder.desc).map (fun d => d.parameters.length) = some 1 := by decide +kernel
theorem yv_X7_holder : yX7_holder.cls = RX7 ∧ yX7_holder.cls ≠ "java/lang/invoke/MethodHandle" ∧ yX7_holder.cls ≠ "java/lang/invoke/VarHandle" ∧ (parseMethodDescriptor yX7_holder.desc).map (fun d => d.parameters.length) = some 1 := ⟨rfl, ys_X7_holder⟩
theorem in_X7_holder_X7 : ∀ w ∈ wsX70, w ∈ wsX7_holder := fun _ h => List.mem_cons_of_mem _ (List.mem_append_right _ (h))
theorem lk_X7_holder_fieldLink_RX7_7_RaceWatchModel_w_I : (.fieldLink RX7 7 "RaceWatchModel" "w" "[I" : Cond) ∈ wsX7_holder := List.mem_cons_of_mem _ (List.mem_append_left _ (List.mem_of_getElem? (i := 0) rfl))
theorem lk_X7_holder_constant_RX7_97_1000000001 : (.constant RX7 97 (-1000000001) : Cond) ∈ wsX7_holder := List.mem_cons_of_mem _ (List.mem_append_left _ (List.mem_of_getElem? (i := 1) rfl))
abbrev rmX7_holder : Room := { frames := 2, cells := 0, slots := 0, locals := 45 }
set_option maxHeartbeats 4000000 in
set_option maxRecDepth 100000 in
theorem mX7_holder {G : sx_G} (l : Launch) {F : Nat → va_E} {w : Nat → Int32} {of : List Value} {x : Int32} (h91 : F (91) = ob 7 (rf G 92 :: of)) (h92 : F (92) = rI G (4358) (w)) : sx_I G l yX7_holder wsX7_holder rmX7_holder [rf G 91, .int (x)] (97) F (97) (fun r F1 => F = F1 ∧ holdF w x = r) := by
  refine sx_enter (cc := cX7_holder) (maxL := 2) (ret := some .int) (own := RX7) (nm := "holder") (by decide) rfl rfl rfl (Nat.le_of_ble_eq_true rfl) ?_
  intro pp ee ss mm args below meth kc ls Q hQ X hs hP hl
  have hl : lv_has ls 2 [(0, rf G 91), (1, .int (x))] := hl
  refine lv_iload_n X.1.1 X.1.2.1 dX7_holder_0 rfl (lv_at hl 1 rfl) ?_
  refine sx_csI (As := [.int (x)]) (rest := []) X (mX7_isLock l (x := (x))) gX7_holder_X7_isLock rfl ys_X7_isLock ⟨Nat.le_of_ble_eq_true rfl, Nat.le_of_ble_eq_true rfl⟩ hl.1 rfl (Nat.le_of_ble_eq_true rfl) dX7_holder_1 ⟨Nat.le_of_ble_eq_true rfl, Nat.le_of_ble_eq_true rfl⟩ hs rfl hP (fun r1 F1 H1 l1 hp hP => ?_)
  obtain ⟨rfl, ⟨b2, rfl⟩ | ⟨b2, rfl⟩⟩ := hp
  · obtain ⟨j, hj, rfl⟩ := b2
    refine sx_if_eq X (by decide) (tgt := 19) dX7_holder_4 (by decide) (fun h => absurd h (by decide)) (fun _ => ?_)
    refine lv_aload_n X.1.1 X.1.2.1 dX7_holder_7 rfl (lv_at hl 0 rfl) ?_
    refine sx_get X hP in_X7_holder_X7 h91 (by decide) rfl 0 (by decide) lk_X7_holder_fieldLink_RX7_7_RaceWatchModel_w_I rfl dX7_holder_8 ?_
    refine lv_bipush (v := nI 40) X.1.1 X.1.2.1 dX7_holder_11 (by decide) ?_
    refine lv_iload_n X.1.1 X.1.2.1 dX7_holder_13 rfl (lv_at hl 1 rfl) ?_
    refine sx_addN X (40 + j) (by omega) dX7_holder_14 ?_
    refine sx_ald X hP h92 (by decide) (40 + j) (by omega) (by decide) dX7_holder_15 ?_
    refine lv_goto (tgt := 21) X.1.1 X.1.2.1 dX7_holder_16 (by decide) ?_
    rw [hQ]
    exact sx_iret X rfl hs rfl hP dX7_holder_21 (⟨rfl, by unfold holdF; rw [cif_t ⟨j, hj, rfl⟩, nI_clamp (by omega)]⟩)
  · refine sx_if_eq X (by decide) (tgt := 19) dX7_holder_4 (by decide) (fun _ => ?_) (fun h => absurd h (by decide))
    refine lv_ldc (v := -1000000001) X.1.1 X.1.2.1 X.1.2.2.2.1 (X.1.2.2.2.2 _ lk_X7_holder_constant_RX7_97_1000000001) dX7_holder_19 ?_
    rw [hQ]
    exact sx_iret X rfl hs rfl hP dX7_holder_21 (⟨rfl, by unfold holdF; rw [cif_f b2]⟩)
theorem ys_X7_clock : yX7_clock.cls ≠ "java/lang/invoke/MethodHandle" ∧ yX7_clock.cls ≠ "java/lang/invoke/VarHandle" ∧ (parseMethodDescriptor yX7_clock.desc).map (fun d => d.parameters.length) = some 3 := by decide +kernel
theorem yv_X7_clock : yX7_clock.cls = RX7 ∧ yX7_clock.cls ≠ "java/lang/invoke/MethodHandle" ∧ yX7_clock.cls ≠ "java/lang/invoke/VarHandle" ∧ (parseMethodDescriptor yX7_clock.desc).map (fun d => d.parameters.length) = some 3 := ⟨rfl, ys_X7_clock⟩
theorem in_X7_clock_X7 : ∀ w ∈ wsX70, w ∈ wsX7_clock := fun _ h => List.mem_cons_of_mem _ (List.mem_append_right _ (h))
theorem lk_X7_clock_fieldLink_RX7_7_RaceWatchModel_w_I : (.fieldLink RX7 7 "RaceWatchModel" "w" "[I" : Cond) ∈ wsX7_clock := List.mem_cons_of_mem _ (List.mem_append_left _ (List.mem_of_getElem? (i := 1) rfl))
theorem lk_X7_clock_constant_RX7_97_1000000001 : (.constant RX7 97 (-1000000001) : Cond) ∈ wsX7_clock := List.mem_cons_of_mem _ (List.mem_append_left _ (List.mem_of_getElem? (i := 0) rfl))
theorem lk_X7_clock_constant_RX7_98_1000000002 : (.constant RX7 98 (-1000000002) : Cond) ∈ wsX7_clock := List.mem_cons_of_mem _ (List.mem_append_left _ (List.mem_of_getElem? (i := 2) rfl))
abbrev rmX7_clock : Room := { frames := 2, cells := 0, slots := 0, locals := 45 }
set_option maxHeartbeats 4000000 in
set_option maxRecDepth 100000 in
theorem mX7_clock {G : sx_G} (l : Launch) {F : Nat → va_E} {w : Nat → Int32} {of : List Value} {o x th : Int32} (h91 : F (91) = ob 7 (rf G 92 :: of)) (h92 : F (92) = rI G (4358) (w)) : sx_I G l yX7_clock wsX7_clock rmX7_clock [rf G 91, .int (o), .int (x), .int (th)] (97) F (97) (fun r F1 => F = F1 ∧ clockF w o x th = r) := by
  refine sx_enter (cc := cX7_clock) (maxL := 4) (ret := some .int) (own := RX7) (nm := "clock") (by decide) rfl rfl rfl (Nat.le_of_ble_eq_true rfl) ?_
  intro pp ee ss mm args below meth kc ls Q hQ X hs hP hl
  have hl : lv_has ls 4 [(0, rf G 91), (1, .int (o)), (2, .int (x)), (3, .int (th))] := hl
  refine lv_iload_n X.1.1 X.1.2.1 dX7_clock_0 rfl (lv_at hl 3 rfl) ?_
  refine sx_csI (As := [.int (th)]) (rest := []) X (mX7_isThread l (x := (th))) gX7_clock_X7_isThread rfl ys_X7_isThread ⟨Nat.le_of_ble_eq_true rfl, Nat.le_of_ble_eq_true rfl⟩ hl.1 rfl (Nat.le_of_ble_eq_true rfl) dX7_clock_1 ⟨Nat.le_of_ble_eq_true rfl, Nat.le_of_ble_eq_true rfl⟩ hs rfl hP (fun r1 F1 H1 l1 hp hP => ?_)
  obtain ⟨rfl, ⟨b2, rfl⟩ | ⟨b2, rfl⟩⟩ := hp
  · obtain ⟨t, ht, rfl⟩ := b2
    refine sx_if_ne X (by decide) (tgt := 10) dX7_clock_4 (by decide) (fun _ => ?_) (fun h => absurd h (by decide))
    refine lv_iload_n X.1.1 X.1.2.1 dX7_clock_10 rfl (lv_at hl 1 rfl) ?_
    rcases sx_three o with rfl | rfl | rfl | ho
    · refine lv_tableIn (off := 25) (tgt := 36) X.1.1 X.1.2.1 dX7_clock_11 (by decide) (by decide) (by decide) (by decide) ?_
      refine lv_iload_n X.1.1 X.1.2.1 dX7_clock_36 rfl (lv_at hl 2 rfl) ?_
      refine sx_csI (As := [.int (x)]) (rest := []) X (mX7_isThread l (x := (x))) gX7_clock_X7_isThread rfl ys_X7_isThread ⟨Nat.le_of_ble_eq_true rfl, Nat.le_of_ble_eq_true rfl⟩ hl.1 rfl (Nat.le_of_ble_eq_true rfl) dX7_clock_37 ⟨Nat.le_of_ble_eq_true rfl, Nat.le_of_ble_eq_true rfl⟩ hs rfl hP (fun r3 F3 H3 l3 hp hP => ?_)
      obtain ⟨rfl, ⟨b4, rfl⟩ | ⟨b4, rfl⟩⟩ := hp
      · obtain ⟨j, hj, rfl⟩ := b4
        refine sx_if_eq X (by decide) (tgt := 58) dX7_clock_40 (by decide) (fun h => absurd h (by decide)) (fun _ => ?_)
        refine lv_aload_n X.1.1 X.1.2.1 dX7_clock_43 rfl (lv_at hl 0 rfl) ?_
        refine sx_get X hP in_X7_clock_X7 h91 (by decide) rfl 0 (by decide) lk_X7_clock_fieldLink_RX7_7_RaceWatchModel_w_I rfl dX7_clock_44 ?_
        refine lv_iconst (v := nI 4) X.1.1 X.1.2.1 dX7_clock_47 (by decide) ?_
        refine lv_iconst (v := nI 4) X.1.1 X.1.2.1 dX7_clock_48 (by decide) ?_
        refine lv_iload_n X.1.1 X.1.2.1 dX7_clock_49 rfl (lv_at hl 2 rfl) ?_
        refine sx_mulN X (4 * j) (by omega) dX7_clock_50 ?_
        refine sx_addN X (4 + 4 * j) (by omega) dX7_clock_51 ?_
        refine lv_iload_n X.1.1 X.1.2.1 dX7_clock_52 rfl (lv_at hl 3 rfl) ?_
        refine sx_addN X (4 + 4 * j + t) (by omega) dX7_clock_53 ?_
        refine sx_ald X hP h92 (by decide) (4 + 4 * j + t) (by omega) (by decide) dX7_clock_54 ?_
        refine lv_goto (tgt := 60) X.1.1 X.1.2.1 dX7_clock_55 (by decide) ?_
        rw [hQ]
        exact sx_iret X rfl hs rfl hP dX7_clock_60 (⟨rfl, by unfold clockF; rw [cif_f (fun q => q ⟨t, ht, rfl⟩), nI_clamp (by omega), if_pos rfl, cif_t ⟨j, hj, rfl⟩, nI_clamp (by omega)]⟩)
      · refine sx_if_eq X (by decide) (tgt := 58) dX7_clock_40 (by decide) (fun _ => ?_) (fun h => absurd h (by decide))
        refine lv_ldc (v := -1000000001) X.1.1 X.1.2.1 X.1.2.2.2.1 (X.1.2.2.2.2 _ lk_X7_clock_constant_RX7_97_1000000001) dX7_clock_58 ?_
        rw [hQ]
        exact sx_iret X rfl hs rfl hP dX7_clock_60 (⟨rfl, by unfold clockF; rw [cif_f (fun q => q ⟨t, ht, rfl⟩), nI_clamp (by omega), if_pos rfl, cif_f b4]⟩)
    · refine lv_tableIn (off := 50) (tgt := 61) X.1.1 X.1.2.1 dX7_clock_11 (by decide) (by decide) (by decide) (by decide) ?_
      refine lv_iload_n X.1.1 X.1.2.1 dX7_clock_61 rfl (lv_at hl 2 rfl) ?_
      refine sx_csI (As := [.int (x)]) (rest := []) X (mX7_isLock l (x := (x))) gX7_clock_X7_isLock rfl ys_X7_isLock ⟨Nat.le_of_ble_eq_true rfl, Nat.le_of_ble_eq_true rfl⟩ hl.1 rfl (Nat.le_of_ble_eq_true rfl) dX7_clock_62 ⟨Nat.le_of_ble_eq_true rfl, Nat.le_of_ble_eq_true rfl⟩ hs rfl hP (fun r5 F5 H5 l5 hp hP => ?_)
      obtain ⟨rfl, ⟨b6, rfl⟩ | ⟨b6, rfl⟩⟩ := hp
      · obtain ⟨j, hj, rfl⟩ := b6
        refine sx_if_eq X (by decide) (tgt := 84) dX7_clock_65 (by decide) (fun h => absurd h (by decide)) (fun _ => ?_)
        refine lv_aload_n X.1.1 X.1.2.1 dX7_clock_68 rfl (lv_at hl 0 rfl) ?_
        refine sx_get X hP in_X7_clock_X7 h91 (by decide) rfl 0 (by decide) lk_X7_clock_fieldLink_RX7_7_RaceWatchModel_w_I rfl dX7_clock_69 ?_
        refine lv_bipush (v := nI 20) X.1.1 X.1.2.1 dX7_clock_72 (by decide) ?_
        refine lv_iconst (v := nI 4) X.1.1 X.1.2.1 dX7_clock_74 (by decide) ?_
        refine lv_iload_n X.1.1 X.1.2.1 dX7_clock_75 rfl (lv_at hl 2 rfl) ?_
        refine sx_mulN X (4 * j) (by omega) dX7_clock_76 ?_
        refine sx_addN X (20 + 4 * j) (by omega) dX7_clock_77 ?_
        refine lv_iload_n X.1.1 X.1.2.1 dX7_clock_78 rfl (lv_at hl 3 rfl) ?_
        refine sx_addN X (20 + 4 * j + t) (by omega) dX7_clock_79 ?_
        refine sx_ald X hP h92 (by decide) (20 + 4 * j + t) (by omega) (by decide) dX7_clock_80 ?_
        refine lv_goto (tgt := 86) X.1.1 X.1.2.1 dX7_clock_81 (by decide) ?_
        rw [hQ]
        exact sx_iret X rfl hs rfl hP dX7_clock_86 (⟨rfl, by unfold clockF; rw [cif_f (fun q => q ⟨t, ht, rfl⟩), nI_clamp (by omega), if_neg (by decide), if_pos rfl, cif_t ⟨j, hj, rfl⟩, nI_clamp (by omega)]⟩)
      · refine sx_if_eq X (by decide) (tgt := 84) dX7_clock_65 (by decide) (fun _ => ?_) (fun h => absurd h (by decide))
        refine lv_ldc (v := -1000000001) X.1.1 X.1.2.1 X.1.2.2.2.1 (X.1.2.2.2.2 _ lk_X7_clock_constant_RX7_97_1000000001) dX7_clock_84 ?_
        rw [hQ]
        exact sx_iret X rfl hs rfl hP dX7_clock_86 (⟨rfl, by unfold clockF; rw [cif_f (fun q => q ⟨t, ht, rfl⟩), nI_clamp (by omega), if_neg (by decide), if_pos rfl, cif_f b6]⟩)
    · refine lv_tableIn (off := 76) (tgt := 87) X.1.1 X.1.2.1 dX7_clock_11 (by decide) (by decide) (by decide) (by decide) ?_
      refine lv_iload_n X.1.1 X.1.2.1 dX7_clock_87 rfl (lv_at hl 2 rfl) ?_
      refine sx_csI (As := [.int (x)]) (rest := []) X (mX7_isSeen l (x := (x))) gX7_clock_X7_isSeen rfl ys_X7_isSeen ⟨Nat.le_of_ble_eq_true rfl, Nat.le_of_ble_eq_true rfl⟩ hl.1 rfl (Nat.le_of_ble_eq_true rfl) dX7_clock_88 ⟨Nat.le_of_ble_eq_true rfl, Nat.le_of_ble_eq_true rfl⟩ hs rfl hP (fun r7 F7 H7 l7 hp hP => ?_)
      obtain ⟨rfl, ⟨b8, rfl⟩ | ⟨b8, rfl⟩⟩ := hp
      · obtain ⟨j, hj, rfl⟩ := b8
        refine sx_if_eq X (by decide) (tgt := 110) dX7_clock_91 (by decide) (fun h => absurd h (by decide)) (fun _ => ?_)
        refine lv_aload_n X.1.1 X.1.2.1 dX7_clock_94 rfl (lv_at hl 0 rfl) ?_
        refine sx_get X hP in_X7_clock_X7 h91 (by decide) rfl 0 (by decide) lk_X7_clock_fieldLink_RX7_7_RaceWatchModel_w_I rfl dX7_clock_95 ?_
        refine lv_bipush (v := nI 32) X.1.1 X.1.2.1 dX7_clock_98 (by decide) ?_
        refine lv_iconst (v := nI 4) X.1.1 X.1.2.1 dX7_clock_100 (by decide) ?_
        refine lv_iload_n X.1.1 X.1.2.1 dX7_clock_101 rfl (lv_at hl 2 rfl) ?_
        refine sx_mulN X (4 * j) (by omega) dX7_clock_102 ?_
        refine sx_addN X (32 + 4 * j) (by omega) dX7_clock_103 ?_
        refine lv_iload_n X.1.1 X.1.2.1 dX7_clock_104 rfl (lv_at hl 3 rfl) ?_
        refine sx_addN X (32 + 4 * j + t) (by omega) dX7_clock_105 ?_
        refine sx_ald X hP h92 (by decide) (32 + 4 * j + t) (by omega) (by decide) dX7_clock_106 ?_
        refine lv_goto (tgt := 112) X.1.1 X.1.2.1 dX7_clock_107 (by decide) ?_
        rw [hQ]
        exact sx_iret X rfl hs rfl hP dX7_clock_112 (⟨rfl, by unfold clockF; rw [cif_f (fun q => q ⟨t, ht, rfl⟩), nI_clamp (by omega), if_neg (by decide), if_neg (by decide), if_pos rfl, cif_t ⟨j, hj, rfl⟩, nI_clamp (by omega)]⟩)
      · refine sx_if_eq X (by decide) (tgt := 110) dX7_clock_91 (by decide) (fun _ => ?_) (fun h => absurd h (by decide))
        refine lv_ldc (v := -1000000001) X.1.1 X.1.2.1 X.1.2.2.2.1 (X.1.2.2.2.2 _ lk_X7_clock_constant_RX7_97_1000000001) dX7_clock_110 ?_
        rw [hQ]
        exact sx_iret X rfl hs rfl hP dX7_clock_112 (⟨rfl, by unfold clockF; rw [cif_f (fun q => q ⟨t, ht, rfl⟩), nI_clamp (by omega), if_neg (by decide), if_neg (by decide), if_pos rfl, cif_f b8]⟩)
    · refine lv_tableOut (tgt := 113) X.1.1 X.1.2.1 dX7_clock_11 (sx_out ho) (by decide) ?_
      refine lv_ldc (v := -1000000002) X.1.1 X.1.2.1 X.1.2.2.2.1 (X.1.2.2.2.2 _ lk_X7_clock_constant_RX7_98_1000000002) dX7_clock_113 ?_
      rw [hQ]
      exact sx_iret X rfl hs rfl hP dX7_clock_115 (⟨rfl, by unfold clockF; rw [cif_f (fun q => q ⟨t, ht, rfl⟩), nI_clamp (by omega), if_neg ho.1, if_neg ho.2.1, if_neg ho.2.2]⟩)
  · refine sx_if_ne X (by decide) (tgt := 10) dX7_clock_4 (by decide) (fun h => absurd h (by decide)) (fun _ => ?_)
    refine lv_ldc (v := -1000000001) X.1.1 X.1.2.1 X.1.2.2.2.1 (X.1.2.2.2.2 _ lk_X7_clock_constant_RX7_97_1000000001) dX7_clock_7 ?_
    rw [hQ]
    exact sx_iret X rfl hs rfl hP dX7_clock_9 (⟨rfl, by unfold clockF; rw [cif_t b2]⟩)
theorem ys_X7_isEvent : yX7_isEvent.cls ≠ "java/lang/invoke/MethodHandle" ∧ yX7_isEvent.cls ≠ "java/lang/invoke/VarHandle" ∧ (parseMethodDescriptor yX7_isEvent.desc).map (fun d => d.parameters.length) = some 1 := by decide +kernel
theorem yv_X7_isEvent : yX7_isEvent.cls = RX7 ∧ yX7_isEvent.cls ≠ "java/lang/invoke/MethodHandle" ∧ yX7_isEvent.cls ≠ "java/lang/invoke/VarHandle" ∧ (parseMethodDescriptor yX7_isEvent.desc).map (fun d => d.parameters.length) = some 1 := ⟨rfl, ys_X7_isEvent⟩
theorem in_X7_isEvent_X7 : ∀ w ∈ wsX70, w ∈ wsX7_isEvent := fun _ h => List.mem_cons_of_mem _ (List.mem_append_right _ (h))
theorem lk_X7_isEvent_fieldLink_RX7_7_RaceWatchModel_w_I : (.fieldLink RX7 7 "RaceWatchModel" "w" "[I" : Cond) ∈ wsX7_isEvent := List.mem_cons_of_mem _ (List.mem_append_left _ (List.mem_of_getElem? (i := 0) rfl))
abbrev rmX7_isEvent : Room := { frames := 1, cells := 0, slots := 0, locals := 25 }
set_option maxHeartbeats 4000000 in
set_option maxRecDepth 100000 in
theorem mX7_isEvent {G : sx_G} (l : Launch) {F : Nat → va_E} {w : Nat → Int32} {of : List Value} {n : Nat} {x : Int32} (hn : n ≤ 160) (h91n : w 91 = nI n) (h91 : F (91) = ob 7 (rf G 92 :: of)) (h92 : F (92) = rI G (4358) (w)) : sx_I G l yX7_isEvent wsX7_isEvent rmX7_isEvent [rf G 91, .int (x)] (97) F (97) (fun r F1 => F = F1 ∧ ((inR x n) ∧ nI 1 = r ∨ ¬ (inR x n) ∧ nI 0 = r)) := by
  refine sx_enter (cc := cX7_isEvent) (maxL := 2) (ret := some .boolean) (own := RX7) (nm := "isEvent") (by decide) rfl rfl rfl (Nat.le_of_ble_eq_true rfl) ?_
  intro pp ee ss mm args below meth kc ls Q hQ X hs hP hl
  have hl : lv_has ls 2 [(0, rf G 91), (1, .int (x))] := hl
  refine lv_iload_n X.1.1 X.1.2.1 dX7_isEvent_0 rfl (lv_at hl 1 rfl) ?_
  refine lv_i2l (v := (x).toInt64) X.1.1 X.1.2.1 dX7_isEvent_1 rfl ?_
  refine lv_lconst (v := 0) X.1.1 X.1.2.1 dX7_isEvent_2 (by decide) ?_
  refine lv_aload_n X.1.1 X.1.2.1 dX7_isEvent_3 rfl (lv_at hl 0 rfl) ?_
  refine sx_get X hP in_X7_isEvent_X7 h91 (by decide) rfl 0 (by decide) lk_X7_isEvent_fieldLink_RX7_7_RaceWatchModel_w_I rfl dX7_isEvent_4 ?_
  refine lv_bipush (v := nI 91) X.1.1 X.1.2.1 dX7_isEvent_7 (by decide) ?_
  refine sx_ald X hP h92 (by decide) (91) (by decide) (by decide) dX7_isEvent_9 ?_
  rw [h91n]
  refine lv_iconst (v := nI 1) X.1.1 X.1.2.1 dX7_isEvent_10 (by decide) ?_
  refine lv_isub X.1.1 X.1.2.1 dX7_isEvent_11 ?_
  refine lv_i2l (v := ((nI (n)) - (nI (1))).toInt64) X.1.1 X.1.2.1 dX7_isEvent_12 rfl ?_
  refine sx_csI (As := [.long ((x).toInt64), .long (0), .long (((nI (n)) - (nI (1))).toInt64)]) (rest := []) X (mX7_in l) gX7_isEvent_X7_in rfl ys_X7_in ⟨Nat.le_of_ble_eq_true rfl, Nat.le_of_ble_eq_true rfl⟩ hl.1 rfl (Nat.le_of_ble_eq_true rfl) dX7_isEvent_13 ⟨Nat.le_of_ble_eq_true rfl, Nat.le_of_ble_eq_true rfl⟩ hs rfl hP (fun r1 F1 H1 l1 hp hP => ?_)
  obtain ⟨rfl, ⟨b2, rfl⟩ | ⟨b2, rfl⟩⟩ := hp
  · rw [hQ]
    exact sx_zret X rfl (by decide) hs rfl hP dX7_isEvent_16 (⟨rfl, Or.inl ⟨(sx_ev hn).mp b2, rfl⟩⟩)
  · rw [hQ]
    exact sx_zret X rfl (by decide) hs rfl hP dX7_isEvent_16 (⟨rfl, Or.inr ⟨fun q => b2 ((sx_ev hn).mpr q), rfl⟩⟩)
theorem ys_X7_eventOf : yX7_eventOf.cls ≠ "java/lang/invoke/MethodHandle" ∧ yX7_eventOf.cls ≠ "java/lang/invoke/VarHandle" ∧ (parseMethodDescriptor yX7_eventOf.desc).map (fun d => d.parameters.length) = some 2 := by decide +kernel
theorem yv_X7_eventOf : yX7_eventOf.cls = RX7 ∧ yX7_eventOf.cls ≠ "java/lang/invoke/MethodHandle" ∧ yX7_eventOf.cls ≠ "java/lang/invoke/VarHandle" ∧ (parseMethodDescriptor yX7_eventOf.desc).map (fun d => d.parameters.length) = some 2 := ⟨rfl, ys_X7_eventOf⟩
theorem lk_X7_eventOf_constantLong_RX7_91_7 : (.constantLong RX7 91 (7) : Cond) ∈ wsX7_eventOf := List.mem_cons_of_mem _ (List.mem_append_left _ (List.mem_of_getElem? (i := 1) rfl))
theorem in_X7_eventOf_X7 : ∀ w ∈ wsX70, w ∈ wsX7_eventOf := fun _ h => List.mem_cons_of_mem _ (List.mem_append_right _ (h))
theorem lk_X7_eventOf_fieldLink_RX7_7_RaceWatchModel_w_I : (.fieldLink RX7 7 "RaceWatchModel" "w" "[I" : Cond) ∈ wsX7_eventOf := List.mem_cons_of_mem _ (List.mem_append_left _ (List.mem_of_getElem? (i := 2) rfl))
theorem lk_X7_eventOf_constant_RX7_98_1000000002 : (.constant RX7 98 (-1000000002) : Cond) ∈ wsX7_eventOf := List.mem_cons_of_mem _ (List.mem_append_left _ (List.mem_of_getElem? (i := 3) rfl))
theorem lk_X7_eventOf_constant_RX7_97_1000000001 : (.constant RX7 97 (-1000000001) : Cond) ∈ wsX7_eventOf := List.mem_cons_of_mem _ (List.mem_append_left _ (List.mem_of_getElem? (i := 0) rfl))
abbrev rmX7_eventOf : Room := { frames := 2, cells := 0, slots := 0, locals := 46 }
set_option maxHeartbeats 4000000 in
set_option maxRecDepth 100000 in
theorem mX7_eventOf {G : sx_G} (l : Launch) {F : Nat → va_E} {w : Nat → Int32} {of : List Value} {n : Nat} {x o : Int32} (hn : n ≤ 160) (h91n : w 91 = nI n) (h91 : F (91) = ob 7 (rf G 92 :: of)) (h92 : F (92) = rI G (4358) (w)) : sx_I G l yX7_eventOf wsX7_eventOf rmX7_eventOf [rf G 91, .int (x), .int (o)] (97) F (97) (fun r F1 => F = F1 ∧ evOfF w n x o = r) := by
  refine sx_enter (cc := cX7_eventOf) (maxL := 3) (ret := some .int) (own := RX7) (nm := "eventOf") (by decide) rfl rfl rfl (Nat.le_of_ble_eq_true rfl) ?_
  intro pp ee ss mm args below meth kc ls Q hQ X hs hP hl
  have hl : lv_has ls 3 [(0, rf G 91), (1, .int (x)), (2, .int (o))] := hl
  refine lv_aload_n X.1.1 X.1.2.1 dX7_eventOf_0 rfl (lv_at hl 0 rfl) ?_
  refine lv_iload_n X.1.1 X.1.2.1 dX7_eventOf_1 rfl (lv_at hl 1 rfl) ?_
  refine sx_cvI (As := [.int (x)]) (rest := []) X (mX7_isEvent l (x := (x)) hn h91n h91 h92) gX7_eventOf_X7_isEvent rfl yv_X7_isEvent ⟨Nat.le_of_ble_eq_true rfl, Nat.le_of_ble_eq_true rfl⟩ h91 (by decide) rfl rfl hl.1 rfl (Nat.le_of_ble_eq_true rfl) dX7_eventOf_2 ⟨Nat.le_of_ble_eq_true rfl, Nat.le_of_ble_eq_true rfl⟩ hs rfl hP (fun r1 F1 H1 l1 hp hP => ?_)
  obtain ⟨rfl, ⟨b2, rfl⟩ | ⟨b2, rfl⟩⟩ := hp
  · obtain ⟨e, he, rfl⟩ := b2
    refine sx_if_ne X (by decide) (tgt := 11) dX7_eventOf_5 (by decide) (fun _ => ?_) (fun h => absurd h (by decide))
    refine lv_iload_n X.1.1 X.1.2.1 dX7_eventOf_11 rfl (lv_at hl 2 rfl) ?_
    refine lv_i2l (v := (o).toInt64) X.1.1 X.1.2.1 dX7_eventOf_12 rfl ?_
    refine lv_lconst (v := 0) X.1.1 X.1.2.1 dX7_eventOf_13 (by decide) ?_
    refine lv_ldc2 (v := 7) X.1.1 X.1.2.1 X.1.2.2.2.1 (X.1.2.2.2.2 _ lk_X7_eventOf_constantLong_RX7_91_7) dX7_eventOf_14 ?_
    refine sx_csI (As := [.long ((o).toInt64), .long (0), .long (7)]) (rest := []) X (mX7_in l) gX7_eventOf_X7_in rfl ys_X7_in ⟨Nat.le_of_ble_eq_true rfl, Nat.le_of_ble_eq_true rfl⟩ hl.1 rfl (Nat.le_of_ble_eq_true rfl) dX7_eventOf_17 ⟨Nat.le_of_ble_eq_true rfl, Nat.le_of_ble_eq_true rfl⟩ hs rfl hP (fun r3 F3 H3 l3 hp hP => ?_)
    obtain ⟨rfl, ⟨b4, rfl⟩ | ⟨b4, rfl⟩⟩ := hp
    · obtain ⟨k, hk8, rfl⟩ := sx_in64 (k := 8) (by decide) (by decide) b4
      refine sx_if_eq X (by decide) (tgt := 40) dX7_eventOf_20 (by decide) (fun h => absurd h (by decide)) (fun _ => ?_)
      refine lv_aload_n X.1.1 X.1.2.1 dX7_eventOf_23 rfl (lv_at hl 0 rfl) ?_
      refine sx_get X hP in_X7_eventOf_X7 h91 (by decide) rfl 0 (by decide) lk_X7_eventOf_fieldLink_RX7_7_RaceWatchModel_w_I rfl dX7_eventOf_24 ?_
      refine lv_bipush (v := nI 92) X.1.1 X.1.2.1 dX7_eventOf_27 (by decide) ?_
      refine lv_bipush (v := nI 8) X.1.1 X.1.2.1 dX7_eventOf_29 (by decide) ?_
      refine lv_iload_n X.1.1 X.1.2.1 dX7_eventOf_31 rfl (lv_at hl 1 rfl) ?_
      refine sx_mulN X (8 * e) (by omega) dX7_eventOf_32 ?_
      refine sx_addN X (92 + 8 * e) (by omega) dX7_eventOf_33 ?_
      refine lv_iload_n X.1.1 X.1.2.1 dX7_eventOf_34 rfl (lv_at hl 2 rfl) ?_
      refine sx_addN X (92 + 8 * e + k) (by omega) dX7_eventOf_35 ?_
      refine sx_ald X hP h92 (by decide) (92 + 8 * e + k) (by omega) (by decide) dX7_eventOf_36 ?_
      refine lv_goto (tgt := 42) X.1.1 X.1.2.1 dX7_eventOf_37 (by decide) ?_
      rw [hQ]
      exact sx_iret X rfl hs rfl hP dX7_eventOf_42 (⟨rfl, by unfold evOfF; rw [cif_f (fun q => q ⟨e, he, rfl⟩), cif_f (fun q => q ⟨k, hk8, rfl⟩), nI_clamp (by omega), nI_clamp (by omega)]⟩)
    · refine sx_if_eq X (by decide) (tgt := 40) dX7_eventOf_20 (by decide) (fun _ => ?_) (fun h => absurd h (by decide))
      refine lv_ldc (v := -1000000002) X.1.1 X.1.2.1 X.1.2.2.2.1 (X.1.2.2.2.2 _ lk_X7_eventOf_constant_RX7_98_1000000002) dX7_eventOf_40 ?_
      rw [hQ]
      exact sx_iret X rfl hs rfl hP dX7_eventOf_42 (⟨rfl, by unfold evOfF; rw [cif_f (fun q => q ⟨e, he, rfl⟩), cif_t (fun q => b4 (sx_64in (by decide) (by decide) q))]⟩)
  · refine sx_if_ne X (by decide) (tgt := 11) dX7_eventOf_5 (by decide) (fun h => absurd h (by decide)) (fun _ => ?_)
    refine lv_ldc (v := -1000000001) X.1.1 X.1.2.1 X.1.2.2.2.1 (X.1.2.2.2.2 _ lk_X7_eventOf_constant_RX7_97_1000000001) dX7_eventOf_8 ?_
    rw [hQ]
    exact sx_iret X rfl hs rfl hP dX7_eventOf_10 (⟨rfl, by unfold evOfF; rw [cif_t b2]⟩)
theorem ys_X7_isAhead : yX7_isAhead.cls ≠ "java/lang/invoke/MethodHandle" ∧ yX7_isAhead.cls ≠ "java/lang/invoke/VarHandle" ∧ (parseMethodDescriptor yX7_isAhead.desc).map (fun d => d.parameters.length) = some 2 := by decide +kernel
theorem yv_X7_isAhead : yX7_isAhead.cls = RX7 ∧ yX7_isAhead.cls ≠ "java/lang/invoke/MethodHandle" ∧ yX7_isAhead.cls ≠ "java/lang/invoke/VarHandle" ∧ (parseMethodDescriptor yX7_isAhead.desc).map (fun d => d.parameters.length) = some 2 := ⟨rfl, ys_X7_isAhead⟩
theorem in_X7_isAhead_X7 : ∀ w ∈ wsX70, w ∈ wsX7_isAhead := fun _ h => List.mem_cons_of_mem _ (List.mem_append_right _ (h))
theorem lk_X7_isAhead_fieldLink_RX7_7_RaceWatchModel_w_I : (.fieldLink RX7 7 "RaceWatchModel" "w" "[I" : Cond) ∈ wsX7_isAhead := List.mem_cons_of_mem _ (List.mem_append_left _ (List.mem_of_getElem? (i := 0) rfl))
abbrev rmX7_isAhead : Room := { frames := 0, cells := 0, slots := 0, locals := 0 }
set_option maxHeartbeats 4000000 in
set_option maxRecDepth 100000 in
theorem mX7_isAhead {G : sx_G} (l : Launch) {F : Nat → va_E} {w : Nat → Int32} {of : List Value} {e f t : Nat} (he : e < 160) (hf : f < 160) (ht : t < 4) (hth : w (92 + 8 * e) = nI t) (h91 : F (91) = ob 7 (rf G 92 :: of)) (h92 : F (92) = rI G (4358) (w)) : sx_I G l yX7_isAhead wsX7_isAhead rmX7_isAhead [rf G 91, .int (nI (e)), .int (nI (f))] (97) F (97) (fun r F1 => F = F1 ∧ ((ahF w e f) ∧ nI 1 = r ∨ ¬ (ahF w e f) ∧ nI 0 = r)) := by
  refine sx_enter (cc := cX7_isAhead) (maxL := 4) (ret := some .boolean) (own := RX7) (nm := "isAhead") (by decide) rfl rfl rfl (Nat.le_of_ble_eq_true rfl) ?_
  intro pp ee ss mm args below meth kc ls Q hQ X hs hP hl
  have hl : lv_has ls 4 [(0, rf G 91), (1, .int (nI (e))), (2, .int (nI (f)))] := hl
  refine lv_aload_n X.1.1 X.1.2.1 dX7_isAhead_0 rfl (lv_at hl 0 rfl) ?_
  refine sx_get X hP in_X7_isAhead_X7 h91 (by decide) rfl 0 (by decide) lk_X7_isAhead_fieldLink_RX7_7_RaceWatchModel_w_I rfl dX7_isAhead_1 ?_
  refine lv_bipush (v := nI 92) X.1.1 X.1.2.1 dX7_isAhead_4 (by decide) ?_
  refine lv_bipush (v := nI 8) X.1.1 X.1.2.1 dX7_isAhead_6 (by decide) ?_
  refine lv_iload_n X.1.1 X.1.2.1 dX7_isAhead_8 rfl (lv_at hl 1 rfl) ?_
  refine sx_mulN X (8 * e) (by omega) dX7_isAhead_9 ?_
  refine sx_addN X (92 + 8 * e) (by omega) dX7_isAhead_10 ?_
  refine sx_ald X hP h92 (by decide) (92 + 8 * e) (by omega) (by decide) dX7_isAhead_11 ?_
  rw [hth]
  refine lv_istore_n (lv' := [(3, .int (nI (t))), (0, rf G 91), (1, .int (nI (e))), (2, .int (nI (f)))]) X.1.1 X.1.2.1 dX7_isAhead_12 rfl hl (by decide) rfl (fun ls hl => ?_)
  refine lv_aload_n X.1.1 X.1.2.1 dX7_isAhead_13 rfl (lv_at hl 1 rfl) ?_
  refine sx_get X hP in_X7_isAhead_X7 h91 (by decide) rfl 0 (by decide) lk_X7_isAhead_fieldLink_RX7_7_RaceWatchModel_w_I rfl dX7_isAhead_14 ?_
  refine lv_bipush (v := nI 92) X.1.1 X.1.2.1 dX7_isAhead_17 (by decide) ?_
  refine lv_bipush (v := nI 8) X.1.1 X.1.2.1 dX7_isAhead_19 (by decide) ?_
  refine lv_iload_n X.1.1 X.1.2.1 dX7_isAhead_21 rfl (lv_at hl 3 rfl) ?_
  refine sx_mulN X (8 * f) (by omega) dX7_isAhead_22 ?_
  refine sx_addN X (92 + 8 * f) (by omega) dX7_isAhead_23 ?_
  refine lv_iconst (v := nI 3) X.1.1 X.1.2.1 dX7_isAhead_24 (by decide) ?_
  refine sx_addN X (95 + 8 * f) (by omega) dX7_isAhead_25 ?_
  refine lv_iload_n X.1.1 X.1.2.1 dX7_isAhead_26 rfl (lv_at hl 0 rfl) ?_
  refine sx_addN X (95 + 8 * f + t) (by omega) dX7_isAhead_27 ?_
  refine sx_ald X hP h92 (by decide) (95 + 8 * f + t) (by omega) (by decide) dX7_isAhead_28 ?_
  refine lv_aload_n X.1.1 X.1.2.1 dX7_isAhead_29 rfl (lv_at hl 1 rfl) ?_
  refine sx_get X hP in_X7_isAhead_X7 h91 (by decide) rfl 0 (by decide) lk_X7_isAhead_fieldLink_RX7_7_RaceWatchModel_w_I rfl dX7_isAhead_30 ?_
  refine lv_bipush (v := nI 92) X.1.1 X.1.2.1 dX7_isAhead_33 (by decide) ?_
  refine lv_bipush (v := nI 8) X.1.1 X.1.2.1 dX7_isAhead_35 (by decide) ?_
  refine lv_iload_n X.1.1 X.1.2.1 dX7_isAhead_37 rfl (lv_at hl 2 rfl) ?_
  refine sx_mulN X (8 * e) (by omega) dX7_isAhead_38 ?_
  refine sx_addN X (92 + 8 * e) (by omega) dX7_isAhead_39 ?_
  refine lv_iconst (v := nI 3) X.1.1 X.1.2.1 dX7_isAhead_40 (by decide) ?_
  refine sx_addN X (95 + 8 * e) (by omega) dX7_isAhead_41 ?_
  refine lv_iload_n X.1.1 X.1.2.1 dX7_isAhead_42 rfl (lv_at hl 0 rfl) ?_
  refine sx_addN X (95 + 8 * e + t) (by omega) dX7_isAhead_43 ?_
  refine sx_ald X hP h92 (by decide) (95 + 8 * e + t) (by omega) (by decide) dX7_isAhead_44 ?_
  refine lv_icmp_lt X.1.1 X.1.2.1 (tgt := 52) dX7_isAhead_45 (by decide) (fun c45 => ?_) (fun c45 => ?_)
  · refine lv_iconst (v := nI 0) X.1.1 X.1.2.1 dX7_isAhead_52 (by decide) ?_
    rw [hQ]
    exact sx_zret X rfl (by decide) hs rfl hP dX7_isAhead_53 (⟨rfl, Or.inr ⟨fun q => Int32.not_lt.mpr ((ahF_iff ht hth).mp q) c45, rfl⟩⟩)
  · refine lv_iconst (v := nI 1) X.1.1 X.1.2.1 dX7_isAhead_48 (by decide) ?_
    refine lv_goto (tgt := 53) X.1.1 X.1.2.1 dX7_isAhead_49 (by decide) ?_
    rw [hQ]
    exact sx_zret X rfl (by decide) hs rfl hP dX7_isAhead_53 (⟨rfl, Or.inl ⟨(ahF_iff ht hth).mpr (Int32.not_lt.mp c45), rfl⟩⟩)
theorem ys_X7_ahead : yX7_ahead.cls ≠ "java/lang/invoke/MethodHandle" ∧ yX7_ahead.cls ≠ "java/lang/invoke/VarHandle" ∧ (parseMethodDescriptor yX7_ahead.desc).map (fun d => d.parameters.length) = some 2 := by decide +kernel
theorem yv_X7_ahead : yX7_ahead.cls = RX7 ∧ yX7_ahead.cls ≠ "java/lang/invoke/MethodHandle" ∧ yX7_ahead.cls ≠ "java/lang/invoke/VarHandle" ∧ (parseMethodDescriptor yX7_ahead.desc).map (fun d => d.parameters.length) = some 2 := ⟨rfl, ys_X7_ahead⟩
theorem lk_X7_ahead_constant_RX7_97_1000000001 : (.constant RX7 97 (-1000000001) : Cond) ∈ wsX7_ahead := List.mem_cons_of_mem _ (List.mem_append_left _ (List.mem_of_getElem? (i := 0) rfl))
abbrev rmX7_ahead : Room := { frames := 2, cells := 0, slots := 0, locals := 46 }
set_option maxHeartbeats 4000000 in
set_option maxRecDepth 100000 in
theorem mX7_ahead {G : sx_G} (l : Launch) {F : Nat → va_E} {w : Nat → Int32} {of : List Value} {n : Nat} {x y : Int32} (hn : n ≤ 160) (h91n : w 91 = nI n) (hev : ∀ e, e < n → ∃ t, t < 4 ∧ w (92 + 8 * e) = nI t) (h91 : F (91) = ob 7 (rf G 92 :: of)) (h92 : F (92) = rI G (4358) (w)) : sx_I G l yX7_ahead wsX7_ahead rmX7_ahead [rf G 91, .int (x), .int (y)] (97) F (97) (fun r F1 => F = F1 ∧ aheadF w n x y = r) := by
  refine sx_enter (cc := cX7_ahead) (maxL := 3) (ret := some .int) (own := RX7) (nm := "ahead") (by decide) rfl rfl rfl (Nat.le_of_ble_eq_true rfl) ?_
  intro pp ee ss mm args below meth kc ls Q hQ X hs hP hl
  have hl : lv_has ls 3 [(0, rf G 91), (1, .int (x)), (2, .int (y))] := hl
  refine lv_aload_n X.1.1 X.1.2.1 dX7_ahead_0 rfl (lv_at hl 0 rfl) ?_
  refine lv_iload_n X.1.1 X.1.2.1 dX7_ahead_1 rfl (lv_at hl 1 rfl) ?_
  refine sx_cvI (As := [.int (x)]) (rest := []) X (mX7_isEvent l (x := (x)) hn h91n h91 h92) gX7_ahead_X7_isEvent rfl yv_X7_isEvent ⟨Nat.le_of_ble_eq_true rfl, Nat.le_of_ble_eq_true rfl⟩ h91 (by decide) rfl rfl hl.1 rfl (Nat.le_of_ble_eq_true rfl) dX7_ahead_2 ⟨Nat.le_of_ble_eq_true rfl, Nat.le_of_ble_eq_true rfl⟩ hs rfl hP (fun r1 F1 H1 l1 hp hP => ?_)
  obtain ⟨rfl, ⟨b2, rfl⟩ | ⟨b2, rfl⟩⟩ := hp
  · obtain ⟨e, he, rfl⟩ := b2
    refine sx_if_eq X (by decide) (tgt := 21) dX7_ahead_5 (by decide) (fun h => absurd h (by decide)) (fun _ => ?_)
    refine lv_aload_n X.1.1 X.1.2.1 dX7_ahead_8 rfl (lv_at hl 0 rfl) ?_
    refine lv_iload_n X.1.1 X.1.2.1 dX7_ahead_9 rfl (lv_at hl 2 rfl) ?_
    refine sx_cvI (As := [.int (y)]) (rest := []) X (mX7_isEvent l (x := (y)) hn h91n h91 h92) gX7_ahead_X7_isEvent rfl yv_X7_isEvent ⟨Nat.le_of_ble_eq_true rfl, Nat.le_of_ble_eq_true rfl⟩ h91 (by decide) rfl rfl hl.1 rfl (Nat.le_of_ble_eq_true rfl) dX7_ahead_10 ⟨Nat.le_of_ble_eq_true rfl, Nat.le_of_ble_eq_true rfl⟩ hs rfl hP (fun r3 F3 H3 l3 hp hP => ?_)
    obtain ⟨rfl, ⟨b4, rfl⟩ | ⟨b4, rfl⟩⟩ := hp
    · obtain ⟨f, hf, rfl⟩ := b4
      refine sx_if_eq X (by decide) (tgt := 21) dX7_ahead_13 (by decide) (fun h => absurd h (by decide)) (fun _ => ?_)
      refine lv_iload_n X.1.1 X.1.2.1 dX7_ahead_16 rfl (lv_at hl 1 rfl) ?_
      refine lv_iload_n X.1.1 X.1.2.1 dX7_ahead_17 rfl (lv_at hl 2 rfl) ?_
      refine sx_icmp_ne X (by omega) (by omega) (tgt := 24) dX7_ahead_18 (by decide) (fun c18 => ?_) (fun c18 => ?_)
      · refine lv_iload_n X.1.1 X.1.2.1 dX7_ahead_24 rfl (lv_at hl 1 rfl) ?_
        refine lv_iload_n X.1.1 X.1.2.1 dX7_ahead_25 rfl (lv_at hl 2 rfl) ?_
        refine sx_icmp_ge X (by omega) (by omega) (tgt := 42) dX7_ahead_26 (by decide) (fun c26 => ?_) (fun c26 => ?_)
        · refine lv_iconst (v := nI 0) X.1.1 X.1.2.1 dX7_ahead_42 (by decide) ?_
          rw [hQ]
          exact sx_iret X rfl hs rfl hP dX7_ahead_43 (⟨rfl, by unfold aheadF; rw [cif_f (by rintro (q | q | q); exact q ⟨e, he, rfl⟩; exact q ⟨f, hf, rfl⟩; exact c18 ((nI_eq (by omega) (by omega)).mp q)), nI_clamp (by omega), nI_clamp (by omega), cif_f (fun q => absurd q.1 (by omega))]⟩)
        · refine lv_aload_n X.1.1 X.1.2.1 dX7_ahead_29 rfl (lv_at hl 0 rfl) ?_
          refine lv_iload_n X.1.1 X.1.2.1 dX7_ahead_30 rfl (lv_at hl 1 rfl) ?_
          refine lv_iload_n X.1.1 X.1.2.1 dX7_ahead_31 rfl (lv_at hl 2 rfl) ?_
          refine sx_cvI (As := [.int (nI (e)), .int (nI (f))]) (rest := []) X (mX7_isAhead l (e := e) (f := f) (by omega) (by omega) (hev (e) (by omega)).choose_spec.1 (hev (e) (by omega)).choose_spec.2 h91 h92) gX7_ahead_X7_isAhead rfl yv_X7_isAhead ⟨Nat.le_of_ble_eq_true rfl, Nat.le_of_ble_eq_true rfl⟩ h91 (by decide) rfl rfl hl.1 rfl (Nat.le_of_ble_eq_true rfl) dX7_ahead_32 ⟨Nat.le_of_ble_eq_true rfl, Nat.le_of_ble_eq_true rfl⟩ hs rfl hP (fun r5 F5 H5 l5 hp hP => ?_)
          obtain ⟨rfl, ⟨b6, rfl⟩ | ⟨b6, rfl⟩⟩ := hp
          · refine sx_if_eq X (by decide) (tgt := 42) dX7_ahead_35 (by decide) (fun h => absurd h (by decide)) (fun _ => ?_)
            refine lv_iconst (v := nI 1) X.1.1 X.1.2.1 dX7_ahead_38 (by decide) ?_
            refine lv_goto (tgt := 43) X.1.1 X.1.2.1 dX7_ahead_39 (by decide) ?_
            rw [hQ]
            exact sx_iret X rfl hs rfl hP dX7_ahead_43 (⟨rfl, by unfold aheadF; rw [cif_f (by rintro (q | q | q); exact q ⟨e, he, rfl⟩; exact q ⟨f, hf, rfl⟩; exact c18 ((nI_eq (by omega) (by omega)).mp q)), nI_clamp (by omega), nI_clamp (by omega), cif_t ⟨c26, b6⟩]⟩)
          · refine sx_if_eq X (by decide) (tgt := 42) dX7_ahead_35 (by decide) (fun _ => ?_) (fun h => absurd h (by decide))
            refine lv_iconst (v := nI 0) X.1.1 X.1.2.1 dX7_ahead_42 (by decide) ?_
            rw [hQ]
            exact sx_iret X rfl hs rfl hP dX7_ahead_43 (⟨rfl, by unfold aheadF; rw [cif_f (by rintro (q | q | q); exact q ⟨e, he, rfl⟩; exact q ⟨f, hf, rfl⟩; exact c18 ((nI_eq (by omega) (by omega)).mp q)), nI_clamp (by omega), nI_clamp (by omega), cif_f (fun q => b6 q.2)]⟩)
      · refine lv_ldc (v := -1000000001) X.1.1 X.1.2.1 X.1.2.2.2.1 (X.1.2.2.2.2 _ lk_X7_ahead_constant_RX7_97_1000000001) dX7_ahead_21 ?_
        rw [hQ]
        exact sx_iret X rfl hs rfl hP dX7_ahead_23 (⟨rfl, by unfold aheadF; rw [cif_t (Or.inr (Or.inr (congrArg nI c18)))]⟩)
    · refine sx_if_eq X (by decide) (tgt := 21) dX7_ahead_13 (by decide) (fun _ => ?_) (fun h => absurd h (by decide))
      refine lv_ldc (v := -1000000001) X.1.1 X.1.2.1 X.1.2.2.2.1 (X.1.2.2.2.2 _ lk_X7_ahead_constant_RX7_97_1000000001) dX7_ahead_21 ?_
      rw [hQ]
      exact sx_iret X rfl hs rfl hP dX7_ahead_23 (⟨rfl, by unfold aheadF; rw [cif_t (Or.inr (Or.inl b4))]⟩)
  · refine sx_if_eq X (by decide) (tgt := 21) dX7_ahead_5 (by decide) (fun _ => ?_) (fun h => absurd h (by decide))
    refine lv_ldc (v := -1000000001) X.1.1 X.1.2.1 X.1.2.2.2.1 (X.1.2.2.2.2 _ lk_X7_ahead_constant_RX7_97_1000000001) dX7_ahead_21 ?_
    rw [hQ]
    exact sx_iret X rfl hs rfl hP dX7_ahead_23 (⟨rfl, by unfold aheadF; rw [cif_t (Or.inl b2)]⟩)
theorem ys_X7_isAccess : yX7_isAccess.cls ≠ "java/lang/invoke/MethodHandle" ∧ yX7_isAccess.cls ≠ "java/lang/invoke/VarHandle" ∧ (parseMethodDescriptor yX7_isAccess.desc).map (fun d => d.parameters.length) = some 2 := by decide +kernel
theorem yv_X7_isAccess : yX7_isAccess.cls = RX7 ∧ yX7_isAccess.cls ≠ "java/lang/invoke/MethodHandle" ∧ yX7_isAccess.cls ≠ "java/lang/invoke/VarHandle" ∧ (parseMethodDescriptor yX7_isAccess.desc).map (fun d => d.parameters.length) = some 2 := ⟨rfl, ys_X7_isAccess⟩
theorem in_X7_isAccess_X7 : ∀ w ∈ wsX70, w ∈ wsX7_isAccess := fun _ h => List.mem_cons_of_mem _ (List.mem_append_right _ (h))
theorem lk_X7_isAccess_fieldLink_RX7_7_RaceWatchModel_w_I : (.fieldLink RX7 7 "RaceWatchModel" "w" "[I" : Cond) ∈ wsX7_isAccess := List.mem_cons_of_mem _ (List.mem_append_left _ (List.mem_of_getElem? (i := 0) rfl))
abbrev rmX7_isAccess : Room := { frames := 0, cells := 0, slots := 0, locals := 0 }
set_option maxHeartbeats 4000000 in
set_option maxRecDepth 100000 in
theorem mX7_isAccess {G : sx_G} (l : Launch) {F : Nat → va_E} {w : Nat → Int32} {of : List Value} {e c : Nat} (he : e < 160) (h91 : F (91) = ob 7 (rf G 92 :: of)) (h92 : F (92) = rI G (4358) (w)) : sx_I G l yX7_isAccess wsX7_isAccess rmX7_isAccess [rf G 91, .int (nI (e)), .int (nI (c))] (97) F (97) (fun r F1 => F = F1 ∧ ((accB w e c) ∧ nI 1 = r ∨ ¬ (accB w e c) ∧ nI 0 = r)) := by
  refine sx_enter (cc := cX7_isAccess) (maxL := 3) (ret := some .boolean) (own := RX7) (nm := "isAccess") (by decide) rfl rfl rfl (Nat.le_of_ble_eq_true rfl) ?_
  intro pp ee ss mm args below meth kc ls Q hQ X hs hP hl
  have hl : lv_has ls 3 [(0, rf G 91), (1, .int (nI (e))), (2, .int (nI (c)))] := hl
  refine lv_aload_n X.1.1 X.1.2.1 dX7_isAccess_0 rfl (lv_at hl 0 rfl) ?_
  refine sx_get X hP in_X7_isAccess_X7 h91 (by decide) rfl 0 (by decide) lk_X7_isAccess_fieldLink_RX7_7_RaceWatchModel_w_I rfl dX7_isAccess_1 ?_
  refine lv_bipush (v := nI 92) X.1.1 X.1.2.1 dX7_isAccess_4 (by decide) ?_
  refine lv_bipush (v := nI 8) X.1.1 X.1.2.1 dX7_isAccess_6 (by decide) ?_
  refine lv_iload_n X.1.1 X.1.2.1 dX7_isAccess_8 rfl (lv_at hl 1 rfl) ?_
  refine sx_mulN X (8 * e) (by omega) dX7_isAccess_9 ?_
  refine sx_addN X (92 + 8 * e) (by omega) dX7_isAccess_10 ?_
  refine lv_iconst (v := nI 1) X.1.1 X.1.2.1 dX7_isAccess_11 (by decide) ?_
  refine sx_addN X (93 + 8 * e) (by omega) dX7_isAccess_12 ?_
  refine sx_ald X hP h92 (by decide) (93 + 8 * e) (by omega) (by decide) dX7_isAccess_13 ?_
  refine lv_iconst (v := nI 1) X.1.1 X.1.2.1 dX7_isAccess_14 (by decide) ?_
  refine lv_icmp_gt X.1.1 X.1.2.1 (tgt := 40) dX7_isAccess_15 (by decide) (fun c15 => ?_) (fun c15 => ?_)
  · refine lv_iconst (v := nI 0) X.1.1 X.1.2.1 dX7_isAccess_40 (by decide) ?_
    rw [hQ]
    exact sx_zret X rfl (by decide) hs rfl hP dX7_isAccess_41 (⟨rfl, Or.inr ⟨fun q => Int32.not_lt.mpr q.1 c15, rfl⟩⟩)
  · refine lv_aload_n X.1.1 X.1.2.1 dX7_isAccess_18 rfl (lv_at hl 0 rfl) ?_
    refine sx_get X hP in_X7_isAccess_X7 h91 (by decide) rfl 0 (by decide) lk_X7_isAccess_fieldLink_RX7_7_RaceWatchModel_w_I rfl dX7_isAccess_19 ?_
    refine lv_bipush (v := nI 92) X.1.1 X.1.2.1 dX7_isAccess_22 (by decide) ?_
    refine lv_bipush (v := nI 8) X.1.1 X.1.2.1 dX7_isAccess_24 (by decide) ?_
    refine lv_iload_n X.1.1 X.1.2.1 dX7_isAccess_26 rfl (lv_at hl 1 rfl) ?_
    refine sx_mulN X (8 * e) (by omega) dX7_isAccess_27 ?_
    refine sx_addN X (92 + 8 * e) (by omega) dX7_isAccess_28 ?_
    refine lv_iconst (v := nI 2) X.1.1 X.1.2.1 dX7_isAccess_29 (by decide) ?_
    refine sx_addN X (94 + 8 * e) (by omega) dX7_isAccess_30 ?_
    refine sx_ald X hP h92 (by decide) (94 + 8 * e) (by omega) (by decide) dX7_isAccess_31 ?_
    refine lv_iload_n X.1.1 X.1.2.1 dX7_isAccess_32 rfl (lv_at hl 2 rfl) ?_
    refine lv_icmp_ne X.1.1 X.1.2.1 (tgt := 40) dX7_isAccess_33 (by decide) (fun c33 => ?_) (fun c33 => ?_)
    · refine lv_iconst (v := nI 0) X.1.1 X.1.2.1 dX7_isAccess_40 (by decide) ?_
      rw [hQ]
      exact sx_zret X rfl (by decide) hs rfl hP dX7_isAccess_41 (⟨rfl, Or.inr ⟨fun q => c33 q.2, rfl⟩⟩)
    · refine lv_iconst (v := nI 1) X.1.1 X.1.2.1 dX7_isAccess_36 (by decide) ?_
      refine lv_goto (tgt := 41) X.1.1 X.1.2.1 dX7_isAccess_37 (by decide) ?_
      rw [hQ]
      exact sx_zret X rfl (by decide) hs rfl hP dX7_isAccess_41 (⟨rfl, Or.inl ⟨⟨Int32.not_lt.mp c15, c33⟩, rfl⟩⟩)
theorem ys_X7_kindBy : yX7_kindBy.cls ≠ "java/lang/invoke/MethodHandle" ∧ yX7_kindBy.cls ≠ "java/lang/invoke/VarHandle" ∧ (parseMethodDescriptor yX7_kindBy.desc).map (fun d => d.parameters.length) = some 3 := by decide +kernel
theorem yv_X7_kindBy : yX7_kindBy.cls = RX7 ∧ yX7_kindBy.cls ≠ "java/lang/invoke/MethodHandle" ∧ yX7_kindBy.cls ≠ "java/lang/invoke/VarHandle" ∧ (parseMethodDescriptor yX7_kindBy.desc).map (fun d => d.parameters.length) = some 3 := ⟨rfl, ys_X7_kindBy⟩
theorem in_X7_kindBy_X7 : ∀ w ∈ wsX70, w ∈ wsX7_kindBy := fun _ h => List.mem_cons_of_mem _ (List.mem_append_right _ (h))
theorem lk_X7_kindBy_fieldLink_RX7_7_RaceWatchModel_w_I : (.fieldLink RX7 7 "RaceWatchModel" "w" "[I" : Cond) ∈ wsX7_kindBy := List.mem_cons_of_mem _ (List.mem_append_left _ (List.mem_of_getElem? (i := 0) rfl))
abbrev rmX7_kindBy : Room := { frames := 1, cells := 0, slots := 0, locals := 23 }
set_option maxHeartbeats 4000000 in
set_option maxRecDepth 100000 in
theorem mX7_kindBy {G : sx_G} (l : Launch) {F : Nat → va_E} {w : Nat → Int32} {of : List Value} {e f c n : Nat} (he : e < n) (hf : f < n) (hn : n ≤ 160) (hev : ∀ e, e < n → ∃ t, t < 4 ∧ w (92 + 8 * e) = nI t) (h91 : F (91) = ob 7 (rf G 92 :: of)) (h92 : F (92) = rI G (4358) (w)) : sx_I G l yX7_kindBy wsX7_kindBy rmX7_kindBy [rf G 91, .int (nI (e)), .int (nI (f)), .int (nI (c))] (97) F (97) (fun r F1 => F = F1 ∧ kbF w e f c = r) := by
  refine sx_enter (cc := cX7_kindBy) (maxL := 6) (ret := some .int) (own := RX7) (nm := "kindBy") (by decide) rfl rfl rfl (Nat.le_of_ble_eq_true rfl) ?_
  intro pp ee ss mm args below meth kc ls Q hQ X hs hP hl
  have hl : lv_has ls 6 [(0, rf G 91), (1, .int (nI (e))), (2, .int (nI (f))), (3, .int (nI (c)))] := hl
  refine lv_aload_n X.1.1 X.1.2.1 dX7_kindBy_0 rfl (lv_at hl 0 rfl) ?_
  refine lv_iload_n X.1.1 X.1.2.1 dX7_kindBy_1 rfl (lv_at hl 1 rfl) ?_
  refine lv_iload_n X.1.1 X.1.2.1 dX7_kindBy_2 rfl (lv_at hl 3 rfl) ?_
  refine sx_cvI (As := [.int (nI (e)), .int (nI (c))]) (rest := []) X (mX7_isAccess l (e := e) (c := c) (by omega) h91 h92) gX7_kindBy_X7_isAccess rfl yv_X7_isAccess ⟨Nat.le_of_ble_eq_true rfl, Nat.le_of_ble_eq_true rfl⟩ h91 (by decide) rfl rfl hl.1 rfl (Nat.le_of_ble_eq_true rfl) dX7_kindBy_3 ⟨Nat.le_of_ble_eq_true rfl, Nat.le_of_ble_eq_true rfl⟩ hs rfl hP (fun r1 F1 H1 l1 hp hP => ?_)
  obtain ⟨rfl, ⟨b2, rfl⟩ | ⟨b2, rfl⟩⟩ := hp
  · refine sx_if_eq X (by decide) (tgt := 45) dX7_kindBy_6 (by decide) (fun h => absurd h (by decide)) (fun _ => ?_)
    refine lv_aload_n X.1.1 X.1.2.1 dX7_kindBy_9 rfl (lv_at hl 0 rfl) ?_
    refine sx_get X hP in_X7_kindBy_X7 h91 (by decide) rfl 0 (by decide) lk_X7_kindBy_fieldLink_RX7_7_RaceWatchModel_w_I rfl dX7_kindBy_10 ?_
    refine lv_bipush (v := nI 92) X.1.1 X.1.2.1 dX7_kindBy_13 (by decide) ?_
    refine lv_bipush (v := nI 8) X.1.1 X.1.2.1 dX7_kindBy_15 (by decide) ?_
    refine lv_iload_n X.1.1 X.1.2.1 dX7_kindBy_17 rfl (lv_at hl 1 rfl) ?_
    refine sx_mulN X (8 * e) (by omega) dX7_kindBy_18 ?_
    refine sx_addN X (92 + 8 * e) (by omega) dX7_kindBy_19 ?_
    refine sx_ald X hP h92 (by decide) (92 + 8 * e) (by omega) (by decide) dX7_kindBy_20 ?_
    refine lv_aload_n X.1.1 X.1.2.1 dX7_kindBy_21 rfl (lv_at hl 0 rfl) ?_
    refine sx_get X hP in_X7_kindBy_X7 h91 (by decide) rfl 0 (by decide) lk_X7_kindBy_fieldLink_RX7_7_RaceWatchModel_w_I rfl dX7_kindBy_22 ?_
    refine lv_bipush (v := nI 92) X.1.1 X.1.2.1 dX7_kindBy_25 (by decide) ?_
    refine lv_bipush (v := nI 8) X.1.1 X.1.2.1 dX7_kindBy_27 (by decide) ?_
    refine lv_iload_n X.1.1 X.1.2.1 dX7_kindBy_29 rfl (lv_at hl 2 rfl) ?_
    refine sx_mulN X (8 * f) (by omega) dX7_kindBy_30 ?_
    refine sx_addN X (92 + 8 * f) (by omega) dX7_kindBy_31 ?_
    refine sx_ald X hP h92 (by decide) (92 + 8 * f) (by omega) (by decide) dX7_kindBy_32 ?_
    refine lv_icmp_eq X.1.1 X.1.2.1 (tgt := 45) dX7_kindBy_33 (by decide) (fun c33 => ?_) (fun c33 => ?_)
    · refine lv_iconst (v := (-1)) X.1.1 X.1.2.1 dX7_kindBy_45 (by decide) ?_
      rw [hQ]
      exact sx_iret X rfl hs rfl hP dX7_kindBy_46 (⟨rfl, by unfold kbF; rw [cif_f (fun q => q.2.1 c33)]⟩)
    · refine lv_aload_n X.1.1 X.1.2.1 dX7_kindBy_36 rfl (lv_at hl 0 rfl) ?_
      refine lv_iload_n X.1.1 X.1.2.1 dX7_kindBy_37 rfl (lv_at hl 1 rfl) ?_
      refine lv_iload_n X.1.1 X.1.2.1 dX7_kindBy_38 rfl (lv_at hl 2 rfl) ?_
      refine sx_cvI (As := [.int (nI (e)), .int (nI (f))]) (rest := []) X (mX7_isAhead l (e := e) (f := f) (by omega) (by omega) (hev (e) (by omega)).choose_spec.1 (hev (e) (by omega)).choose_spec.2 h91 h92) gX7_kindBy_X7_isAhead rfl yv_X7_isAhead ⟨Nat.le_of_ble_eq_true rfl, Nat.le_of_ble_eq_true rfl⟩ h91 (by decide) rfl rfl hl.1 rfl (Nat.le_of_ble_eq_true rfl) dX7_kindBy_39 ⟨Nat.le_of_ble_eq_true rfl, Nat.le_of_ble_eq_true rfl⟩ hs rfl hP (fun r3 F3 H3 l3 hp hP => ?_)
      obtain ⟨rfl, ⟨b4, rfl⟩ | ⟨b4, rfl⟩⟩ := hp
      · refine sx_if_eq X (by decide) (tgt := 47) dX7_kindBy_42 (by decide) (fun h => absurd h (by decide)) (fun _ => ?_)
        refine lv_iconst (v := (-1)) X.1.1 X.1.2.1 dX7_kindBy_45 (by decide) ?_
        rw [hQ]
        exact sx_iret X rfl hs rfl hP dX7_kindBy_46 (⟨rfl, by unfold kbF; rw [cif_f (fun q => q.2.2 b4)]⟩)
      · refine sx_if_eq X (by decide) (tgt := 47) dX7_kindBy_42 (by decide) (fun _ => ?_) (fun h => absurd h (by decide))
        refine lv_aload_n X.1.1 X.1.2.1 dX7_kindBy_47 rfl (lv_at hl 0 rfl) ?_
        refine sx_get X hP in_X7_kindBy_X7 h91 (by decide) rfl 0 (by decide) lk_X7_kindBy_fieldLink_RX7_7_RaceWatchModel_w_I rfl dX7_kindBy_48 ?_
        refine lv_bipush (v := nI 92) X.1.1 X.1.2.1 dX7_kindBy_51 (by decide) ?_
        refine lv_bipush (v := nI 8) X.1.1 X.1.2.1 dX7_kindBy_53 (by decide) ?_
        refine lv_iload_n X.1.1 X.1.2.1 dX7_kindBy_55 rfl (lv_at hl 1 rfl) ?_
        refine sx_mulN X (8 * e) (by omega) dX7_kindBy_56 ?_
        refine sx_addN X (92 + 8 * e) (by omega) dX7_kindBy_57 ?_
        refine lv_iconst (v := nI 1) X.1.1 X.1.2.1 dX7_kindBy_58 (by decide) ?_
        refine sx_addN X (93 + 8 * e) (by omega) dX7_kindBy_59 ?_
        refine sx_ald X hP h92 (by decide) (93 + 8 * e) (by omega) (by decide) dX7_kindBy_60 ?_
        refine lv_iconst (v := nI 1) X.1.1 X.1.2.1 dX7_kindBy_61 (by decide) ?_
        refine lv_icmp_ne X.1.1 X.1.2.1 (tgt := 69) dX7_kindBy_62 (by decide) (fun c62 => ?_) (fun c62 => ?_)
        · refine lv_iconst (v := nI 0) X.1.1 X.1.2.1 dX7_kindBy_69 (by decide) ?_
          refine lv_istore (lv' := [(4, .int (nI 0)), (0, rf G 91), (1, .int (nI (e))), (2, .int (nI (f))), (3, .int (nI (c)))]) X.1.1 X.1.2.1 dX7_kindBy_70 hl (by decide) rfl (fun ls hl => ?_)
          refine lv_aload_n X.1.1 X.1.2.1 dX7_kindBy_72 rfl (lv_at hl 1 rfl) ?_
          refine sx_get X hP in_X7_kindBy_X7 h91 (by decide) rfl 0 (by decide) lk_X7_kindBy_fieldLink_RX7_7_RaceWatchModel_w_I rfl dX7_kindBy_73 ?_
          refine lv_bipush (v := nI 92) X.1.1 X.1.2.1 dX7_kindBy_76 (by decide) ?_
          refine lv_bipush (v := nI 8) X.1.1 X.1.2.1 dX7_kindBy_78 (by decide) ?_
          refine lv_iload_n X.1.1 X.1.2.1 dX7_kindBy_80 rfl (lv_at hl 3 rfl) ?_
          refine sx_mulN X (8 * f) (by omega) dX7_kindBy_81 ?_
          refine sx_addN X (92 + 8 * f) (by omega) dX7_kindBy_82 ?_
          refine lv_iconst (v := nI 1) X.1.1 X.1.2.1 dX7_kindBy_83 (by decide) ?_
          refine sx_addN X (93 + 8 * f) (by omega) dX7_kindBy_84 ?_
          refine sx_ald X hP h92 (by decide) (93 + 8 * f) (by omega) (by decide) dX7_kindBy_85 ?_
          refine lv_iconst (v := nI 1) X.1.1 X.1.2.1 dX7_kindBy_86 (by decide) ?_
          refine lv_icmp_ne X.1.1 X.1.2.1 (tgt := 94) dX7_kindBy_87 (by decide) (fun c87 => ?_) (fun c87 => ?_)
          · refine lv_iconst (v := nI 0) X.1.1 X.1.2.1 dX7_kindBy_94 (by decide) ?_
            refine lv_istore (lv' := [(5, .int (nI 0)), (4, .int (nI 0)), (0, rf G 91), (1, .int (nI (e))), (2, .int (nI (f))), (3, .int (nI (c)))]) X.1.1 X.1.2.1 dX7_kindBy_95 hl (by decide) rfl (fun ls hl => ?_)
            refine lv_iload X.1.1 X.1.2.1 dX7_kindBy_97 (lv_at hl 1 rfl) ?_
            refine sx_if_eq X (by decide) (tgt := 111) dX7_kindBy_99 (by decide) (fun _ => ?_) (fun h => absurd h (by decide))
            refine lv_iload X.1.1 X.1.2.1 dX7_kindBy_111 (lv_at hl 1 rfl) ?_
            refine sx_if_eq X (by decide) (tgt := 120) dX7_kindBy_113 (by decide) (fun _ => ?_) (fun h => absurd h (by decide))
            refine lv_iload X.1.1 X.1.2.1 dX7_kindBy_120 (lv_at hl 0 rfl) ?_
            refine sx_if_eq X (by decide) (tgt := 129) dX7_kindBy_122 (by decide) (fun _ => ?_) (fun h => absurd h (by decide))
            refine lv_iconst (v := (-1)) X.1.1 X.1.2.1 dX7_kindBy_129 (by decide) ?_
            rw [hQ]
            exact sx_iret X rfl hs rfl hP dX7_kindBy_130 (⟨rfl, by unfold kbF; rw [cif_t ⟨b2, c33, b4⟩, if_neg c62, if_neg c87]⟩)
          · refine lv_iconst (v := nI 1) X.1.1 X.1.2.1 dX7_kindBy_90 (by decide) ?_
            refine lv_goto (tgt := 95) X.1.1 X.1.2.1 dX7_kindBy_91 (by decide) ?_
            refine lv_istore (lv' := [(5, .int (nI 1)), (4, .int (nI 0)), (0, rf G 91), (1, .int (nI (e))), (2, .int (nI (f))), (3, .int (nI (c)))]) X.1.1 X.1.2.1 dX7_kindBy_95 hl (by decide) rfl (fun ls hl => ?_)
            refine lv_iload X.1.1 X.1.2.1 dX7_kindBy_97 (lv_at hl 1 rfl) ?_
            refine sx_if_eq X (by decide) (tgt := 111) dX7_kindBy_99 (by decide) (fun _ => ?_) (fun h => absurd h (by decide))
            refine lv_iload X.1.1 X.1.2.1 dX7_kindBy_111 (lv_at hl 1 rfl) ?_
            refine sx_if_eq X (by decide) (tgt := 120) dX7_kindBy_113 (by decide) (fun _ => ?_) (fun h => absurd h (by decide))
            refine lv_iload X.1.1 X.1.2.1 dX7_kindBy_120 (lv_at hl 0 rfl) ?_
            refine sx_if_eq X (by decide) (tgt := 129) dX7_kindBy_122 (by decide) (fun h => absurd h (by decide)) (fun _ => ?_)
            refine lv_iconst (v := nI 2) X.1.1 X.1.2.1 dX7_kindBy_125 (by decide) ?_
            refine lv_goto (tgt := 130) X.1.1 X.1.2.1 dX7_kindBy_126 (by decide) ?_
            rw [hQ]
            exact sx_iret X rfl hs rfl hP dX7_kindBy_130 (⟨rfl, by unfold kbF; rw [cif_t ⟨b2, c33, b4⟩, if_neg c62, if_pos c87]⟩)
        · refine lv_iconst (v := nI 1) X.1.1 X.1.2.1 dX7_kindBy_65 (by decide) ?_
          refine lv_goto (tgt := 70) X.1.1 X.1.2.1 dX7_kindBy_66 (by decide) ?_
          refine lv_istore (lv' := [(4, .int (nI 1)), (0, rf G 91), (1, .int (nI (e))), (2, .int (nI (f))), (3, .int (nI (c)))]) X.1.1 X.1.2.1 dX7_kindBy_70 hl (by decide) rfl (fun ls hl => ?_)
          refine lv_aload_n X.1.1 X.1.2.1 dX7_kindBy_72 rfl (lv_at hl 1 rfl) ?_
          refine sx_get X hP in_X7_kindBy_X7 h91 (by decide) rfl 0 (by decide) lk_X7_kindBy_fieldLink_RX7_7_RaceWatchModel_w_I rfl dX7_kindBy_73 ?_
          refine lv_bipush (v := nI 92) X.1.1 X.1.2.1 dX7_kindBy_76 (by decide) ?_
          refine lv_bipush (v := nI 8) X.1.1 X.1.2.1 dX7_kindBy_78 (by decide) ?_
          refine lv_iload_n X.1.1 X.1.2.1 dX7_kindBy_80 rfl (lv_at hl 3 rfl) ?_
          refine sx_mulN X (8 * f) (by omega) dX7_kindBy_81 ?_
          refine sx_addN X (92 + 8 * f) (by omega) dX7_kindBy_82 ?_
          refine lv_iconst (v := nI 1) X.1.1 X.1.2.1 dX7_kindBy_83 (by decide) ?_
          refine sx_addN X (93 + 8 * f) (by omega) dX7_kindBy_84 ?_
          refine sx_ald X hP h92 (by decide) (93 + 8 * f) (by omega) (by decide) dX7_kindBy_85 ?_
          refine lv_iconst (v := nI 1) X.1.1 X.1.2.1 dX7_kindBy_86 (by decide) ?_
          refine lv_icmp_ne X.1.1 X.1.2.1 (tgt := 94) dX7_kindBy_87 (by decide) (fun c87 => ?_) (fun c87 => ?_)
          · refine lv_iconst (v := nI 0) X.1.1 X.1.2.1 dX7_kindBy_94 (by decide) ?_
            refine lv_istore (lv' := [(5, .int (nI 0)), (4, .int (nI 1)), (0, rf G 91), (1, .int (nI (e))), (2, .int (nI (f))), (3, .int (nI (c)))]) X.1.1 X.1.2.1 dX7_kindBy_95 hl (by decide) rfl (fun ls hl => ?_)
            refine lv_iload X.1.1 X.1.2.1 dX7_kindBy_97 (lv_at hl 1 rfl) ?_
            refine sx_if_eq X (by decide) (tgt := 111) dX7_kindBy_99 (by decide) (fun h => absurd h (by decide)) (fun _ => ?_)
            refine lv_iload X.1.1 X.1.2.1 dX7_kindBy_102 (lv_at hl 0 rfl) ?_
            refine sx_if_eq X (by decide) (tgt := 111) dX7_kindBy_104 (by decide) (fun _ => ?_) (fun h => absurd h (by decide))
            refine lv_iload X.1.1 X.1.2.1 dX7_kindBy_111 (lv_at hl 1 rfl) ?_
            refine sx_if_eq X (by decide) (tgt := 120) dX7_kindBy_113 (by decide) (fun h => absurd h (by decide)) (fun _ => ?_)
            refine lv_iconst (v := nI 1) X.1.1 X.1.2.1 dX7_kindBy_116 (by decide) ?_
            refine lv_goto (tgt := 130) X.1.1 X.1.2.1 dX7_kindBy_117 (by decide) ?_
            rw [hQ]
            exact sx_iret X rfl hs rfl hP dX7_kindBy_130 (⟨rfl, by unfold kbF; rw [cif_t ⟨b2, c33, b4⟩, if_pos c62, if_neg c87]⟩)
          · refine lv_iconst (v := nI 1) X.1.1 X.1.2.1 dX7_kindBy_90 (by decide) ?_
            refine lv_goto (tgt := 95) X.1.1 X.1.2.1 dX7_kindBy_91 (by decide) ?_
            refine lv_istore (lv' := [(5, .int (nI 1)), (4, .int (nI 1)), (0, rf G 91), (1, .int (nI (e))), (2, .int (nI (f))), (3, .int (nI (c)))]) X.1.1 X.1.2.1 dX7_kindBy_95 hl (by decide) rfl (fun ls hl => ?_)
            refine lv_iload X.1.1 X.1.2.1 dX7_kindBy_97 (lv_at hl 1 rfl) ?_
            refine sx_if_eq X (by decide) (tgt := 111) dX7_kindBy_99 (by decide) (fun h => absurd h (by decide)) (fun _ => ?_)
            refine lv_iload X.1.1 X.1.2.1 dX7_kindBy_102 (lv_at hl 0 rfl) ?_
            refine sx_if_eq X (by decide) (tgt := 111) dX7_kindBy_104 (by decide) (fun h => absurd h (by decide)) (fun _ => ?_)
            refine lv_iconst (v := nI 0) X.1.1 X.1.2.1 dX7_kindBy_107 (by decide) ?_
            refine lv_goto (tgt := 130) X.1.1 X.1.2.1 dX7_kindBy_108 (by decide) ?_
            rw [hQ]
            exact sx_iret X rfl hs rfl hP dX7_kindBy_130 (⟨rfl, by unfold kbF; rw [cif_t ⟨b2, c33, b4⟩, if_pos c62, if_pos c87]⟩)
  · refine sx_if_eq X (by decide) (tgt := 45) dX7_kindBy_6 (by decide) (fun _ => ?_) (fun h => absurd h (by decide))
    refine lv_iconst (v := (-1)) X.1.1 X.1.2.1 dX7_kindBy_45 (by decide) ?_
    rw [hQ]
    exact sx_iret X rfl hs rfl hP dX7_kindBy_46 (⟨rfl, by unfold kbF; rw [cif_f (fun q => b2 q.1)]⟩)
theorem ys_X7_cell : yX7_cell.cls ≠ "java/lang/invoke/MethodHandle" ∧ yX7_cell.cls ≠ "java/lang/invoke/VarHandle" ∧ (parseMethodDescriptor yX7_cell.desc).map (fun d => d.parameters.length) = some 2 := by decide +kernel
theorem yv_X7_cell : yX7_cell.cls = RX7 ∧ yX7_cell.cls ≠ "java/lang/invoke/MethodHandle" ∧ yX7_cell.cls ≠ "java/lang/invoke/VarHandle" ∧ (parseMethodDescriptor yX7_cell.desc).map (fun d => d.parameters.length) = some 2 := ⟨rfl, ys_X7_cell⟩
theorem in_X7_cell_X7 : ∀ w ∈ wsX70, w ∈ wsX7_cell := fun _ h => List.mem_cons_of_mem _ (List.mem_append_right _ (h))
theorem lk_X7_cell_fieldLink_RX7_7_RaceWatchModel_w_I : (.fieldLink RX7 7 "RaceWatchModel" "w" "[I" : Cond) ∈ wsX7_cell := List.mem_cons_of_mem _ (List.mem_append_left _ (List.mem_of_getElem? (i := 1) rfl))
theorem lk_X7_cell_constant_RX7_98_1000000002 : (.constant RX7 98 (-1000000002) : Cond) ∈ wsX7_cell := List.mem_cons_of_mem _ (List.mem_append_left _ (List.mem_of_getElem? (i := 2) rfl))
theorem lk_X7_cell_constant_RX7_97_1000000001 : (.constant RX7 97 (-1000000001) : Cond) ∈ wsX7_cell := List.mem_cons_of_mem _ (List.mem_append_left _ (List.mem_of_getElem? (i := 0) rfl))
abbrev rmX7_cell : Room := { frames := 2, cells := 0, slots := 0, locals := 45 }
set_option maxHeartbeats 4000000 in
set_option maxRecDepth 100000 in
theorem mX7_cell {G : sx_G} (l : Launch) {F : Nat → va_E} {w : Nat → Int32} {of : List Value} {x o : Int32} (h91 : F (91) = ob 7 (rf G 92 :: of)) (h92 : F (92) = rI G (4358) (w)) : sx_I G l yX7_cell wsX7_cell rmX7_cell [rf G 91, .int (x), .int (o)] (97) F (97) (fun r F1 => F = F1 ∧ cellF w x o = r) := by
  refine sx_enter (cc := cX7_cell) (maxL := 4) (ret := some .int) (own := RX7) (nm := "cell") (by decide) rfl rfl rfl (Nat.le_of_ble_eq_true rfl) ?_
  intro pp ee ss mm args below meth kc ls Q hQ X hs hP hl
  have hl : lv_has ls 4 [(0, rf G 91), (1, .int (x)), (2, .int (o))] := hl
  refine lv_iload_n X.1.1 X.1.2.1 dX7_cell_0 rfl (lv_at hl 1 rfl) ?_
  refine sx_csI (As := [.int (x)]) (rest := []) X (mX7_isCell l (x := (x))) gX7_cell_X7_isCell rfl ys_X7_isCell ⟨Nat.le_of_ble_eq_true rfl, Nat.le_of_ble_eq_true rfl⟩ hl.1 rfl (Nat.le_of_ble_eq_true rfl) dX7_cell_1 ⟨Nat.le_of_ble_eq_true rfl, Nat.le_of_ble_eq_true rfl⟩ hs rfl hP (fun r1 F1 H1 l1 hp hP => ?_)
  obtain ⟨rfl, ⟨b2, rfl⟩ | ⟨b2, rfl⟩⟩ := hp
  · obtain ⟨c, hc, rfl⟩ := b2
    refine sx_if_ne X (by decide) (tgt := 10) dX7_cell_4 (by decide) (fun _ => ?_) (fun h => absurd h (by decide))
    refine lv_iload_n X.1.1 X.1.2.1 dX7_cell_10 rfl (lv_at hl 1 rfl) ?_
    refine sx_csI (As := [.int (nI (c))]) (rest := []) X (mX7_of l (c := c)) gX7_cell_X7_of rfl ys_X7_of ⟨Nat.le_of_ble_eq_true rfl, Nat.le_of_ble_eq_true rfl⟩ hl.1 rfl (Nat.le_of_ble_eq_true rfl) dX7_cell_11 ⟨Nat.le_of_ble_eq_true rfl, Nat.le_of_ble_eq_true rfl⟩ hs rfl hP (fun r3 F3 H3 l3 hp hP => ?_)
    obtain ⟨rfl, rfl⟩ := hp
    refine lv_istore_n (lv' := [(3, .int (nI (43 + 12 * c))), (0, rf G 91), (1, .int (nI (c))), (2, .int (o))]) X.1.1 X.1.2.1 dX7_cell_14 rfl hl (by decide) rfl (fun ls hl => ?_)
    refine lv_iload_n X.1.1 X.1.2.1 dX7_cell_15 rfl (lv_at hl 3 rfl) ?_
    rcases sx_eight o with rfl | rfl | rfl | rfl | rfl | rfl | rfl | rfl | ho
    · refine lv_tableIn (off := 48) (tgt := 64) X.1.1 X.1.2.1 dX7_cell_16 (by decide) (by decide) (by decide) (by decide) ?_
      refine lv_aload_n X.1.1 X.1.2.1 dX7_cell_64 rfl (lv_at hl 1 rfl) ?_
      refine sx_get X hP in_X7_cell_X7 h91 (by decide) rfl 0 (by decide) lk_X7_cell_fieldLink_RX7_7_RaceWatchModel_w_I rfl dX7_cell_65 ?_
      refine lv_iload_n X.1.1 X.1.2.1 dX7_cell_68 rfl (lv_at hl 0 rfl) ?_
      refine lv_iconst (v := nI 0) X.1.1 X.1.2.1 dX7_cell_69 (by decide) ?_
      refine sx_addN X (43 + 12 * c) (by omega) dX7_cell_70 ?_
      refine sx_ald X hP h92 (by decide) (43 + 12 * c) (by omega) (by decide) dX7_cell_71 ?_
      rw [hQ]
      exact sx_iret X rfl hs rfl hP dX7_cell_72 (⟨rfl, by unfold cellF; rw [cif_f (fun q => q ⟨c, hc, rfl⟩), cif_f (fun q => q ⟨0, by decide, rfl⟩), nI_clamp (n := 0) (by decide), nI_clamp (n := c) (by omega)]; rfl⟩)
    · refine lv_tableIn (off := 57) (tgt := 73) X.1.1 X.1.2.1 dX7_cell_16 (by decide) (by decide) (by decide) (by decide) ?_
      refine lv_aload_n X.1.1 X.1.2.1 dX7_cell_73 rfl (lv_at hl 1 rfl) ?_
      refine sx_get X hP in_X7_cell_X7 h91 (by decide) rfl 0 (by decide) lk_X7_cell_fieldLink_RX7_7_RaceWatchModel_w_I rfl dX7_cell_74 ?_
      refine lv_iload_n X.1.1 X.1.2.1 dX7_cell_77 rfl (lv_at hl 0 rfl) ?_
      refine lv_iconst (v := nI 1) X.1.1 X.1.2.1 dX7_cell_78 (by decide) ?_
      refine sx_addN X (44 + 12 * c) (by omega) dX7_cell_79 ?_
      refine sx_ald X hP h92 (by decide) (44 + 12 * c) (by omega) (by decide) dX7_cell_80 ?_
      rw [hQ]
      exact sx_iret X rfl hs rfl hP dX7_cell_81 (⟨rfl, by unfold cellF; rw [cif_f (fun q => q ⟨c, hc, rfl⟩), cif_f (fun q => q ⟨1, by decide, rfl⟩), nI_clamp (n := 1) (by decide), nI_clamp (n := c) (by omega)]; rfl⟩)
    · refine lv_tableIn (off := 66) (tgt := 82) X.1.1 X.1.2.1 dX7_cell_16 (by decide) (by decide) (by decide) (by decide) ?_
      refine lv_aload_n X.1.1 X.1.2.1 dX7_cell_82 rfl (lv_at hl 1 rfl) ?_
      refine sx_get X hP in_X7_cell_X7 h91 (by decide) rfl 0 (by decide) lk_X7_cell_fieldLink_RX7_7_RaceWatchModel_w_I rfl dX7_cell_83 ?_
      refine lv_iload_n X.1.1 X.1.2.1 dX7_cell_86 rfl (lv_at hl 0 rfl) ?_
      refine lv_iconst (v := nI 2) X.1.1 X.1.2.1 dX7_cell_87 (by decide) ?_
      refine sx_addN X (45 + 12 * c) (by omega) dX7_cell_88 ?_
      refine sx_ald X hP h92 (by decide) (45 + 12 * c) (by omega) (by decide) dX7_cell_89 ?_
      rw [hQ]
      exact sx_iret X rfl hs rfl hP dX7_cell_90 (⟨rfl, by unfold cellF; rw [cif_f (fun q => q ⟨c, hc, rfl⟩), cif_f (fun q => q ⟨2, by decide, rfl⟩), nI_clamp (n := 2) (by decide), nI_clamp (n := c) (by omega)]; rfl⟩)
    · refine lv_tableIn (off := 75) (tgt := 91) X.1.1 X.1.2.1 dX7_cell_16 (by decide) (by decide) (by decide) (by decide) ?_
      refine lv_aload_n X.1.1 X.1.2.1 dX7_cell_91 rfl (lv_at hl 1 rfl) ?_
      refine sx_get X hP in_X7_cell_X7 h91 (by decide) rfl 0 (by decide) lk_X7_cell_fieldLink_RX7_7_RaceWatchModel_w_I rfl dX7_cell_92 ?_
      refine lv_iload_n X.1.1 X.1.2.1 dX7_cell_95 rfl (lv_at hl 0 rfl) ?_
      refine lv_iconst (v := nI 3) X.1.1 X.1.2.1 dX7_cell_96 (by decide) ?_
      refine sx_addN X (46 + 12 * c) (by omega) dX7_cell_97 ?_
      refine sx_ald X hP h92 (by decide) (46 + 12 * c) (by omega) (by decide) dX7_cell_98 ?_
      rw [hQ]
      exact sx_iret X rfl hs rfl hP dX7_cell_99 (⟨rfl, by unfold cellF; rw [cif_f (fun q => q ⟨c, hc, rfl⟩), cif_f (fun q => q ⟨3, by decide, rfl⟩), nI_clamp (n := 3) (by decide), nI_clamp (n := c) (by omega)]; rfl⟩)
    · refine lv_tableIn (off := 84) (tgt := 100) X.1.1 X.1.2.1 dX7_cell_16 (by decide) (by decide) (by decide) (by decide) ?_
      refine lv_aload_n X.1.1 X.1.2.1 dX7_cell_100 rfl (lv_at hl 1 rfl) ?_
      refine sx_get X hP in_X7_cell_X7 h91 (by decide) rfl 0 (by decide) lk_X7_cell_fieldLink_RX7_7_RaceWatchModel_w_I rfl dX7_cell_101 ?_
      refine lv_iload_n X.1.1 X.1.2.1 dX7_cell_104 rfl (lv_at hl 0 rfl) ?_
      refine lv_iconst (v := nI 4) X.1.1 X.1.2.1 dX7_cell_105 (by decide) ?_
      refine sx_addN X (47 + 12 * c) (by omega) dX7_cell_106 ?_
      refine sx_ald X hP h92 (by decide) (47 + 12 * c) (by omega) (by decide) dX7_cell_107 ?_
      rw [hQ]
      exact sx_iret X rfl hs rfl hP dX7_cell_108 (⟨rfl, by unfold cellF; rw [cif_f (fun q => q ⟨c, hc, rfl⟩), cif_f (fun q => q ⟨4, by decide, rfl⟩), nI_clamp (n := 4) (by decide), nI_clamp (n := c) (by omega)]; rfl⟩)
    · refine lv_tableIn (off := 93) (tgt := 109) X.1.1 X.1.2.1 dX7_cell_16 (by decide) (by decide) (by decide) (by decide) ?_
      refine lv_aload_n X.1.1 X.1.2.1 dX7_cell_109 rfl (lv_at hl 1 rfl) ?_
      refine sx_get X hP in_X7_cell_X7 h91 (by decide) rfl 0 (by decide) lk_X7_cell_fieldLink_RX7_7_RaceWatchModel_w_I rfl dX7_cell_110 ?_
      refine lv_iload_n X.1.1 X.1.2.1 dX7_cell_113 rfl (lv_at hl 0 rfl) ?_
      refine lv_bipush (v := nI 9) X.1.1 X.1.2.1 dX7_cell_114 (by decide) ?_
      refine sx_addN X (52 + 12 * c) (by omega) dX7_cell_116 ?_
      refine sx_ald X hP h92 (by decide) (52 + 12 * c) (by omega) (by decide) dX7_cell_117 ?_
      rw [hQ]
      exact sx_iret X rfl hs rfl hP dX7_cell_118 (⟨rfl, by unfold cellF; rw [cif_f (fun q => q ⟨c, hc, rfl⟩), cif_f (fun q => q ⟨5, by decide, rfl⟩), nI_clamp (n := 5) (by decide), nI_clamp (n := c) (by omega)]; rfl⟩)
    · refine lv_tableIn (off := 103) (tgt := 119) X.1.1 X.1.2.1 dX7_cell_16 (by decide) (by decide) (by decide) (by decide) ?_
      refine lv_aload_n X.1.1 X.1.2.1 dX7_cell_119 rfl (lv_at hl 1 rfl) ?_
      refine sx_get X hP in_X7_cell_X7 h91 (by decide) rfl 0 (by decide) lk_X7_cell_fieldLink_RX7_7_RaceWatchModel_w_I rfl dX7_cell_120 ?_
      refine lv_iload_n X.1.1 X.1.2.1 dX7_cell_123 rfl (lv_at hl 0 rfl) ?_
      refine lv_bipush (v := nI 10) X.1.1 X.1.2.1 dX7_cell_124 (by decide) ?_
      refine sx_addN X (53 + 12 * c) (by omega) dX7_cell_126 ?_
      refine sx_ald X hP h92 (by decide) (53 + 12 * c) (by omega) (by decide) dX7_cell_127 ?_
      rw [hQ]
      exact sx_iret X rfl hs rfl hP dX7_cell_128 (⟨rfl, by unfold cellF; rw [cif_f (fun q => q ⟨c, hc, rfl⟩), cif_f (fun q => q ⟨6, by decide, rfl⟩), nI_clamp (n := 6) (by decide), nI_clamp (n := c) (by omega)]; rfl⟩)
    · refine lv_tableIn (off := 113) (tgt := 129) X.1.1 X.1.2.1 dX7_cell_16 (by decide) (by decide) (by decide) (by decide) ?_
      refine lv_aload_n X.1.1 X.1.2.1 dX7_cell_129 rfl (lv_at hl 1 rfl) ?_
      refine sx_get X hP in_X7_cell_X7 h91 (by decide) rfl 0 (by decide) lk_X7_cell_fieldLink_RX7_7_RaceWatchModel_w_I rfl dX7_cell_130 ?_
      refine lv_iload_n X.1.1 X.1.2.1 dX7_cell_133 rfl (lv_at hl 0 rfl) ?_
      refine lv_bipush (v := nI 11) X.1.1 X.1.2.1 dX7_cell_134 (by decide) ?_
      refine sx_addN X (54 + 12 * c) (by omega) dX7_cell_136 ?_
      refine sx_ald X hP h92 (by decide) (54 + 12 * c) (by omega) (by decide) dX7_cell_137 ?_
      rw [hQ]
      exact sx_iret X rfl hs rfl hP dX7_cell_138 (⟨rfl, by unfold cellF; rw [cif_f (fun q => q ⟨c, hc, rfl⟩), cif_f (fun q => q ⟨7, by decide, rfl⟩), nI_clamp (n := 7) (by decide), nI_clamp (n := c) (by omega)]; rfl⟩)
    · refine lv_tableOut (tgt := 139) X.1.1 X.1.2.1 dX7_cell_16 (by have := sx_outk (k := 8) (by decide) ho; omega) (by decide) ?_
      refine lv_ldc (v := -1000000002) X.1.1 X.1.2.1 X.1.2.2.2.1 (X.1.2.2.2.2 _ lk_X7_cell_constant_RX7_98_1000000002) dX7_cell_139 ?_
      rw [hQ]
      exact sx_iret X rfl hs rfl hP dX7_cell_141 (⟨rfl, by unfold cellF; rw [cif_f (fun q => q ⟨c, hc, rfl⟩), cif_t ho]⟩)
  · refine sx_if_ne X (by decide) (tgt := 10) dX7_cell_4 (by decide) (fun h => absurd h (by decide)) (fun _ => ?_)
    refine lv_ldc (v := -1000000001) X.1.1 X.1.2.1 X.1.2.2.2.1 (X.1.2.2.2.2 _ lk_X7_cell_constant_RX7_97_1000000001) dX7_cell_7 ?_
    rw [hQ]
    exact sx_iret X rfl hs rfl hP dX7_cell_9 (⟨rfl, by unfold cellF; rw [cif_t b2]⟩)
theorem ys_X7_shared : yX7_shared.cls ≠ "java/lang/invoke/MethodHandle" ∧ yX7_shared.cls ≠ "java/lang/invoke/VarHandle" ∧ (parseMethodDescriptor yX7_shared.desc).map (fun d => d.parameters.length) = some 2 := by decide +kernel
theorem yv_X7_shared : yX7_shared.cls = RX7 ∧ yX7_shared.cls ≠ "java/lang/invoke/MethodHandle" ∧ yX7_shared.cls ≠ "java/lang/invoke/VarHandle" ∧ (parseMethodDescriptor yX7_shared.desc).map (fun d => d.parameters.length) = some 2 := ⟨rfl, ys_X7_shared⟩
theorem in_X7_shared_X7 : ∀ w ∈ wsX70, w ∈ wsX7_shared := fun _ h => List.mem_cons_of_mem _ (List.mem_append_right _ (h))
theorem lk_X7_shared_fieldLink_RX7_7_RaceWatchModel_w_I : (.fieldLink RX7 7 "RaceWatchModel" "w" "[I" : Cond) ∈ wsX7_shared := List.mem_cons_of_mem _ (List.mem_append_left _ (List.mem_of_getElem? (i := 0) rfl))
theorem lk_X7_shared_constant_RX7_97_1000000001 : (.constant RX7 97 (-1000000001) : Cond) ∈ wsX7_shared := List.mem_cons_of_mem _ (List.mem_append_left _ (List.mem_of_getElem? (i := 1) rfl))
abbrev rmX7_shared : Room := { frames := 2, cells := 0, slots := 0, locals := 45 }
set_option maxHeartbeats 4000000 in
set_option maxRecDepth 100000 in
theorem mX7_shared {G : sx_G} (l : Launch) {F : Nat → va_E} {w : Nat → Int32} {of : List Value} {x th : Int32} (h91 : F (91) = ob 7 (rf G 92 :: of)) (h92 : F (92) = rI G (4358) (w)) : sx_I G l yX7_shared wsX7_shared rmX7_shared [rf G 91, .int (x), .int (th)] (97) F (97) (fun r F1 => F = F1 ∧ sharF w x th = r) := by
  refine sx_enter (cc := cX7_shared) (maxL := 3) (ret := some .int) (own := RX7) (nm := "shared") (by decide) rfl rfl rfl (Nat.le_of_ble_eq_true rfl) ?_
  intro pp ee ss mm args below meth kc ls Q hQ X hs hP hl
  have hl : lv_has ls 3 [(0, rf G 91), (1, .int (x)), (2, .int (th))] := hl
  refine lv_iload_n X.1.1 X.1.2.1 dX7_shared_0 rfl (lv_at hl 1 rfl) ?_
  refine sx_csI (As := [.int (x)]) (rest := []) X (mX7_isCell l (x := (x))) gX7_shared_X7_isCell rfl ys_X7_isCell ⟨Nat.le_of_ble_eq_true rfl, Nat.le_of_ble_eq_true rfl⟩ hl.1 rfl (Nat.le_of_ble_eq_true rfl) dX7_shared_1 ⟨Nat.le_of_ble_eq_true rfl, Nat.le_of_ble_eq_true rfl⟩ hs rfl hP (fun r1 F1 H1 l1 hp hP => ?_)
  obtain ⟨rfl, ⟨b2, rfl⟩ | ⟨b2, rfl⟩⟩ := hp
  · obtain ⟨c, hc, rfl⟩ := b2
    refine sx_if_eq X (by decide) (tgt := 30) dX7_shared_4 (by decide) (fun h => absurd h (by decide)) (fun _ => ?_)
    refine lv_iload_n X.1.1 X.1.2.1 dX7_shared_7 rfl (lv_at hl 2 rfl) ?_
    refine sx_csI (As := [.int (th)]) (rest := []) X (mX7_isThread l (x := (th))) gX7_shared_X7_isThread rfl ys_X7_isThread ⟨Nat.le_of_ble_eq_true rfl, Nat.le_of_ble_eq_true rfl⟩ hl.1 rfl (Nat.le_of_ble_eq_true rfl) dX7_shared_8 ⟨Nat.le_of_ble_eq_true rfl, Nat.le_of_ble_eq_true rfl⟩ hs rfl hP (fun r3 F3 H3 l3 hp hP => ?_)
    obtain ⟨rfl, ⟨b4, rfl⟩ | ⟨b4, rfl⟩⟩ := hp
    · obtain ⟨t, ht, rfl⟩ := b4
      refine sx_if_eq X (by decide) (tgt := 30) dX7_shared_11 (by decide) (fun h => absurd h (by decide)) (fun _ => ?_)
      refine lv_aload_n X.1.1 X.1.2.1 dX7_shared_14 rfl (lv_at hl 0 rfl) ?_
      refine sx_get X hP in_X7_shared_X7 h91 (by decide) rfl 0 (by decide) lk_X7_shared_fieldLink_RX7_7_RaceWatchModel_w_I rfl dX7_shared_15 ?_
      refine lv_iload_n X.1.1 X.1.2.1 dX7_shared_18 rfl (lv_at hl 1 rfl) ?_
      refine sx_csI (As := [.int (nI (c))]) (rest := rf G 92 :: []) X (mX7_of l (c := c)) gX7_shared_X7_of rfl ys_X7_of ⟨Nat.le_of_ble_eq_true rfl, Nat.le_of_ble_eq_true rfl⟩ hl.1 rfl (Nat.le_of_ble_eq_true rfl) dX7_shared_19 ⟨Nat.le_of_ble_eq_true rfl, Nat.le_of_ble_eq_true rfl⟩ hs rfl hP (fun r5 F5 H5 l5 hp hP => ?_)
      obtain ⟨rfl, rfl⟩ := hp
      refine lv_iconst (v := nI 5) X.1.1 X.1.2.1 dX7_shared_22 (by decide) ?_
      refine sx_addN X (48 + 12 * c) (by omega) dX7_shared_23 ?_
      refine lv_iload_n X.1.1 X.1.2.1 dX7_shared_24 rfl (lv_at hl 2 rfl) ?_
      refine sx_addN X (48 + 12 * c + t) (by omega) dX7_shared_25 ?_
      refine sx_ald X hP h92 (by decide) (48 + 12 * c + t) (by omega) (by decide) dX7_shared_26 ?_
      refine lv_goto (tgt := 32) X.1.1 X.1.2.1 dX7_shared_27 (by decide) ?_
      rw [hQ]
      exact sx_iret X rfl hs rfl hP dX7_shared_32 (⟨rfl, by unfold sharF; rw [cif_t ⟨⟨c, hc, rfl⟩, ⟨t, ht, rfl⟩⟩, nI_clamp (by omega), nI_clamp (by omega)]⟩)
    · refine sx_if_eq X (by decide) (tgt := 30) dX7_shared_11 (by decide) (fun _ => ?_) (fun h => absurd h (by decide))
      refine lv_ldc (v := -1000000001) X.1.1 X.1.2.1 X.1.2.2.2.1 (X.1.2.2.2.2 _ lk_X7_shared_constant_RX7_97_1000000001) dX7_shared_30 ?_
      rw [hQ]
      exact sx_iret X rfl hs rfl hP dX7_shared_32 (⟨rfl, by unfold sharF; rw [cif_f (fun q => b4 q.2)]⟩)
  · refine sx_if_eq X (by decide) (tgt := 30) dX7_shared_4 (by decide) (fun _ => ?_) (fun h => absurd h (by decide))
    refine lv_ldc (v := -1000000001) X.1.1 X.1.2.1 X.1.2.2.2.1 (X.1.2.2.2.2 _ lk_X7_shared_constant_RX7_97_1000000001) dX7_shared_30 ?_
    rw [hQ]
    exact sx_iret X rfl hs rfl hP dX7_shared_32 (⟨rfl, by unfold sharF; rw [cif_f (fun q => b2 q.1)]⟩)
theorem ys_X7_would : yX7_would.cls ≠ "java/lang/invoke/MethodHandle" ∧ yX7_would.cls ≠ "java/lang/invoke/VarHandle" ∧ (parseMethodDescriptor yX7_would.desc).map (fun d => d.parameters.length) = some 3 := by decide +kernel
theorem yv_X7_would : yX7_would.cls = RX7 ∧ yX7_would.cls ≠ "java/lang/invoke/MethodHandle" ∧ yX7_would.cls ≠ "java/lang/invoke/VarHandle" ∧ (parseMethodDescriptor yX7_would.desc).map (fun d => d.parameters.length) = some 3 := ⟨rfl, ys_X7_would⟩
theorem in_X7_would_X7 : ∀ w ∈ wsX70, w ∈ wsX7_would := fun _ h => List.mem_cons_of_mem _ (List.mem_append_right _ (h))
theorem lk_X7_would_fieldLink_RX7_7_RaceWatchModel_w_I : (.fieldLink RX7 7 "RaceWatchModel" "w" "[I" : Cond) ∈ wsX7_would := List.mem_cons_of_mem _ (List.mem_append_left _ (List.mem_append_left _ (List.mem_of_getElem? (i := 1) rfl)))
theorem lk_X7_would_constant_RX7_102_1000000003 : (.constant RX7 102 (-1000000003) : Cond) ∈ wsX7_would := List.mem_cons_of_mem _ (List.mem_append_left _ (List.mem_append_left _ (List.mem_of_getElem? (i := 2) rfl)))
theorem lk_X7_would_constant_RX7_97_1000000001 : (.constant RX7 97 (-1000000001) : Cond) ∈ wsX7_would := List.mem_cons_of_mem _ (List.mem_append_left _ (List.mem_append_left _ (List.mem_of_getElem? (i := 0) rfl)))
abbrev rmX7_would : Room := { frames := 2, cells := 0, slots := 0, locals := 50 }
set_option maxHeartbeats 4000000 in
set_option maxRecDepth 100000 in
theorem mX7_would {G : sx_G} (l : Launch) {F : Nat → va_E} {w : Nat → Int32} {of : List Value} {th x : Int32} {wr : Nat} (hwr : wr < 2) (hok : ∀ c, c < 4 → okC w c) (h91 : F (91) = ob 7 (rf G 92 :: of)) (h92 : F (92) = rI G (4358) (w)) : sx_I G l yX7_would wsX7_would rmX7_would [rf G 91, .int (th), .int (x), .int (nI (wr))] (97) F (97) (fun r F1 => F = F1 ∧ wouldF w th x wr = r) := by
  refine sx_enter (cc := cX7_would) (maxL := 4) (ret := some .int) (own := RX7) (nm := "would") (by decide) rfl rfl rfl (Nat.le_of_ble_eq_true rfl) ?_
  intro pp ee ss mm args below meth kc ls Q hQ X hs hP hl
  have hl : lv_has ls 4 [(0, rf G 91), (1, .int (th)), (2, .int (x)), (3, .int (nI (wr)))] := hl
  refine lv_iload_n X.1.1 X.1.2.1 dX7_would_0 rfl (lv_at hl 1 rfl) ?_
  refine sx_csI (As := [.int (th)]) (rest := []) X (mX7_isThread l (x := (th))) gX7_would_X7_isThread rfl ys_X7_isThread ⟨Nat.le_of_ble_eq_true rfl, Nat.le_of_ble_eq_true rfl⟩ hl.1 rfl (Nat.le_of_ble_eq_true rfl) dX7_would_1 ⟨Nat.le_of_ble_eq_true rfl, Nat.le_of_ble_eq_true rfl⟩ hs rfl hP (fun r1 F1 H1 l1 hp hP => ?_)
  obtain ⟨rfl, ⟨b2, rfl⟩ | ⟨b2, rfl⟩⟩ := hp
  · obtain ⟨t, ht, rfl⟩ := b2
    refine sx_if_eq X (by decide) (tgt := 14) dX7_would_4 (by decide) (fun h => absurd h (by decide)) (fun _ => ?_)
    refine lv_iload_n X.1.1 X.1.2.1 dX7_would_7 rfl (lv_at hl 2 rfl) ?_
    refine sx_csI (As := [.int (x)]) (rest := []) X (mX7_isCell l (x := (x))) gX7_would_X7_isCell rfl ys_X7_isCell ⟨Nat.le_of_ble_eq_true rfl, Nat.le_of_ble_eq_true rfl⟩ hl.1 rfl (Nat.le_of_ble_eq_true rfl) dX7_would_8 ⟨Nat.le_of_ble_eq_true rfl, Nat.le_of_ble_eq_true rfl⟩ hs rfl hP (fun r3 F3 H3 l3 hp hP => ?_)
    obtain ⟨rfl, ⟨b4, rfl⟩ | ⟨b4, rfl⟩⟩ := hp
    · obtain ⟨c, hc, rfl⟩ := b4
      refine sx_if_ne X (by decide) (tgt := 17) dX7_would_11 (by decide) (fun _ => ?_) (fun h => absurd h (by decide))
      refine lv_aload_n X.1.1 X.1.2.1 dX7_would_17 rfl (lv_at hl 0 rfl) ?_
      refine sx_get X hP in_X7_would_X7 h91 (by decide) rfl 0 (by decide) lk_X7_would_fieldLink_RX7_7_RaceWatchModel_w_I rfl dX7_would_18 ?_
      refine lv_iconst (v := nI 0) X.1.1 X.1.2.1 dX7_would_21 (by decide) ?_
      refine lv_iload_n X.1.1 X.1.2.1 dX7_would_22 rfl (lv_at hl 1 rfl) ?_
      refine sx_addN X (t) (by omega) dX7_would_23 ?_
      refine sx_ald X hP h92 (by decide) (t) (by omega) (by decide) dX7_would_24 ?_
      refine lv_iconst (v := nI 1) X.1.1 X.1.2.1 dX7_would_25 (by decide) ?_
      refine lv_icmp_ne X.1.1 X.1.2.1 (tgt := 39) dX7_would_26 (by decide) (fun c26 => ?_) (fun c26 => ?_)
      · refine lv_ldc (v := -1000000003) X.1.1 X.1.2.1 X.1.2.2.2.1 (X.1.2.2.2.2 _ lk_X7_would_constant_RX7_102_1000000003) dX7_would_39 ?_
        rw [hQ]
        exact sx_iret X rfl hs rfl hP dX7_would_41 (⟨rfl, by unfold wouldF; rw [cif_f (fun q => q ⟨⟨t, ht, rfl⟩, ⟨c, hc, rfl⟩⟩), nI_clamp (by omega), nI_clamp (by omega), if_neg c26]⟩)
      · refine lv_aload_n X.1.1 X.1.2.1 dX7_would_29 rfl (lv_at hl 0 rfl) ?_
        refine lv_iload_n X.1.1 X.1.2.1 dX7_would_30 rfl (lv_at hl 1 rfl) ?_
        refine lv_iload_n X.1.1 X.1.2.1 dX7_would_31 rfl (lv_at hl 2 rfl) ?_
        refine lv_iload_n X.1.1 X.1.2.1 dX7_would_32 rfl (lv_at hl 3 rfl) ?_
        refine sx_cvI (As := [.int (nI (t)), .int (nI (c)), .int (nI (wr))]) (rest := []) X (mX7_kindOf l (t := t) (c := c) (wr := wr) (by omega) (by omega) (by omega) (hok _ (by omega)) h91 h92) gX7_would_X7_kindOf rfl yv_X7_kindOf ⟨Nat.le_of_ble_eq_true rfl, Nat.le_of_ble_eq_true rfl⟩ h91 (by decide) rfl rfl hl.1 rfl (Nat.le_of_ble_eq_true rfl) dX7_would_33 ⟨Nat.le_of_ble_eq_true rfl, Nat.le_of_ble_eq_true rfl⟩ hs rfl hP (fun r5 F5 H5 l5 hp hP => ?_)
        obtain ⟨rfl, rfl⟩ := hp
        refine lv_goto (tgt := 41) X.1.1 X.1.2.1 dX7_would_36 (by decide) ?_
        rw [hQ]
        exact sx_iret X rfl hs rfl hP dX7_would_41 (⟨rfl, by unfold wouldF; rw [cif_f (fun q => q ⟨⟨t, ht, rfl⟩, ⟨c, hc, rfl⟩⟩), nI_clamp (by omega), nI_clamp (by omega), if_pos c26]⟩)
    · refine sx_if_ne X (by decide) (tgt := 17) dX7_would_11 (by decide) (fun h => absurd h (by decide)) (fun _ => ?_)
      refine lv_ldc (v := -1000000001) X.1.1 X.1.2.1 X.1.2.2.2.1 (X.1.2.2.2.2 _ lk_X7_would_constant_RX7_97_1000000001) dX7_would_14 ?_
      rw [hQ]
      exact sx_iret X rfl hs rfl hP dX7_would_16 (⟨rfl, by unfold wouldF; rw [cif_t (fun q => b4 q.2)]⟩)
  · refine sx_if_eq X (by decide) (tgt := 14) dX7_would_4 (by decide) (fun _ => ?_) (fun h => absurd h (by decide))
    refine lv_ldc (v := -1000000001) X.1.1 X.1.2.1 X.1.2.2.2.1 (X.1.2.2.2.2 _ lk_X7_would_constant_RX7_97_1000000001) dX7_would_14 ?_
    rw [hQ]
    exact sx_iret X rfl hs rfl hP dX7_would_16 (⟨rfl, by unfold wouldF; rw [cif_t (fun q => b2 q.1)]⟩)
