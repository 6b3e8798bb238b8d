theorem ys_X7_racesOf : yX7_racesOf.cls ≠ "java/lang/invoke/MethodHandle" ∧ yX7_racesOf.cls ≠ "java/lang/invoke/VarHandle" ∧ (parseMethodDescriptor yX7_racesOf.desc).map (fun d => d.parameters.length) = some 2 := by decide +kernel
theorem yv_X7_racesOf : yX7_racesOf.cls = RX7 ∧ yX7_racesOf.cls ≠ "java/lang/invoke/MethodHandle" ∧ yX7_racesOf.cls ≠ "java/lang/invoke/VarHandle" ∧ (parseMethodDescriptor yX7_racesOf.desc).map (fun d => d.parameters.length) = some 2 := ⟨rfl, ys_X7_racesOf⟩
theorem in_X7_racesOf_X7 : ∀ w ∈ wsX70, w ∈ wsX7_racesOf := fun _ h => List.mem_cons_of_mem _ (List.mem_append_right _ (h))
theorem lk_X7_racesOf_fieldLink_RX7_7_RaceWatchModel_w_I : (.fieldLink RX7 7 "RaceWatchModel" "w" "[I" : Cond) ∈ wsX7_racesOf := List.mem_cons_of_mem _ (List.mem_append_left _ (List.mem_of_getElem? (i := 0) rfl))
abbrev rmX7_racesOf : Room := { frames := 2, cells := 0, slots := 0, locals := 48 }
set_option maxHeartbeats 4000000 in
set_option maxRecDepth 100000 in
theorem mX7_racesOf {G : sx_G} (l : Launch) {F : Nat → va_E} {w : Nat → Int32} {of : List Value} {c k n : Nat} (hc : c < 4) (hk4 : k < 4) (hn : n ≤ 160) (h91n : w 91 = nI n) (hev : ∀ e, e < n → ∃ t, t < 4 ∧ w (92 + 8 * e) = nI t) (h91 : F (91) = ob 7 (rf G 92 :: of)) (h92 : F (92) = rI G (4358) (w)) : sx_I G l yX7_racesOf wsX7_racesOf rmX7_racesOf [rf G 91, .int (nI (c)), .int (nI (k))] (97) F (97) (fun r F1 => F = F1 ∧ nI (rcN w c k n) = r) := by
  refine sx_enter (cc := cX7_racesOf) (maxL := 7) (ret := some .int) (own := RX7) (nm := "racesOf") (by decide) rfl rfl rfl (Nat.le_of_ble_eq_true rfl) ?_
  intro pp ee ss mm args below meth kc ls Q hQ X hs hP hl
  have hl : lv_has ls 7 [(0, rf G 91), (1, .int (nI (c))), (2, .int (nI (k)))] := hl
  refine lv_iconst (v := nI 0) X.1.1 X.1.2.1 dX7_racesOf_0 (by decide) ?_
  refine lv_istore_n (lv' := [(3, .int (nI 0)), (0, rf G 91), (1, .int (nI (c))), (2, .int (nI (k)))]) X.1.1 X.1.2.1 dX7_racesOf_1 rfl hl (by decide) rfl (fun ls hl => ?_)
  refine lv_iconst (v := nI 0) X.1.1 X.1.2.1 dX7_racesOf_2 (by decide) ?_
  refine lv_istore (lv' := [(4, .int (nI 0)), (3, .int (nI 0)), (0, rf G 91), (1, .int (nI (c))), (2, .int (nI (k)))]) X.1.1 X.1.2.1 dX7_racesOf_3 hl (by decide) rfl (fun ls hl => ?_)
  have lo : ∀ (k_lo : Nat) (a : Nat) (f : Nat) (Hv : Heap) (lv : List Loc) (ls : Array Slot), (f + k_lo = n) → (a = rcN w c k f) → sx_H G (97) F ss.heap Hv lv → lv_has ls 7 [(0, rf G 91), (1, .int (nI (c))), (2, .int (nI (k))), (3, .int (nI (a))), (4, .int (nI (f)))] → W pp l ee rmX7_racesOf ss mm args below meth kc Hv lv 0 0 Q (F0 mm 5 ls []) := by
    intro k_lo
    induction k_lo with
    | zero =>
      intro a f Hv lv ls hk ha hP hl
      refine lv_iload X.1.1 X.1.2.1 dX7_racesOf_5 (lv_at hl 4 rfl) ?_
      refine lv_aload_n X.1.1 X.1.2.1 dX7_racesOf_7 rfl (lv_at hl 0 rfl) ?_
      refine sx_get X hP in_X7_racesOf_X7 h91 (by decide) rfl 0 (by decide) lk_X7_racesOf_fieldLink_RX7_7_RaceWatchModel_w_I rfl dX7_racesOf_8 ?_
      refine lv_bipush (v := nI 91) X.1.1 X.1.2.1 dX7_racesOf_11 (by decide) ?_
      refine sx_ald X hP h92 (by decide) (91) (by decide) (by decide) dX7_racesOf_13 ?_
      rw [h91n]
      refine sx_icmp_ge X (by omega) (by omega) (tgt := 85) dX7_racesOf_14 (by decide) (fun c14 => ?_) (fun c14 => absurd c14 (by omega))
      refine lv_iload_n X.1.1 X.1.2.1 dX7_racesOf_85 rfl (lv_at hl 3 rfl) ?_
      rw [hQ]
      exact sx_iret X rfl hs rfl hP dX7_racesOf_86 (⟨rfl, by rw [ha, show f = n by omega]⟩)
    | succ k_lo ih_lo =>
      intro a f Hv lv ls hk ha hP hl
      refine lv_iload X.1.1 X.1.2.1 dX7_racesOf_5 (lv_at hl 4 rfl) ?_
      refine lv_aload_n X.1.1 X.1.2.1 dX7_racesOf_7 rfl (lv_at hl 0 rfl) ?_
      refine sx_get X hP in_X7_racesOf_X7 h91 (by decide) rfl 0 (by decide) lk_X7_racesOf_fieldLink_RX7_7_RaceWatchModel_w_I rfl dX7_racesOf_8 ?_
      refine lv_bipush (v := nI 91) X.1.1 X.1.2.1 dX7_racesOf_11 (by decide) ?_
      refine sx_ald X hP h92 (by decide) (91) (by decide) (by decide) dX7_racesOf_13 ?_
      rw [h91n]
      refine sx_icmp_ge X (by omega) (by omega) (tgt := 85) dX7_racesOf_14 (by decide) (fun c14 => absurd c14 (by omega)) (fun c14 => ?_)
      refine lv_iconst (v := nI 0) X.1.1 X.1.2.1 dX7_racesOf_17 (by decide) ?_
      refine lv_istore (lv' := [(5, .int (nI 0)), (0, rf G 91), (1, .int (nI (c))), (2, .int (nI (k))), (3, .int (nI (a))), (4, .int (nI (f)))]) X.1.1 X.1.2.1 dX7_racesOf_18 hl (by decide) rfl (fun ls hl => ?_)
      have li : ∀ (k_li : Nat) (b : Nat) (e : Nat) (Hv : Heap) (lv : List Loc) (ls : Array Slot), (e + k_li = f) → (b = rcN w c k f + cntE w c k f e) → (e = 0 ∨ accB w f c) → sx_H G (97) F ss.heap Hv lv → lv_has ls 7 [(0, rf G 91), (1, .int (nI (c))), (2, .int (nI (k))), (3, .int (nI (b))), (4, .int (nI (f))), (5, .int (nI (e)))] → W pp l ee rmX7_racesOf ss mm args below meth kc Hv lv 0 0 Q (F0 mm 20 ls []) := by
        intro k_li
        induction k_li with
        | zero =>
          intro b e Hv lv ls hk2 ha2 hacc hP hl
          refine lv_iload X.1.1 X.1.2.1 dX7_racesOf_20 (lv_at hl 5 rfl) ?_
          refine lv_iload X.1.1 X.1.2.1 dX7_racesOf_22 (lv_at hl 4 rfl) ?_
          refine sx_icmp_ge X (by omega) (by omega) (tgt := 79) dX7_racesOf_24 (by decide) (fun c24 => ?_) (fun c24 => absurd c24 (by omega))
          refine lv_iinc (v := (nI (1 + f))) (lv' := [(4, .int (nI (1 + f))), (0, rf G 91), (1, .int (nI (c))), (2, .int (nI (k))), (3, .int (nI (b))), (5, .int (nI (e)))]) X.1.1 X.1.2.1 dX7_racesOf_79 hl (k := 4) rfl (sx_inc1 (by omega)) (by decide) rfl (fun ls hl => ?_)
          refine lv_goto (tgt := 5) X.1.1 X.1.2.1 dX7_racesOf_82 (by decide) ?_
          exact ih_lo (b) (1 + f) _ _ _ (by omega) (by rw [rcN_t (by omega) hacc]; exact ha2)  hP (lv_sub hl [1, 2, 3, 4, 0] rfl)
        | succ k_li ih_li =>
          intro b e Hv lv ls hk2 ha2 hacc hP hl
          refine lv_iload X.1.1 X.1.2.1 dX7_racesOf_20 (lv_at hl 5 rfl) ?_
          refine lv_iload X.1.1 X.1.2.1 dX7_racesOf_22 (lv_at hl 4 rfl) ?_
          refine sx_icmp_ge X (by omega) (by omega) (tgt := 79) dX7_racesOf_24 (by decide) (fun c24 => absurd c24 (by omega)) (fun c24 => ?_)
          refine lv_aload_n X.1.1 X.1.2.1 dX7_racesOf_27 rfl (lv_at hl 0 rfl) ?_
          refine lv_iload X.1.1 X.1.2.1 dX7_racesOf_28 (lv_at hl 4 rfl) ?_
          refine lv_iload_n X.1.1 X.1.2.1 dX7_racesOf_30 rfl (lv_at hl 1 rfl) ?_
          refine sx_cvI (As := [.int (nI (f)), .int (nI (c))]) (rest := []) X (mX7_isAccess l (e := f) (c := c) (by omega) h91 h92) gX7_racesOf_X7_isAccess rfl yv_X7_isAccess ⟨Nat.le_of_ble_eq_true rfl, Nat.le_of_ble_eq_true rfl⟩ h91 (by decide) rfl rfl hl.1 rfl (Nat.le_of_ble_eq_true rfl) dX7_racesOf_31 ⟨Nat.le_of_ble_eq_true rfl, Nat.le_of_ble_eq_true rfl⟩ hs rfl hP (fun r1 F1 H1 l1 hp hP => ?_)
          obtain ⟨rfl, ⟨b2, rfl⟩ | ⟨b2, rfl⟩⟩ := hp
          · refine sx_if_eq X (by decide) (tgt := 79) dX7_racesOf_34 (by decide) (fun h => absurd h (by decide)) (fun _ => ?_)
            refine lv_aload_n X.1.1 X.1.2.1 dX7_racesOf_37 rfl (lv_at hl 0 rfl) ?_
            refine lv_iload X.1.1 X.1.2.1 dX7_racesOf_38 (lv_at hl 5 rfl) ?_
            refine lv_iload X.1.1 X.1.2.1 dX7_racesOf_40 (lv_at hl 4 rfl) ?_
            refine lv_iload_n X.1.1 X.1.2.1 dX7_racesOf_42 rfl (lv_at hl 1 rfl) ?_
            refine sx_cvI (As := [.int (nI (e)), .int (nI (f)), .int (nI (c))]) (rest := []) X (mX7_kindBy l (e := e) (f := f) (c := c) (n := n) (by omega) (by omega) hn hev h91 h92) gX7_racesOf_X7_kindBy rfl yv_X7_kindBy ⟨Nat.le_of_ble_eq_true rfl, Nat.le_of_ble_eq_true rfl⟩ h91 (by decide) rfl rfl hl.1 rfl (Nat.le_of_ble_eq_true rfl) dX7_racesOf_43 ⟨Nat.le_of_ble_eq_true rfl, Nat.le_of_ble_eq_true rfl⟩ hs rfl hP (fun r3 F3 H3 l3 hp hP => ?_)
            obtain ⟨rfl, rfl⟩ := hp
            refine lv_istore (lv' := [(6, .int (kbF w (e) (f) (c))), (0, rf G 91), (1, .int (nI (c))), (2, .int (nI (k))), (3, .int (nI (b))), (4, .int (nI (f))), (5, .int (nI (e)))]) X.1.1 X.1.2.1 dX7_racesOf_46 hl (by decide) rfl (fun ls hl => ?_)
            refine lv_iload_n X.1.1 X.1.2.1 dX7_racesOf_48 rfl (lv_at hl 4 rfl) ?_
            refine lv_iload X.1.1 X.1.2.1 dX7_racesOf_49 (lv_at hl 0 rfl) ?_
            refine lv_iconst (v := (-1)) X.1.1 X.1.2.1 dX7_racesOf_51 (by decide) ?_
            refine lv_icmp_eq X.1.1 X.1.2.1 (tgt := 70) dX7_racesOf_52 (by decide) (fun c52 => ?_) (fun c52 => ?_)
            · refine lv_iconst (v := nI 0) X.1.1 X.1.2.1 dX7_racesOf_70 (by decide) ?_
              refine sx_addN X (b) (by omega) dX7_racesOf_71 ?_
              refine lv_istore_n (lv' := [(3, .int (nI (b))), (6, .int (kbF w (e) (f) (c))), (0, rf G 91), (1, .int (nI (c))), (2, .int (nI (k))), (4, .int (nI (f))), (5, .int (nI (e)))]) X.1.1 X.1.2.1 dX7_racesOf_72 rfl hl (by decide) rfl (fun ls hl => ?_)
              refine lv_iinc (v := (nI (1 + e))) (lv' := [(5, .int (nI (1 + e))), (3, .int (nI (b))), (6, .int (kbF w (e) (f) (c))), (0, rf G 91), (1, .int (nI (c))), (2, .int (nI (k))), (4, .int (nI (f)))]) X.1.1 X.1.2.1 dX7_racesOf_73 hl (k := 6) rfl (sx_inc1 (by omega)) (by decide) rfl (fun ls hl => ?_)
              refine lv_goto (tgt := 20) X.1.1 X.1.2.1 dX7_racesOf_76 (by decide) ?_
              exact ih_li (b) (1 + e) _ _ _ (by omega) (by rw [cntE_f (fun q => q.1 c52)]; omega) (Or.inr b2)  hP (lv_sub hl [3, 4, 5, 1, 6, 0] rfl)
            · refine lv_iload_n X.1.1 X.1.2.1 dX7_racesOf_55 rfl (lv_at hl 3 rfl) ?_
              refine lv_iconst (v := nI 3) X.1.1 X.1.2.1 dX7_racesOf_56 (by decide) ?_
              refine sx_icmp_eq X (by omega) (by decide) (tgt := 66) dX7_racesOf_57 (by decide) (fun c57 => ?_) (fun c57 => ?_)
              · refine lv_iconst (v := nI 1) X.1.1 X.1.2.1 dX7_racesOf_66 (by decide) ?_
                refine lv_goto (tgt := 71) X.1.1 X.1.2.1 dX7_racesOf_67 (by decide) ?_
                refine sx_addN X (1 + b) (by omega) dX7_racesOf_71 ?_
                refine lv_istore_n (lv' := [(3, .int (nI (1 + b))), (6, .int (kbF w (e) (f) (c))), (0, rf G 91), (1, .int (nI (c))), (2, .int (nI (k))), (4, .int (nI (f))), (5, .int (nI (e)))]) X.1.1 X.1.2.1 dX7_racesOf_72 rfl hl (by decide) rfl (fun ls hl => ?_)
                refine lv_iinc (v := (nI (1 + e))) (lv' := [(5, .int (nI (1 + e))), (3, .int (nI (1 + b))), (6, .int (kbF w (e) (f) (c))), (0, rf G 91), (1, .int (nI (c))), (2, .int (nI (k))), (4, .int (nI (f)))]) X.1.1 X.1.2.1 dX7_racesOf_73 hl (k := 6) rfl (sx_inc1 (by omega)) (by decide) rfl (fun ls hl => ?_)
                refine lv_goto (tgt := 20) X.1.1 X.1.2.1 dX7_racesOf_76 (by decide) ?_
                exact ih_li (1 + b) (1 + e) _ _ _ (by omega) (by rw [cntE_t ⟨c52, Or.inl c57⟩]; omega) (Or.inr b2)  hP (lv_sub hl [3, 4, 5, 1, 6, 0] rfl)
              · refine lv_iload X.1.1 X.1.2.1 dX7_racesOf_60 (lv_at hl 0 rfl) ?_
                refine lv_iload_n X.1.1 X.1.2.1 dX7_racesOf_62 rfl (lv_at hl 3 rfl) ?_
                refine lv_icmp_ne X.1.1 X.1.2.1 (tgt := 70) dX7_racesOf_63 (by decide) (fun c63 => ?_) (fun c63 => ?_)
                · refine lv_iconst (v := nI 0) X.1.1 X.1.2.1 dX7_racesOf_70 (by decide) ?_
                  refine sx_addN X (b) (by omega) dX7_racesOf_71 ?_
                  refine lv_istore_n (lv' := [(3, .int (nI (b))), (6, .int (kbF w (e) (f) (c))), (0, rf G 91), (1, .int (nI (c))), (2, .int (nI (k))), (4, .int (nI (f))), (5, .int (nI (e)))]) X.1.1 X.1.2.1 dX7_racesOf_72 rfl hl (by decide) rfl (fun ls hl => ?_)
                  refine lv_iinc (v := (nI (1 + e))) (lv' := [(5, .int (nI (1 + e))), (3, .int (nI (b))), (6, .int (kbF w (e) (f) (c))), (0, rf G 91), (1, .int (nI (c))), (2, .int (nI (k))), (4, .int (nI (f)))]) X.1.1 X.1.2.1 dX7_racesOf_73 hl (k := 6) rfl (sx_inc1 (by omega)) (by decide) rfl (fun ls hl => ?_)
                  refine lv_goto (tgt := 20) X.1.1 X.1.2.1 dX7_racesOf_76 (by decide) ?_
                  exact ih_li (b) (1 + e) _ _ _ (by omega) (by rw [cntE_f (fun q => q.2.elim c57 c63)]; omega) (Or.inr b2)  hP (lv_sub hl [3, 4, 5, 1, 6, 0] rfl)
                · refine lv_iconst (v := nI 1) X.1.1 X.1.2.1 dX7_racesOf_66 (by decide) ?_
                  refine lv_goto (tgt := 71) X.1.1 X.1.2.1 dX7_racesOf_67 (by decide) ?_
                  refine sx_addN X (1 + b) (by omega) dX7_racesOf_71 ?_
                  refine lv_istore_n (lv' := [(3, .int (nI (1 + b))), (6, .int (kbF w (e) (f) (c))), (0, rf G 91), (1, .int (nI (c))), (2, .int (nI (k))), (4, .int (nI (f))), (5, .int (nI (e)))]) X.1.1 X.1.2.1 dX7_racesOf_72 rfl hl (by decide) rfl (fun ls hl => ?_)
                  refine lv_iinc (v := (nI (1 + e))) (lv' := [(5, .int (nI (1 + e))), (3, .int (nI (1 + b))), (6, .int (kbF w (e) (f) (c))), (0, rf G 91), (1, .int (nI (c))), (2, .int (nI (k))), (4, .int (nI (f)))]) X.1.1 X.1.2.1 dX7_racesOf_73 hl (k := 6) rfl (sx_inc1 (by omega)) (by decide) rfl (fun ls hl => ?_)
                  refine lv_goto (tgt := 20) X.1.1 X.1.2.1 dX7_racesOf_76 (by decide) ?_
                  exact ih_li (1 + b) (1 + e) _ _ _ (by omega) (by rw [cntE_t ⟨c52, Or.inr c63⟩]; omega) (Or.inr b2)  hP (lv_sub hl [3, 4, 5, 1, 6, 0] rfl)
          · refine sx_if_eq X (by decide) (tgt := 79) dX7_racesOf_34 (by decide) (fun _ => ?_) (fun h => absurd h (by decide))
            refine lv_iinc (v := (nI (1 + f))) (lv' := [(4, .int (nI (1 + f))), (0, rf G 91), (1, .int (nI (c))), (2, .int (nI (k))), (3, .int (nI (b))), (5, .int (nI (e)))]) X.1.1 X.1.2.1 dX7_racesOf_79 hl (k := 4) rfl (sx_inc1 (by omega)) (by decide) rfl (fun ls hl => ?_)
            refine lv_goto (tgt := 5) X.1.1 X.1.2.1 dX7_racesOf_82 (by decide) ?_
            exact ih_lo (b) (1 + f) _ _ _ (by omega) (by rw [rcN_f b2]; rcases hacc with q | q; (subst q; exact ha2); exact absurd q b2)  hP (lv_sub hl [1, 2, 3, 4, 0] rfl)
      exact li (f) (a) (0) _ _ _ (by omega) (by rw [ha]; rfl) (Or.inl rfl)  hP (lv_sub hl [1, 2, 3, 4, 5, 0] rfl)
  exact lo (n) (0) (0) _ _ _ (by omega) (rfl)  hP (lv_sub hl [2, 3, 4, 1, 0] rfl)
theorem ys_X7_races : yX7_races.cls ≠ "java/lang/invoke/MethodHandle" ∧ yX7_races.cls ≠ "java/lang/invoke/VarHandle" ∧ (parseMethodDescriptor yX7_races.desc).map (fun d => d.parameters.length) = some 2 := by decide +kernel
theorem yv_X7_races : yX7_races.cls = RX7 ∧ yX7_races.cls ≠ "java/lang/invoke/MethodHandle" ∧ yX7_races.cls ≠ "java/lang/invoke/VarHandle" ∧ (parseMethodDescriptor yX7_races.desc).map (fun d => d.parameters.length) = some 2 := ⟨rfl, ys_X7_races⟩
theorem lk_X7_races_constantLong_RX7_29_3 : (.constantLong RX7 29 (3) : Cond) ∈ wsX7_races := List.mem_cons_of_mem _ (List.mem_append_left _ (List.mem_append_left _ (List.mem_of_getElem? (i := 1) rfl)))
theorem lk_X7_races_constant_RX7_98_1000000002 : (.constant RX7 98 (-1000000002) : Cond) ∈ wsX7_races := List.mem_cons_of_mem _ (List.mem_append_left _ (List.mem_append_left _ (List.mem_of_getElem? (i := 2) rfl)))
theorem lk_X7_races_constant_RX7_97_1000000001 : (.constant RX7 97 (-1000000001) : Cond) ∈ wsX7_races := List.mem_cons_of_mem _ (List.mem_append_left _ (List.mem_append_left _ (List.mem_of_getElem? (i := 0) rfl)))
abbrev rmX7_races : Room := { frames := 3, cells := 0, slots := 0, locals := 74 }
set_option maxHeartbeats 4000000 in
set_option maxRecDepth 100000 in
theorem mX7_races {G : sx_G} (l : Launch) {F : Nat → va_E} {w : Nat → Int32} {of : List Value} {n : Nat} {x o : Int32} (hn : n ≤ 160) (h91n : w 91 = nI n) (hev : ∀ e, e < n → ∃ t, t < 4 ∧ w (92 + 8 * e) = nI t) (h91 : F (91) = ob 7 (rf G 92 :: of)) (h92 : F (92) = rI G (4358) (w)) : sx_I G l yX7_races wsX7_races rmX7_races [rf G 91, .int (x), .int (o)] (97) F (97) (fun r F1 => F = F1 ∧ racesF w n x o = r) := by
  refine sx_enter (cc := cX7_races) (maxL := 3) (ret := some .int) (own := RX7) (nm := "races") (by decide) rfl rfl rfl (Nat.le_of_ble_eq_true rfl) ?_
  intro pp ee ss mm args below meth kc ls Q hQ X hs hP hl
  have hl : lv_has ls 3 [(0, rf G 91), (1, .int (x)), (2, .int (o))] := hl
  refine lv_iload_n X.1.1 X.1.2.1 dX7_races_0 rfl (lv_at hl 1 rfl) ?_
  refine sx_csI (As := [.int (x)]) (rest := []) X (mX7_isCell l (x := (x))) gX7_races_X7_isCell rfl ys_X7_isCell ⟨Nat.le_of_ble_eq_true rfl, Nat.le_of_ble_eq_true rfl⟩ hl.1 rfl (Nat.le_of_ble_eq_true rfl) dX7_races_1 ⟨Nat.le_of_ble_eq_true rfl, Nat.le_of_ble_eq_true rfl⟩ hs rfl hP (fun r1 F1 H1 l1 hp hP => ?_)
  obtain ⟨rfl, ⟨b2, rfl⟩ | ⟨b2, rfl⟩⟩ := hp
  · obtain ⟨c, hc, rfl⟩ := b2
    refine sx_if_ne X (by decide) (tgt := 10) dX7_races_4 (by decide) (fun _ => ?_) (fun h => absurd h (by decide))
    refine lv_iload_n X.1.1 X.1.2.1 dX7_races_10 rfl (lv_at hl 2 rfl) ?_
    refine lv_i2l (v := (o).toInt64) X.1.1 X.1.2.1 dX7_races_11 rfl ?_
    refine lv_lconst (v := 0) X.1.1 X.1.2.1 dX7_races_12 (by decide) ?_
    refine lv_ldc2 (v := 3) X.1.1 X.1.2.1 X.1.2.2.2.1 (X.1.2.2.2.2 _ lk_X7_races_constantLong_RX7_29_3) dX7_races_13 ?_
    refine sx_csI (As := [.long ((o).toInt64), .long (0), .long (3)]) (rest := []) X (mX7_in l) gX7_races_X7_in rfl ys_X7_in ⟨Nat.le_of_ble_eq_true rfl, Nat.le_of_ble_eq_true rfl⟩ hl.1 rfl (Nat.le_of_ble_eq_true rfl) dX7_races_16 ⟨Nat.le_of_ble_eq_true rfl, Nat.le_of_ble_eq_true rfl⟩ hs rfl hP (fun r3 F3 H3 l3 hp hP => ?_)
    obtain ⟨rfl, ⟨b4, rfl⟩ | ⟨b4, rfl⟩⟩ := hp
    · obtain ⟨k, hk4, rfl⟩ := sx_in64 (k := 4) (by decide) (by decide) b4
      refine sx_if_eq X (by decide) (tgt := 31) dX7_races_19 (by decide) (fun h => absurd h (by decide)) (fun _ => ?_)
      refine lv_aload_n X.1.1 X.1.2.1 dX7_races_22 rfl (lv_at hl 0 rfl) ?_
      refine lv_iload_n X.1.1 X.1.2.1 dX7_races_23 rfl (lv_at hl 1 rfl) ?_
      refine lv_iload_n X.1.1 X.1.2.1 dX7_races_24 rfl (lv_at hl 2 rfl) ?_
      refine sx_cvI (As := [.int (nI (c)), .int (nI (k))]) (rest := []) X (mX7_racesOf l (c := c) (k := k) (n := n) (by omega) (by omega) hn h91n hev h91 h92) gX7_races_X7_racesOf rfl yv_X7_racesOf ⟨Nat.le_of_ble_eq_true rfl, Nat.le_of_ble_eq_true rfl⟩ h91 (by decide) rfl rfl hl.1 rfl (Nat.le_of_ble_eq_true rfl) dX7_races_25 ⟨Nat.le_of_ble_eq_true rfl, Nat.le_of_ble_eq_true rfl⟩ hs rfl hP (fun r5 F5 H5 l5 hp hP => ?_)
      obtain ⟨rfl, rfl⟩ := hp
      refine lv_goto (tgt := 33) X.1.1 X.1.2.1 dX7_races_28 (by decide) ?_
      rw [hQ]
      exact sx_iret X rfl hs rfl hP dX7_races_33 (⟨rfl, by unfold racesF; rw [cif_f (fun q => q ⟨c, hc, rfl⟩), cif_f (fun q => q ⟨k, hk4, rfl⟩), nI_clamp (by omega), nI_clamp (by omega)]⟩)
    · refine sx_if_eq X (by decide) (tgt := 31) dX7_races_19 (by decide) (fun _ => ?_) (fun h => absurd h (by decide))
      refine lv_ldc (v := -1000000002) X.1.1 X.1.2.1 X.1.2.2.2.1 (X.1.2.2.2.2 _ lk_X7_races_constant_RX7_98_1000000002) dX7_races_31 ?_
      rw [hQ]
      exact sx_iret X rfl hs rfl hP dX7_races_33 (⟨rfl, by unfold racesF; rw [cif_f (fun q => q ⟨c, hc, rfl⟩), cif_t (fun q => b4 (sx_64in (by decide) (by decide) q))]⟩)
  · refine sx_if_ne X (by decide) (tgt := 10) dX7_races_4 (by decide) (fun h => absurd h (by decide)) (fun _ => ?_)
    refine lv_ldc (v := -1000000001) X.1.1 X.1.2.1 X.1.2.2.2.1 (X.1.2.2.2.2 _ lk_X7_races_constant_RX7_97_1000000001) dX7_races_7 ?_
    rw [hQ]
    exact sx_iret X rfl hs rfl hP dX7_races_9 (⟨rfl, by unfold racesF; rw [cif_t b2]⟩)
theorem ys_X7_race : yX7_race.cls ≠ "java/lang/invoke/MethodHandle" ∧ yX7_race.cls ≠ "java/lang/invoke/VarHandle" ∧ (parseMethodDescriptor yX7_race.desc).map (fun d => d.parameters.length) = some 3 := by decide +kernel
theorem yv_X7_race : yX7_race.cls = RX7 ∧ yX7_race.cls ≠ "java/lang/invoke/MethodHandle" ∧ yX7_race.cls ≠ "java/lang/invoke/VarHandle" ∧ (parseMethodDescriptor yX7_race.desc).map (fun d => d.parameters.length) = some 3 := ⟨rfl, ys_X7_race⟩
theorem lk_X7_race_constantLong_RX7_35_2 : (.constantLong RX7 35 (2) : Cond) ∈ wsX7_race := List.mem_cons_of_mem _ (List.mem_append_left _ (List.mem_of_getElem? (i := 1) rfl))
theorem in_X7_race_X7 : ∀ w ∈ wsX70, w ∈ wsX7_race := fun _ h => List.mem_cons_of_mem _ (List.mem_append_right _ (h))
theorem lk_X7_race_fieldLink_RX7_7_RaceWatchModel_w_I : (.fieldLink RX7 7 "RaceWatchModel" "w" "[I" : Cond) ∈ wsX7_race := List.mem_cons_of_mem _ (List.mem_append_left _ (List.mem_of_getElem? (i := 3) rfl))
theorem lk_X7_race_constant_RX7_98_1000000002 : (.constant RX7 98 (-1000000002) : Cond) ∈ wsX7_race := List.mem_cons_of_mem _ (List.mem_append_left _ (List.mem_of_getElem? (i := 2) rfl))
theorem lk_X7_race_constant_RX7_97_1000000001 : (.constant RX7 97 (-1000000001) : Cond) ∈ wsX7_race := List.mem_cons_of_mem _ (List.mem_append_left _ (List.mem_of_getElem? (i := 0) rfl))
abbrev rmX7_race : Room := { frames := 2, cells := 0, slots := 0, locals := 48 }
set_option maxHeartbeats 4000000 in
set_option maxRecDepth 100000 in
theorem mX7_race {G : sx_G} (l : Launch) {F : Nat → va_E} {w : Nat → Int32} {of : List Value} {n : Nat} {x y z : Int32} (hn : n ≤ 160) (h91n : w 91 = nI n) (hev : ∀ e, e < n → ∃ t, t < 4 ∧ w (92 + 8 * e) = nI t) (h91 : F (91) = ob 7 (rf G 92 :: of)) (h92 : F (92) = rI G (4358) (w)) : sx_I G l yX7_race wsX7_race rmX7_race [rf G 91, .int (x), .int (y), .int (z)] (97) F (97) (fun r F1 => F = F1 ∧ (¬ inR x 4 ∧ -1000000001 = r ∨ (inR x 4 ∧ (¬ inR z 3 ∨ y < 0) ∧ -1000000002 = r) ∨ ∃ c k o, c < 4 ∧ k < 2 ^ 31 ∧ o < 3 ∧ x = nI c ∧ y = nI k ∧ z = nI o ∧ raceR w n c k o r)) := by
  refine sx_enter (cc := cX7_race) (maxL := 8) (ret := some .int) (own := RX7) (nm := "race") (by decide) rfl rfl rfl (Nat.le_of_ble_eq_true rfl) ?_
  intro pp ee ss mm args below meth kc ls Q hQ X hs hP hl
  have hl : lv_has ls 8 [(0, rf G 91), (1, .int (x)), (2, .int (y)), (3, .int (z))] := hl
  refine lv_iload_n X.1.1 X.1.2.1 dX7_race_0 rfl (lv_at hl 1 rfl) ?_
  refine sx_csI (As := [.int (x)]) (rest := []) X (mX7_isCell l (x := (x))) gX7_race_X7_isCell rfl ys_X7_isCell ⟨Nat.le_of_ble_eq_true rfl, Nat.le_of_ble_eq_true rfl⟩ hl.1 rfl (Nat.le_of_ble_eq_true rfl) dX7_race_1 ⟨Nat.le_of_ble_eq_true rfl, Nat.le_of_ble_eq_true rfl⟩ hs rfl hP (fun r1 F1 H1 l1 hp hP => ?_)
  obtain ⟨rfl, ⟨b2, rfl⟩ | ⟨b2, rfl⟩⟩ := hp
  · obtain ⟨c, hc, rfl⟩ := b2
    refine sx_if_ne X (by decide) (tgt := 10) dX7_race_4 (by decide) (fun _ => ?_) (fun h => absurd h (by decide))
    refine lv_iload_n X.1.1 X.1.2.1 dX7_race_10 rfl (lv_at hl 3 rfl) ?_
    refine lv_i2l (v := (z).toInt64) X.1.1 X.1.2.1 dX7_race_11 rfl ?_
    refine lv_lconst (v := 0) X.1.1 X.1.2.1 dX7_race_12 (by decide) ?_
    refine lv_ldc2 (v := 2) X.1.1 X.1.2.1 X.1.2.2.2.1 (X.1.2.2.2.2 _ lk_X7_race_constantLong_RX7_35_2) dX7_race_13 ?_
    refine sx_csI (As := [.long ((z).toInt64), .long (0), .long (2)]) (rest := []) X (mX7_in l) gX7_race_X7_in rfl ys_X7_in ⟨Nat.le_of_ble_eq_true rfl, Nat.le_of_ble_eq_true rfl⟩ hl.1 rfl (Nat.le_of_ble_eq_true rfl) dX7_race_16 ⟨Nat.le_of_ble_eq_true rfl, Nat.le_of_ble_eq_true rfl⟩ hs rfl hP (fun r3 F3 H3 l3 hp hP => ?_)
    obtain ⟨rfl, ⟨b4, rfl⟩ | ⟨b4, rfl⟩⟩ := hp
    · obtain ⟨o, ho, rfl⟩ := sx_in64 (k := 3) (by decide) (by decide) b4
      refine sx_if_eq X (by decide) (tgt := 26) dX7_race_19 (by decide) (fun h => absurd h (by decide)) (fun _ => ?_)
      refine lv_iload_n X.1.1 X.1.2.1 dX7_race_22 rfl (lv_at hl 2 rfl) ?_
      refine lv_if_ge X.1.1 X.1.2.1 (tgt := 29) dX7_race_23 (by decide) (fun c23 => ?_) (fun c23 => ?_)
      · obtain ⟨k, hk31, rfl⟩ := nI_of (Int32.not_lt.mpr c23)
        refine lv_iload_n X.1.1 X.1.2.1 dX7_race_29 rfl (lv_at hl 2 rfl) ?_
        refine lv_istore (lv' := [(4, .int (nI (k))), (0, rf G 91), (1, .int (nI (c))), (2, .int (nI (k))), (3, .int (nI (o)))]) X.1.1 X.1.2.1 dX7_race_30 hl (by decide) rfl (fun ls hl => ?_)
        refine lv_iconst (v := nI 0) X.1.1 X.1.2.1 dX7_race_32 (by decide) ?_
        refine lv_istore (lv' := [(5, .int (nI 0)), (4, .int (nI (k))), (0, rf G 91), (1, .int (nI (c))), (2, .int (nI (k))), (3, .int (nI (o)))]) X.1.1 X.1.2.1 dX7_race_33 hl (by decide) rfl (fun ls hl => ?_)
        have lo : ∀ (k_lo : Nat) (a : Nat) (f : Nat) (Hv : Heap) (lv : List Loc) (ls : Array Slot), (f + k_lo = n) → (a + rcN w c 3 f = k) → sx_H G (97) F ss.heap Hv lv → lv_has ls 8 [(0, rf G 91), (1, .int (nI (c))), (2, .int (nI (k))), (3, .int (nI (o))), (4, .int (nI (a))), (5, .int (nI (f)))] → W pp l ee rmX7_race ss mm args below meth kc Hv lv 0 0 Q (F0 mm 35 ls []) := by
          intro k_lo
          induction k_lo with
          | zero =>
            intro a f Hv lv ls hk ha hP hl
            refine lv_iload X.1.1 X.1.2.1 dX7_race_35 (lv_at hl 5 rfl) ?_
            refine lv_aload_n X.1.1 X.1.2.1 dX7_race_37 rfl (lv_at hl 0 rfl) ?_
            refine sx_get X hP in_X7_race_X7 h91 (by decide) rfl 0 (by decide) lk_X7_race_fieldLink_RX7_7_RaceWatchModel_w_I rfl dX7_race_38 ?_
            refine lv_bipush (v := nI 91) X.1.1 X.1.2.1 dX7_race_41 (by decide) ?_
            refine sx_ald X hP h92 (by decide) (91) (by decide) (by decide) dX7_race_43 ?_
            rw [h91n]
            refine sx_icmp_ge X (by omega) (by omega) (tgt := 139) dX7_race_44 (by decide) (fun c44 => ?_) (fun c44 => absurd c44 (by omega))
            refine lv_iconst (v := (-1)) X.1.1 X.1.2.1 dX7_race_139 (by decide) ?_
            rw [hQ]
            exact sx_iret X rfl hs rfl hP dX7_race_140 (⟨rfl, Or.inr (Or.inr ⟨c, k, o, hc, hk31, ho, rfl, rfl, rfl, Or.inr ⟨by rw [← show f = n by omega]; omega, rfl⟩⟩)⟩)
          | succ k_lo ih_lo =>
            intro a f Hv lv ls hk ha hP hl
            refine lv_iload X.1.1 X.1.2.1 dX7_race_35 (lv_at hl 5 rfl) ?_
            refine lv_aload_n X.1.1 X.1.2.1 dX7_race_37 rfl (lv_at hl 0 rfl) ?_
            refine sx_get X hP in_X7_race_X7 h91 (by decide) rfl 0 (by decide) lk_X7_race_fieldLink_RX7_7_RaceWatchModel_w_I rfl dX7_race_38 ?_
            refine lv_bipush (v := nI 91) X.1.1 X.1.2.1 dX7_race_41 (by decide) ?_
            refine sx_ald X hP h92 (by decide) (91) (by decide) (by decide) dX7_race_43 ?_
            rw [h91n]
            refine sx_icmp_ge X (by omega) (by omega) (tgt := 139) dX7_race_44 (by decide) (fun c44 => absurd c44 (by omega)) (fun c44 => ?_)
            refine lv_iconst (v := nI 0) X.1.1 X.1.2.1 dX7_race_47 (by decide) ?_
            refine lv_istore (lv' := [(6, .int (nI 0)), (0, rf G 91), (1, .int (nI (c))), (2, .int (nI (k))), (3, .int (nI (o))), (4, .int (nI (a))), (5, .int (nI (f)))]) X.1.1 X.1.2.1 dX7_race_48 hl (by decide) rfl (fun ls hl => ?_)
            have li : ∀ (k_li : Nat) (b : Nat) (e : Nat) (Hv : Heap) (lv : List Loc) (ls : Array Slot), (e + k_li = f) → (b + (rcN w c 3 f + cntE w c 3 f e) = k) → (e = 0 ∨ accB w f c) → sx_H G (97) F ss.heap Hv lv → lv_has ls 8 [(0, rf G 91), (1, .int (nI (c))), (2, .int (nI (k))), (3, .int (nI (o))), (4, .int (nI (b))), (5, .int (nI (f))), (6, .int (nI (e)))] → W pp l ee rmX7_race ss mm args below meth kc Hv lv 0 0 Q (F0 mm 50 ls []) := by
              intro k_li
              induction k_li with
              | zero =>
                intro b e Hv lv ls hk2 ha2 hacc hP hl
                refine lv_iload X.1.1 X.1.2.1 dX7_race_50 (lv_at hl 6 rfl) ?_
                refine lv_iload X.1.1 X.1.2.1 dX7_race_52 (lv_at hl 5 rfl) ?_
                refine sx_icmp_ge X (by omega) (by omega) (tgt := 133) dX7_race_54 (by decide) (fun c54 => ?_) (fun c54 => absurd c54 (by omega))
                refine lv_iinc (v := (nI (1 + f))) (lv' := [(5, .int (nI (1 + f))), (0, rf G 91), (1, .int (nI (c))), (2, .int (nI (k))), (3, .int (nI (o))), (4, .int (nI (b))), (6, .int (nI (e)))]) X.1.1 X.1.2.1 dX7_race_133 hl (k := 5) rfl (sx_inc1 (by omega)) (by decide) rfl (fun ls hl => ?_)
                refine lv_goto (tgt := 35) X.1.1 X.1.2.1 dX7_race_136 (by decide) ?_
                exact ih_lo (b) (1 + f) _ _ _ (by omega) (by rw [rcN_t (by omega) hacc]; omega)  hP (lv_sub hl [1, 2, 3, 4, 5, 0] rfl)
              | succ k_li ih_li =>
                intro b e Hv lv ls hk2 ha2 hacc hP hl
                refine lv_iload X.1.1 X.1.2.1 dX7_race_50 (lv_at hl 6 rfl) ?_
                refine lv_iload X.1.1 X.1.2.1 dX7_race_52 (lv_at hl 5 rfl) ?_
                refine sx_icmp_ge X (by omega) (by omega) (tgt := 133) dX7_race_54 (by decide) (fun c54 => absurd c54 (by omega)) (fun c54 => ?_)
                refine lv_aload_n X.1.1 X.1.2.1 dX7_race_57 rfl (lv_at hl 0 rfl) ?_
                refine lv_iload X.1.1 X.1.2.1 dX7_race_58 (lv_at hl 5 rfl) ?_
                refine lv_iload_n X.1.1 X.1.2.1 dX7_race_60 rfl (lv_at hl 1 rfl) ?_
                refine sx_cvI (As := [.int (nI (f)), .int (nI (c))]) (rest := []) X (mX7_isAccess l (e := f) (c := c) (by omega) h91 h92) gX7_race_X7_isAccess rfl yv_X7_isAccess ⟨Nat.le_of_ble_eq_true rfl, Nat.le_of_ble_eq_true rfl⟩ h91 (by decide) rfl rfl hl.1 rfl (Nat.le_of_ble_eq_true rfl) dX7_race_61 ⟨Nat.le_of_ble_eq_true rfl, Nat.le_of_ble_eq_true rfl⟩ hs rfl hP (fun r5 F5 H5 l5 hp hP => ?_)
                obtain ⟨rfl, ⟨b6, rfl⟩ | ⟨b6, rfl⟩⟩ := hp
                · refine sx_if_eq X (by decide) (tgt := 133) dX7_race_64 (by decide) (fun h => absurd h (by decide)) (fun _ => ?_)
                  refine lv_aload_n X.1.1 X.1.2.1 dX7_race_67 rfl (lv_at hl 0 rfl) ?_
                  refine lv_iload X.1.1 X.1.2.1 dX7_race_68 (lv_at hl 6 rfl) ?_
                  refine lv_iload X.1.1 X.1.2.1 dX7_race_70 (lv_at hl 5 rfl) ?_
                  refine lv_iload_n X.1.1 X.1.2.1 dX7_race_72 rfl (lv_at hl 1 rfl) ?_
                  refine sx_cvI (As := [.int (nI (e)), .int (nI (f)), .int (nI (c))]) (rest := []) X (mX7_kindBy l (e := e) (f := f) (c := c) (n := n) (by omega) (by omega) hn hev h91 h92) gX7_race_X7_kindBy rfl yv_X7_kindBy ⟨Nat.le_of_ble_eq_true rfl, Nat.le_of_ble_eq_true rfl⟩ h91 (by decide) rfl rfl hl.1 rfl (Nat.le_of_ble_eq_true rfl) dX7_race_73 ⟨Nat.le_of_ble_eq_true rfl, Nat.le_of_ble_eq_true rfl⟩ hs rfl hP (fun r7 F7 H7 l7 hp hP => ?_)
                  obtain ⟨rfl, rfl⟩ := hp
                  refine lv_istore (lv' := [(7, .int (kbF w (e) (f) (c))), (0, rf G 91), (1, .int (nI (c))), (2, .int (nI (k))), (3, .int (nI (o))), (4, .int (nI (b))), (5, .int (nI (f))), (6, .int (nI (e)))]) X.1.1 X.1.2.1 dX7_race_76 hl (by decide) rfl (fun ls hl => ?_)
                  refine lv_iload X.1.1 X.1.2.1 dX7_race_78 (lv_at hl 0 rfl) ?_
                  refine lv_iconst (v := (-1)) X.1.1 X.1.2.1 dX7_race_80 (by decide) ?_
                  refine lv_icmp_eq X.1.1 X.1.2.1 (tgt := 111) dX7_race_81 (by decide) (fun c81 => ?_) (fun c81 => ?_)
                  · refine lv_iload X.1.1 X.1.2.1 dX7_race_111 (lv_at hl 5 rfl) ?_
                    refine lv_iload X.1.1 X.1.2.1 dX7_race_113 (lv_at hl 0 rfl) ?_
                    refine lv_iconst (v := (-1)) X.1.1 X.1.2.1 dX7_race_115 (by decide) ?_
                    refine lv_icmp_eq X.1.1 X.1.2.1 (tgt := 123) dX7_race_116 (by decide) (fun c116 => ?_) (fun c116 => absurd c116 (not_not_intro c81))
                    refine lv_iconst (v := nI 0) X.1.1 X.1.2.1 dX7_race_123 (by decide) ?_
                    refine sx_subN X (b) (by omega) (by omega) dX7_race_124 ?_
                    refine lv_istore (lv' := [(4, .int (nI (b))), (7, .int (kbF w (e) (f) (c))), (0, rf G 91), (1, .int (nI (c))), (2, .int (nI (k))), (3, .int (nI (o))), (5, .int (nI (f))), (6, .int (nI (e)))]) X.1.1 X.1.2.1 dX7_race_125 hl (by decide) rfl (fun ls hl => ?_)
                    refine lv_iinc (v := (nI (1 + e))) (lv' := [(6, .int (nI (1 + e))), (4, .int (nI (b))), (7, .int (kbF w (e) (f) (c))), (0, rf G 91), (1, .int (nI (c))), (2, .int (nI (k))), (3, .int (nI (o))), (5, .int (nI (f)))]) X.1.1 X.1.2.1 dX7_race_127 hl (k := 7) rfl (sx_inc1 (by omega)) (by decide) rfl (fun ls hl => ?_)
                    refine lv_goto (tgt := 50) X.1.1 X.1.2.1 dX7_race_130 (by decide) ?_
                    exact ih_li (b) (1 + e) _ _ _ (by omega) (by rw [cntE_f (fun q => q.1 c81)]; omega) (Or.inr b6)  hP (lv_sub hl [3, 4, 5, 6, 1, 7, 0] rfl)
                  · refine lv_iload X.1.1 X.1.2.1 dX7_race_84 (lv_at hl 5 rfl) ?_
                    refine sx_if_ne X (by omega) (tgt := 111) dX7_race_86 (by decide) (fun c86 => ?_) (fun c86 => ?_)
                    · refine lv_iload X.1.1 X.1.2.1 dX7_race_111 (lv_at hl 5 rfl) ?_
                      refine lv_iload X.1.1 X.1.2.1 dX7_race_113 (lv_at hl 0 rfl) ?_
                      refine lv_iconst (v := (-1)) X.1.1 X.1.2.1 dX7_race_115 (by decide) ?_
                      refine lv_icmp_eq X.1.1 X.1.2.1 (tgt := 123) dX7_race_116 (by decide) (fun c116 => absurd c116 c81) (fun c116 => ?_)
                      refine lv_iconst (v := nI 1) X.1.1 X.1.2.1 dX7_race_119 (by decide) ?_
                      refine lv_goto (tgt := 124) X.1.1 X.1.2.1 dX7_race_120 (by decide) ?_
                      refine sx_subN X ((b - 1)) (by omega) (by omega) dX7_race_124 ?_
                      refine lv_istore (lv' := [(4, .int (nI ((b - 1)))), (7, .int (kbF w (e) (f) (c))), (0, rf G 91), (1, .int (nI (c))), (2, .int (nI (k))), (3, .int (nI (o))), (5, .int (nI (f))), (6, .int (nI (e)))]) X.1.1 X.1.2.1 dX7_race_125 hl (by decide) rfl (fun ls hl => ?_)
                      refine lv_iinc (v := (nI (1 + e))) (lv' := [(6, .int (nI (1 + e))), (4, .int (nI ((b - 1)))), (7, .int (kbF w (e) (f) (c))), (0, rf G 91), (1, .int (nI (c))), (2, .int (nI (k))), (3, .int (nI (o))), (5, .int (nI (f)))]) X.1.1 X.1.2.1 dX7_race_127 hl (k := 7) rfl (sx_inc1 (by omega)) (by decide) rfl (fun ls hl => ?_)
                      refine lv_goto (tgt := 50) X.1.1 X.1.2.1 dX7_race_130 (by decide) ?_
                      exact ih_li ((b - 1)) (1 + e) _ _ _ (by omega) (by rw [cntE_t ⟨c81, Or.inl rfl⟩]; omega) (Or.inr b6)  hP (lv_sub hl [3, 4, 5, 6, 1, 7, 0] rfl)
                    · refine lv_iload_n X.1.1 X.1.2.1 dX7_race_89 rfl (lv_at hl 4 rfl) ?_
                      refine sx_if_ne X (by omega) (tgt := 98) dX7_race_90 (by decide) (fun c90 => ?_) (fun c90 => ?_)
                      · refine lv_iload_n X.1.1 X.1.2.1 dX7_race_98 rfl (lv_at hl 4 rfl) ?_
                        refine lv_iconst (v := nI 1) X.1.1 X.1.2.1 dX7_race_99 (by decide) ?_
                        refine sx_icmp_ne X (by omega) (by decide) (tgt := 108) dX7_race_100 (by decide) (fun c100 => ?_) (fun c100 => ?_)
                        · refine lv_iload X.1.1 X.1.2.1 dX7_race_108 (lv_at hl 0 rfl) ?_
                          rw [hQ]
                          exact sx_iret X rfl hs rfl hP dX7_race_110 (⟨rfl, Or.inr (Or.inr ⟨c, k, o, hc, hk31, ho, rfl, rfl, rfl, Or.inl ⟨f, e, by omega, by omega, b6, c81, by omega, by rw [if_neg (by omega), if_neg (by omega)]⟩⟩)⟩)
                        · refine lv_iload X.1.1 X.1.2.1 dX7_race_103 (lv_at hl 6 rfl) ?_
                          refine lv_goto (tgt := 110) X.1.1 X.1.2.1 dX7_race_105 (by decide) ?_
                          rw [hQ]
                          exact sx_iret X rfl hs rfl hP dX7_race_110 (⟨rfl, Or.inr (Or.inr ⟨c, k, o, hc, hk31, ho, rfl, rfl, rfl, Or.inl ⟨f, e, by omega, by omega, b6, c81, by omega, by rw [if_neg (by omega), if_pos (by omega)]⟩⟩)⟩)
                      · refine lv_iload X.1.1 X.1.2.1 dX7_race_93 (lv_at hl 7 rfl) ?_
                        refine lv_goto (tgt := 110) X.1.1 X.1.2.1 dX7_race_95 (by decide) ?_
                        rw [hQ]
                        exact sx_iret X rfl hs rfl hP dX7_race_110 (⟨rfl, Or.inr (Or.inr ⟨c, k, o, hc, hk31, ho, rfl, rfl, rfl, Or.inl ⟨f, e, by omega, by omega, b6, c81, by omega, by rw [if_pos (by omega)]⟩⟩)⟩)
                · refine sx_if_eq X (by decide) (tgt := 133) dX7_race_64 (by decide) (fun _ => ?_) (fun h => absurd h (by decide))
                  refine lv_iinc (v := (nI (1 + f))) (lv' := [(5, .int (nI (1 + f))), (0, rf G 91), (1, .int (nI (c))), (2, .int (nI (k))), (3, .int (nI (o))), (4, .int (nI (b))), (6, .int (nI (e)))]) X.1.1 X.1.2.1 dX7_race_133 hl (k := 5) rfl (sx_inc1 (by omega)) (by decide) rfl (fun ls hl => ?_)
                  refine lv_goto (tgt := 35) X.1.1 X.1.2.1 dX7_race_136 (by decide) ?_
                  exact ih_lo (b) (1 + f) _ _ _ (by omega) (by rw [rcN_f b6]; rcases hacc with q | q; (subst q; exact ha2); exact absurd q b6)  hP (lv_sub hl [1, 2, 3, 4, 5, 0] rfl)
            exact li (f) (a) (0) _ _ _ (by omega) (ha) (Or.inl rfl)  hP (lv_sub hl [1, 2, 3, 4, 5, 6, 0] rfl)
        exact lo (n) (k) (0) _ _ _ (by omega) (rfl)  hP (lv_sub hl [2, 3, 4, 5, 1, 0] rfl)
      · refine lv_ldc (v := -1000000002) X.1.1 X.1.2.1 X.1.2.2.2.1 (X.1.2.2.2.2 _ lk_X7_race_constant_RX7_98_1000000002) dX7_race_26 ?_
        rw [hQ]
        exact sx_iret X rfl hs rfl hP dX7_race_28 (⟨rfl, Or.inr (Or.inl ⟨⟨c, hc, rfl⟩, Or.inr (Int32.not_le.mp c23), rfl⟩)⟩)
    · refine sx_if_eq X (by decide) (tgt := 26) dX7_race_19 (by decide) (fun _ => ?_) (fun h => absurd h (by decide))
      refine lv_ldc (v := -1000000002) X.1.1 X.1.2.1 X.1.2.2.2.1 (X.1.2.2.2.2 _ lk_X7_race_constant_RX7_98_1000000002) dX7_race_26 ?_
      rw [hQ]
      exact sx_iret X rfl hs rfl hP dX7_race_28 (⟨rfl, Or.inr (Or.inl ⟨⟨c, hc, rfl⟩, Or.inl (fun q => b4 (sx_64in (by decide) (by decide) q)), rfl⟩)⟩)
  · refine sx_if_ne X (by decide) (tgt := 10) dX7_race_4 (by decide) (fun h => absurd h (by decide)) (fun _ => ?_)
    refine lv_ldc (v := -1000000001) X.1.1 X.1.2.1 X.1.2.2.2.1 (X.1.2.2.2.2 _ lk_X7_race_constant_RX7_97_1000000001) dX7_race_7 ?_
    rw [hQ]
    exact sx_iret X rfl hs rfl hP dX7_race_9 (⟨rfl, Or.inl ⟨b2, rfl⟩⟩)
theorem ys_X7_guard : yX7_guard.cls ≠ "java/lang/invoke/MethodHandle" ∧ yX7_guard.cls ≠ "java/lang/invoke/VarHandle" ∧ (parseMethodDescriptor yX7_guard.desc).map (fun d => d.parameters.length) = some 1 := by decide +kernel
theorem yv_X7_guard : yX7_guard.cls = RX7 ∧ yX7_guard.cls ≠ "java/lang/invoke/MethodHandle" ∧ yX7_guard.cls ≠ "java/lang/invoke/VarHandle" ∧ (parseMethodDescriptor yX7_guard.desc).map (fun d => d.parameters.length) = some 1 := ⟨rfl, ys_X7_guard⟩
theorem in_X7_guard_X7 : ∀ w ∈ wsX70, w ∈ wsX7_guard := fun _ h => List.mem_cons_of_mem _ (List.mem_append_right _ (h))
theorem lk_X7_guard_fieldLink_RX7_7_RaceWatchModel_w_I : (.fieldLink RX7 7 "RaceWatchModel" "w" "[I" : Cond) ∈ wsX7_guard := List.mem_cons_of_mem _ (List.mem_append_left _ (List.mem_of_getElem? (i := 1) rfl))
theorem lk_X7_guard_constant_RX7_97_1000000001 : (.constant RX7 97 (-1000000001) : Cond) ∈ wsX7_guard := List.mem_cons_of_mem _ (List.mem_append_left _ (List.mem_of_getElem? (i := 0) rfl))
abbrev rmX7_guard : Room := { frames := 2, cells := 0, slots := 0, locals := 45 }
set_option maxHeartbeats 4000000 in
set_option maxRecDepth 100000 in
theorem mX7_guard {G : sx_G} (l : Launch) {F : Nat → va_E} {w : Nat → Int32} {of : List Value} {n : Nat} {x : Int32} (hn : n ≤ 160) (h91n : w 91 = nI n) (h91 : F (91) = ob 7 (rf G 92 :: of)) (h92 : F (92) = rI G (4358) (w)) : sx_I G l yX7_guard wsX7_guard rmX7_guard [rf G 91, .int (x)] (97) F (97) (fun r F1 => F = F1 ∧ guardF w n x = r) := by
  refine sx_enter (cc := cX7_guard) (maxL := 4) (ret := some .int) (own := RX7) (nm := "guard") (by decide) rfl rfl rfl (Nat.le_of_ble_eq_true rfl) ?_
  intro pp ee ss mm args below meth kc ls Q hQ X hs hP hl
  have hl : lv_has ls 4 [(0, rf G 91), (1, .int (x))] := hl
  refine lv_iload_n X.1.1 X.1.2.1 dX7_guard_0 rfl (lv_at hl 1 rfl) ?_
  refine sx_csI (As := [.int (x)]) (rest := []) X (mX7_isCell l (x := (x))) gX7_guard_X7_isCell rfl ys_X7_isCell ⟨Nat.le_of_ble_eq_true rfl, Nat.le_of_ble_eq_true rfl⟩ hl.1 rfl (Nat.le_of_ble_eq_true rfl) dX7_guard_1 ⟨Nat.le_of_ble_eq_true rfl, Nat.le_of_ble_eq_true rfl⟩ hs rfl hP (fun r1 F1 H1 l1 hp hP => ?_)
  obtain ⟨rfl, ⟨b2, rfl⟩ | ⟨b2, rfl⟩⟩ := hp
  · obtain ⟨c, hc, rfl⟩ := b2
    refine sx_if_ne X (by decide) (tgt := 10) dX7_guard_4 (by decide) (fun _ => ?_) (fun h => absurd h (by decide))
    refine lv_bipush (v := nI 7) X.1.1 X.1.2.1 dX7_guard_10 (by decide) ?_
    refine lv_istore_n (lv' := [(2, .int (nI 7)), (0, rf G 91), (1, .int (nI (c)))]) X.1.1 X.1.2.1 dX7_guard_12 rfl hl (by decide) rfl (fun ls hl => ?_)
    refine lv_iconst (v := nI 0) X.1.1 X.1.2.1 dX7_guard_13 (by decide) ?_
    refine lv_istore_n (lv' := [(3, .int (nI 0)), (2, .int (nI 7)), (0, rf G 91), (1, .int (nI (c)))]) X.1.1 X.1.2.1 dX7_guard_14 rfl hl (by decide) rfl (fun ls hl => ?_)
    have lo : ∀ (k_lo : Nat) (a : Int32) (e : Nat) (Hv : Heap) (lv : List Loc) (ls : Array Slot), (e + k_lo = n) → (a = gdF w c e) → sx_H G (97) F ss.heap Hv lv → lv_has ls 4 [(0, rf G 91), (1, .int (nI (c))), (2, .int (a)), (3, .int (nI (e)))] → W pp l ee rmX7_guard ss mm args below meth kc Hv lv 0 0 Q (F0 mm 15 ls []) := by
      intro k_lo
      induction k_lo with
      | zero =>
        intro a e Hv lv ls hk ha hP hl
        refine lv_iload_n X.1.1 X.1.2.1 dX7_guard_15 rfl (lv_at hl 3 rfl) ?_
        refine lv_aload_n X.1.1 X.1.2.1 dX7_guard_16 rfl (lv_at hl 0 rfl) ?_
        refine sx_get X hP in_X7_guard_X7 h91 (by decide) rfl 0 (by decide) lk_X7_guard_fieldLink_RX7_7_RaceWatchModel_w_I rfl dX7_guard_17 ?_
        refine lv_bipush (v := nI 91) X.1.1 X.1.2.1 dX7_guard_20 (by decide) ?_
        refine sx_ald X hP h92 (by decide) (91) (by decide) (by decide) dX7_guard_22 ?_
        rw [h91n]
        refine sx_icmp_ge X (by omega) (by omega) (tgt := 64) dX7_guard_23 (by decide) (fun c23 => ?_) (fun c23 => absurd c23 (by omega))
        refine lv_iload_n X.1.1 X.1.2.1 dX7_guard_64 rfl (lv_at hl 2 rfl) ?_
        rw [hQ]
        exact sx_iret X rfl hs rfl hP dX7_guard_65 (⟨rfl, by unfold guardF; rw [cif_f (fun q => q ⟨c, hc, rfl⟩), nI_clamp (by omega), ha, show e = n by omega]⟩)
      | succ k_lo ih_lo =>
        intro a e Hv lv ls hk ha hP hl
        refine lv_iload_n X.1.1 X.1.2.1 dX7_guard_15 rfl (lv_at hl 3 rfl) ?_
        refine lv_aload_n X.1.1 X.1.2.1 dX7_guard_16 rfl (lv_at hl 0 rfl) ?_
        refine sx_get X hP in_X7_guard_X7 h91 (by decide) rfl 0 (by decide) lk_X7_guard_fieldLink_RX7_7_RaceWatchModel_w_I rfl dX7_guard_17 ?_
        refine lv_bipush (v := nI 91) X.1.1 X.1.2.1 dX7_guard_20 (by decide) ?_
        refine sx_ald X hP h92 (by decide) (91) (by decide) (by decide) dX7_guard_22 ?_
        rw [h91n]
        refine sx_icmp_ge X (by omega) (by omega) (tgt := 64) dX7_guard_23 (by decide) (fun c23 => absurd c23 (by omega)) (fun c23 => ?_)
        refine lv_iload_n X.1.1 X.1.2.1 dX7_guard_26 rfl (lv_at hl 2 rfl) ?_
        refine lv_aload_n X.1.1 X.1.2.1 dX7_guard_27 rfl (lv_at hl 0 rfl) ?_
        refine lv_iload_n X.1.1 X.1.2.1 dX7_guard_28 rfl (lv_at hl 3 rfl) ?_
        refine lv_iload_n X.1.1 X.1.2.1 dX7_guard_29 rfl (lv_at hl 1 rfl) ?_
        refine sx_cvI (As := [.int (nI (e)), .int (nI (c))]) (rest := .int (a) :: []) X (mX7_isAccess l (e := e) (c := c) (by omega) h91 h92) gX7_guard_X7_isAccess rfl yv_X7_isAccess ⟨Nat.le_of_ble_eq_true rfl, Nat.le_of_ble_eq_true rfl⟩ h91 (by decide) rfl rfl hl.1 rfl (Nat.le_of_ble_eq_true rfl) dX7_guard_30 ⟨Nat.le_of_ble_eq_true rfl, Nat.le_of_ble_eq_true rfl⟩ hs rfl hP (fun r3 F3 H3 l3 hp hP => ?_)
        obtain ⟨rfl, ⟨b4, rfl⟩ | ⟨b4, rfl⟩⟩ := hp
        · refine sx_if_eq X (by decide) (tgt := 54) dX7_guard_33 (by decide) (fun h => absurd h (by decide)) (fun _ => ?_)
          refine lv_aload_n X.1.1 X.1.2.1 dX7_guard_36 rfl (lv_at hl 0 rfl) ?_
          refine sx_get X hP in_X7_guard_X7 h91 (by decide) rfl 0 (by decide) lk_X7_guard_fieldLink_RX7_7_RaceWatchModel_w_I rfl dX7_guard_37 ?_
          refine lv_bipush (v := nI 92) X.1.1 X.1.2.1 dX7_guard_40 (by decide) ?_
          refine lv_bipush (v := nI 8) X.1.1 X.1.2.1 dX7_guard_42 (by decide) ?_
          refine lv_iload_n X.1.1 X.1.2.1 dX7_guard_44 rfl (lv_at hl 3 rfl) ?_
          refine sx_mulN X (8 * e) (by omega) dX7_guard_45 ?_
          refine sx_addN X (92 + 8 * e) (by omega) dX7_guard_46 ?_
          refine lv_bipush (v := nI 7) X.1.1 X.1.2.1 dX7_guard_47 (by decide) ?_
          refine sx_addN X (99 + 8 * e) (by omega) dX7_guard_49 ?_
          refine sx_ald X hP h92 (by decide) (99 + 8 * e) (by omega) (by decide) dX7_guard_50 ?_
          refine lv_goto (tgt := 56) X.1.1 X.1.2.1 dX7_guard_51 (by decide) ?_
          refine lv_iand X.1.1 X.1.2.1 dX7_guard_56 ?_
          refine lv_istore_n (lv' := [(2, .int ((a) &&& (w (99 + 8 * e)))), (0, rf G 91), (1, .int (nI (c))), (3, .int (nI (e)))]) X.1.1 X.1.2.1 dX7_guard_57 rfl hl (by decide) rfl (fun ls hl => ?_)
          refine lv_iinc (v := (nI (1 + e))) (lv' := [(3, .int (nI (1 + e))), (2, .int ((a) &&& (w (99 + 8 * e)))), (0, rf G 91), (1, .int (nI (c)))]) X.1.1 X.1.2.1 dX7_guard_58 hl (k := 3) rfl (sx_inc1 (by omega)) (by decide) rfl (fun ls hl => ?_)
          refine lv_goto (tgt := 15) X.1.1 X.1.2.1 dX7_guard_61 (by decide) ?_
          exact ih_lo ((a) &&& (w (99 + 8 * e))) (1 + e) _ _ _ (by omega) (by rw [gdF_s, cif_t b4, ha])  hP (lv_sub hl [2, 3, 1, 0] rfl)
        · refine sx_if_eq X (by decide) (tgt := 54) dX7_guard_33 (by decide) (fun _ => ?_) (fun h => absurd h (by decide))
          refine lv_bipush (v := nI 7) X.1.1 X.1.2.1 dX7_guard_54 (by decide) ?_
          refine lv_iand X.1.1 X.1.2.1 dX7_guard_56 ?_
          refine lv_istore_n (lv' := [(2, .int ((a) &&& (nI (7)))), (0, rf G 91), (1, .int (nI (c))), (3, .int (nI (e)))]) X.1.1 X.1.2.1 dX7_guard_57 rfl hl (by decide) rfl (fun ls hl => ?_)
          refine lv_iinc (v := (nI (1 + e))) (lv' := [(3, .int (nI (1 + e))), (2, .int ((a) &&& (nI (7)))), (0, rf G 91), (1, .int (nI (c)))]) X.1.1 X.1.2.1 dX7_guard_58 hl (k := 3) rfl (sx_inc1 (by omega)) (by decide) rfl (fun ls hl => ?_)
          refine lv_goto (tgt := 15) X.1.1 X.1.2.1 dX7_guard_61 (by decide) ?_
          exact ih_lo ((a) &&& (nI (7))) (1 + e) _ _ _ (by omega) (by rw [gdF_s, cif_f b4, ha])  hP (lv_sub hl [2, 3, 1, 0] rfl)
    exact lo (n) (nI 7) (0) _ _ _ (by omega) (rfl)  hP (lv_sub hl [2, 3, 1, 0] rfl)
  · refine sx_if_ne X (by decide) (tgt := 10) dX7_guard_4 (by decide) (fun h => absurd h (by decide)) (fun _ => ?_)
    refine lv_ldc (v := -1000000001) X.1.1 X.1.2.1 X.1.2.2.2.1 (X.1.2.2.2.2 _ lk_X7_guard_constant_RX7_97_1000000001) dX7_guard_7 ?_
    rw [hQ]
    exact sx_iret X rfl hs rfl hP dX7_guard_9 (⟨rfl, by unfold guardF; rw [cif_t b2]⟩)
theorem ys_X7_cellsRaced : yX7_cellsRaced.cls ≠ "java/lang/invoke/MethodHandle" ∧ yX7_cellsRaced.cls ≠ "java/lang/invoke/VarHandle" ∧ (parseMethodDescriptor yX7_cellsRaced.desc).map (fun d => d.parameters.length) = some 0 := by decide +kernel
theorem yv_X7_cellsRaced : yX7_cellsRaced.cls = RX7 ∧ yX7_cellsRaced.cls ≠ "java/lang/invoke/MethodHandle" ∧ yX7_cellsRaced.cls ≠ "java/lang/invoke/VarHandle" ∧ (parseMethodDescriptor yX7_cellsRaced.desc).map (fun d => d.parameters.length) = some 0 := ⟨rfl, ys_X7_cellsRaced⟩
abbrev rmX7_cellsRaced : Room := { frames := 3, cells := 0, slots := 0, locals := 74 }
set_option maxHeartbeats 4000000 in
set_option maxRecDepth 100000 in
theorem mX7_cellsRaced {G : sx_G} (l : Launch) {F : Nat → va_E} {w : Nat → Int32} {of : List Value} {n : Nat} (hn : n ≤ 160) (h91n : w 91 = nI n) (hev : ∀ e, e < n → ∃ t, t < 4 ∧ w (92 + 8 * e) = nI t) (h91 : F (91) = ob 7 (rf G 92 :: of)) (h92 : F (92) = rI G (4358) (w)) : sx_I G l yX7_cellsRaced wsX7_cellsRaced rmX7_cellsRaced [rf G 91] (97) F (97) (fun r F1 => F = F1 ∧ rSetF w n = r) := by
  refine sx_enter (cc := cX7_cellsRaced) (maxL := 3) (ret := some .int) (own := RX7) (nm := "cellsRaced") (by decide) rfl rfl rfl (Nat.le_of_ble_eq_true rfl) ?_
  intro pp ee ss mm args below meth kc ls Q hQ X hs hP hl
  have hl : lv_has ls 3 [(0, rf G 91)] := hl
  refine lv_iconst (v := nI 0) X.1.1 X.1.2.1 dX7_cellsRaced_0 (by decide) ?_
  refine lv_istore_n (lv' := [(1, .int (nI 0)), (0, rf G 91)]) X.1.1 X.1.2.1 dX7_cellsRaced_1 rfl hl (by decide) rfl (fun ls hl => ?_)
  refine lv_iconst (v := nI 0) X.1.1 X.1.2.1 dX7_cellsRaced_2 (by decide) ?_
  refine lv_istore_n (lv' := [(2, .int (nI 0)), (1, .int (nI 0)), (0, rf G 91)]) X.1.1 X.1.2.1 dX7_cellsRaced_3 rfl hl (by decide) rfl (fun ls hl => ?_)
  refine lv_iload_n X.1.1 X.1.2.1 dX7_cellsRaced_4 rfl (lv_at hl 0 rfl) ?_
  refine lv_iconst (v := nI 4) X.1.1 X.1.2.1 dX7_cellsRaced_5 (by decide) ?_
  refine sx_icmp_ge X (by decide) (by decide) (tgt := 34) dX7_cellsRaced_6 (by decide) (fun h => absurd h (by decide)) (fun _ => ?_)
  refine lv_iload_n X.1.1 X.1.2.1 dX7_cellsRaced_9 rfl (lv_at hl 1 rfl) ?_
  refine lv_aload_n X.1.1 X.1.2.1 dX7_cellsRaced_10 rfl (lv_at hl 2 rfl) ?_
  refine lv_iload_n X.1.1 X.1.2.1 dX7_cellsRaced_11 rfl (lv_at hl 0 rfl) ?_
  refine lv_iconst (v := nI 3) X.1.1 X.1.2.1 dX7_cellsRaced_12 (by decide) ?_
  refine sx_cvI (As := [.int (nI 0), .int (nI 3)]) (rest := .int (nI 0) :: []) X (mX7_racesOf l (c := 0) (k := 3) (n := n) (by omega) (by omega) hn h91n hev h91 h92) gX7_cellsRaced_X7_racesOf rfl yv_X7_racesOf ⟨Nat.le_of_ble_eq_true rfl, Nat.le_of_ble_eq_true rfl⟩ h91 (by decide) rfl rfl hl.1 rfl (Nat.le_of_ble_eq_true rfl) dX7_cellsRaced_13 ⟨Nat.le_of_ble_eq_true rfl, Nat.le_of_ble_eq_true rfl⟩ hs rfl hP (fun r1 F1 H1 l1 hp hP => ?_)
  obtain ⟨rfl, rfl⟩ := hp
  refine sx_join (P := fun z => W pp l ee rmX7_cellsRaced ss mm args below meth kc H1 l1 0 0 Q (F0 mm 26 ls (.int z :: .int (nI 0) :: []))) (rcN w 0 3 n ≤ 0) (a := (nI (0))) (b := ((nI (1)) <<< ((nI (0)) &&& 31))) (fun ja jb => ?_) ?_
  · refine sx_if_le X (Nat.lt_of_lt_of_le (rcN_lt hn) (by decide)) (tgt := 25) dX7_cellsRaced_16 (by decide) (fun c16 => ?_) (fun c16 => ?_)
    · refine lv_iconst (v := nI 0) X.1.1 X.1.2.1 dX7_cellsRaced_25 (by decide) ?_
      exact ja (by omega)
    · refine lv_iconst (v := nI 1) X.1.1 X.1.2.1 dX7_cellsRaced_19 (by decide) ?_
      refine lv_iload_n X.1.1 X.1.2.1 dX7_cellsRaced_20 rfl (lv_at hl 0 rfl) ?_
      refine lv_ishl X.1.1 X.1.2.1 dX7_cellsRaced_21 ?_
      refine lv_goto (tgt := 26) X.1.1 X.1.2.1 dX7_cellsRaced_22 (by decide) ?_
      exact jb (by omega)
  · refine lv_ior X.1.1 X.1.2.1 dX7_cellsRaced_26 ?_
    refine lv_istore_n (lv' := [(1, .int ((nI (0)) ||| (if rcN w 0 3 n ≤ 0 then (nI (0)) else ((nI (1)) <<< ((nI (0)) &&& 31))))), (2, .int (nI 0)), (0, rf G 91)]) X.1.1 X.1.2.1 dX7_cellsRaced_27 rfl hl (by decide) rfl (fun ls hl => ?_)
    refine lv_iinc (v := (nI (1))) (lv' := [(2, .int (nI 1)), (1, .int ((nI (0)) ||| (if rcN w 0 3 n ≤ 0 then (nI (0)) else ((nI (1)) <<< ((nI (0)) &&& 31))))), (0, rf G 91)]) X.1.1 X.1.2.1 dX7_cellsRaced_28 hl (k := 1) rfl (by decide) (by decide) rfl (fun ls hl => ?_)
    refine lv_goto (tgt := 4) X.1.1 X.1.2.1 dX7_cellsRaced_31 (by decide) ?_
    refine lv_iload_n X.1.1 X.1.2.1 dX7_cellsRaced_4 rfl (lv_at hl 0 rfl) ?_
    refine lv_iconst (v := nI 4) X.1.1 X.1.2.1 dX7_cellsRaced_5 (by decide) ?_
    refine sx_icmp_ge X (by decide) (by decide) (tgt := 34) dX7_cellsRaced_6 (by decide) (fun h => absurd h (by decide)) (fun _ => ?_)
    refine lv_iload_n X.1.1 X.1.2.1 dX7_cellsRaced_9 rfl (lv_at hl 1 rfl) ?_
    refine lv_aload_n X.1.1 X.1.2.1 dX7_cellsRaced_10 rfl (lv_at hl 2 rfl) ?_
    refine lv_iload_n X.1.1 X.1.2.1 dX7_cellsRaced_11 rfl (lv_at hl 0 rfl) ?_
    refine lv_iconst (v := nI 3) X.1.1 X.1.2.1 dX7_cellsRaced_12 (by decide) ?_
    refine sx_cvI (As := [.int (nI 1), .int (nI 3)]) (rest := .int ((nI (0)) ||| (if rcN w 0 3 n ≤ 0 then (nI (0)) else ((nI (1)) <<< ((nI (0)) &&& 31)))) :: []) X (mX7_racesOf l (c := 1) (k := 3) (n := n) (by omega) (by omega) hn h91n hev h91 h92) gX7_cellsRaced_X7_racesOf rfl yv_X7_racesOf ⟨Nat.le_of_ble_eq_true rfl, Nat.le_of_ble_eq_true rfl⟩ h91 (by decide) rfl rfl hl.1 rfl (Nat.le_of_ble_eq_true rfl) dX7_cellsRaced_13 ⟨Nat.le_of_ble_eq_true rfl, Nat.le_of_ble_eq_true rfl⟩ hs rfl hP (fun r2 F2 H2 l2 hp hP => ?_)
    obtain ⟨rfl, rfl⟩ := hp
    refine sx_join (P := fun z => W pp l ee rmX7_cellsRaced ss mm args below meth kc H2 l2 0 0 Q (F0 mm 26 ls (.int z :: .int ((nI (0)) ||| (if rcN w 0 3 n ≤ 0 then (nI (0)) else ((nI (1)) <<< ((nI (0)) &&& 31)))) :: []))) (rcN w 1 3 n ≤ 0) (a := (nI (0))) (b := ((nI (1)) <<< ((nI (1)) &&& 31))) (fun ja jb => ?_) ?_
    · refine sx_if_le X (Nat.lt_of_lt_of_le (rcN_lt hn) (by decide)) (tgt := 25) dX7_cellsRaced_16 (by decide) (fun c16 => ?_) (fun c16 => ?_)
      · refine lv_iconst (v := nI 0) X.1.1 X.1.2.1 dX7_cellsRaced_25 (by decide) ?_
        exact ja (by omega)
      · refine lv_iconst (v := nI 1) X.1.1 X.1.2.1 dX7_cellsRaced_19 (by decide) ?_
        refine lv_iload_n X.1.1 X.1.2.1 dX7_cellsRaced_20 rfl (lv_at hl 0 rfl) ?_
        refine lv_ishl X.1.1 X.1.2.1 dX7_cellsRaced_21 ?_
        refine lv_goto (tgt := 26) X.1.1 X.1.2.1 dX7_cellsRaced_22 (by decide) ?_
        exact jb (by omega)
    · refine lv_ior X.1.1 X.1.2.1 dX7_cellsRaced_26 ?_
      refine lv_istore_n (lv' := [(1, .int (((nI (0)) ||| (if rcN w 0 3 n ≤ 0 then (nI (0)) else ((nI (1)) <<< ((nI (0)) &&& 31)))) ||| (if rcN w 1 3 n ≤ 0 then (nI (0)) else ((nI (1)) <<< ((nI (1)) &&& 31))))), (2, .int (nI 1)), (0, rf G 91)]) X.1.1 X.1.2.1 dX7_cellsRaced_27 rfl hl (by decide) rfl (fun ls hl => ?_)
      refine lv_iinc (v := (nI (2))) (lv' := [(2, .int (nI 2)), (1, .int (((nI (0)) ||| (if rcN w 0 3 n ≤ 0 then (nI (0)) else ((nI (1)) <<< ((nI (0)) &&& 31)))) ||| (if rcN w 1 3 n ≤ 0 then (nI (0)) else ((nI (1)) <<< ((nI (1)) &&& 31))))), (0, rf G 91)]) X.1.1 X.1.2.1 dX7_cellsRaced_28 hl (k := 1) rfl (by decide) (by decide) rfl (fun ls hl => ?_)
      refine lv_goto (tgt := 4) X.1.1 X.1.2.1 dX7_cellsRaced_31 (by decide) ?_
      refine lv_iload_n X.1.1 X.1.2.1 dX7_cellsRaced_4 rfl (lv_at hl 0 rfl) ?_
      refine lv_iconst (v := nI 4) X.1.1 X.1.2.1 dX7_cellsRaced_5 (by decide) ?_
      refine sx_icmp_ge X (by decide) (by decide) (tgt := 34) dX7_cellsRaced_6 (by decide) (fun h => absurd h (by decide)) (fun _ => ?_)
      refine lv_iload_n X.1.1 X.1.2.1 dX7_cellsRaced_9 rfl (lv_at hl 1 rfl) ?_
      refine lv_aload_n X.1.1 X.1.2.1 dX7_cellsRaced_10 rfl (lv_at hl 2 rfl) ?_
      refine lv_iload_n X.1.1 X.1.2.1 dX7_cellsRaced_11 rfl (lv_at hl 0 rfl) ?_
      refine lv_iconst (v := nI 3) X.1.1 X.1.2.1 dX7_cellsRaced_12 (by decide) ?_
      refine sx_cvI (As := [.int (nI 2), .int (nI 3)]) (rest := .int (((nI (0)) ||| (if rcN w 0 3 n ≤ 0 then (nI (0)) else ((nI (1)) <<< ((nI (0)) &&& 31)))) ||| (if rcN w 1 3 n ≤ 0 then (nI (0)) else ((nI (1)) <<< ((nI (1)) &&& 31)))) :: []) X (mX7_racesOf l (c := 2) (k := 3) (n := n) (by omega) (by omega) hn h91n hev h91 h92) gX7_cellsRaced_X7_racesOf rfl yv_X7_racesOf ⟨Nat.le_of_ble_eq_true rfl, Nat.le_of_ble_eq_true rfl⟩ h91 (by decide) rfl rfl hl.1 rfl (Nat.le_of_ble_eq_true rfl) dX7_cellsRaced_13 ⟨Nat.le_of_ble_eq_true rfl, Nat.le_of_ble_eq_true rfl⟩ hs rfl hP (fun r3 F3 H3 l3 hp hP => ?_)
      obtain ⟨rfl, rfl⟩ := hp
      refine sx_join (P := fun z => W pp l ee rmX7_cellsRaced ss mm args below meth kc H3 l3 0 0 Q (F0 mm 26 ls (.int z :: .int (((nI (0)) ||| (if rcN w 0 3 n ≤ 0 then (nI (0)) else ((nI (1)) <<< ((nI (0)) &&& 31)))) ||| (if rcN w 1 3 n ≤ 0 then (nI (0)) else ((nI (1)) <<< ((nI (1)) &&& 31)))) :: []))) (rcN w 2 3 n ≤ 0) (a := (nI (0))) (b := ((nI (1)) <<< ((nI (2)) &&& 31))) (fun ja jb => ?_) ?_
      · refine sx_if_le X (Nat.lt_of_lt_of_le (rcN_lt hn) (by decide)) (tgt := 25) dX7_cellsRaced_16 (by decide) (fun c16 => ?_) (fun c16 => ?_)
        · refine lv_iconst (v := nI 0) X.1.1 X.1.2.1 dX7_cellsRaced_25 (by decide) ?_
          exact ja (by omega)
        · refine lv_iconst (v := nI 1) X.1.1 X.1.2.1 dX7_cellsRaced_19 (by decide) ?_
          refine lv_iload_n X.1.1 X.1.2.1 dX7_cellsRaced_20 rfl (lv_at hl 0 rfl) ?_
          refine lv_ishl X.1.1 X.1.2.1 dX7_cellsRaced_21 ?_
          refine lv_goto (tgt := 26) X.1.1 X.1.2.1 dX7_cellsRaced_22 (by decide) ?_
          exact jb (by omega)
      · refine lv_ior X.1.1 X.1.2.1 dX7_cellsRaced_26 ?_
        refine lv_istore_n (lv' := [(1, .int ((((nI (0)) ||| (if rcN w 0 3 n ≤ 0 then (nI (0)) else ((nI (1)) <<< ((nI (0)) &&& 31)))) ||| (if rcN w 1 3 n ≤ 0 then (nI (0)) else ((nI (1)) <<< ((nI (1)) &&& 31)))) ||| (if rcN w 2 3 n ≤ 0 then (nI (0)) else ((nI (1)) <<< ((nI (2)) &&& 31))))), (2, .int (nI 2)), (0, rf G 91)]) X.1.1 X.1.2.1 dX7_cellsRaced_27 rfl hl (by decide) rfl (fun ls hl => ?_)
        refine lv_iinc (v := (nI (3))) (lv' := [(2, .int (nI 3)), (1, .int ((((nI (0)) ||| (if rcN w 0 3 n ≤ 0 then (nI (0)) else ((nI (1)) <<< ((nI (0)) &&& 31)))) ||| (if rcN w 1 3 n ≤ 0 then (nI (0)) else ((nI (1)) <<< ((nI (1)) &&& 31)))) ||| (if rcN w 2 3 n ≤ 0 then (nI (0)) else ((nI (1)) <<< ((nI (2)) &&& 31))))), (0, rf G 91)]) X.1.1 X.1.2.1 dX7_cellsRaced_28 hl (k := 1) rfl (by decide) (by decide) rfl (fun ls hl => ?_)
        refine lv_goto (tgt := 4) X.1.1 X.1.2.1 dX7_cellsRaced_31 (by decide) ?_
        refine lv_iload_n X.1.1 X.1.2.1 dX7_cellsRaced_4 rfl (lv_at hl 0 rfl) ?_
        refine lv_iconst (v := nI 4) X.1.1 X.1.2.1 dX7_cellsRaced_5 (by decide) ?_
        refine sx_icmp_ge X (by decide) (by decide) (tgt := 34) dX7_cellsRaced_6 (by decide) (fun h => absurd h (by decide)) (fun _ => ?_)
        refine lv_iload_n X.1.1 X.1.2.1 dX7_cellsRaced_9 rfl (lv_at hl 1 rfl) ?_
        refine lv_aload_n X.1.1 X.1.2.1 dX7_cellsRaced_10 rfl (lv_at hl 2 rfl) ?_
        refine lv_iload_n X.1.1 X.1.2.1 dX7_cellsRaced_11 rfl (lv_at hl 0 rfl) ?_
        refine lv_iconst (v := nI 3) X.1.1 X.1.2.1 dX7_cellsRaced_12 (by decide) ?_
        refine sx_cvI (As := [.int (nI 3), .int (nI 3)]) (rest := .int ((((nI (0)) ||| (if rcN w 0 3 n ≤ 0 then (nI (0)) else ((nI (1)) <<< ((nI (0)) &&& 31)))) ||| (if rcN w 1 3 n ≤ 0 then (nI (0)) else ((nI (1)) <<< ((nI (1)) &&& 31)))) ||| (if rcN w 2 3 n ≤ 0 then (nI (0)) else ((nI (1)) <<< ((nI (2)) &&& 31)))) :: []) X (mX7_racesOf l (c := 3) (k := 3) (n := n) (by omega) (by omega) hn h91n hev h91 h92) gX7_cellsRaced_X7_racesOf rfl yv_X7_racesOf ⟨Nat.le_of_ble_eq_true rfl, Nat.le_of_ble_eq_true rfl⟩ h91 (by decide) rfl rfl hl.1 rfl (Nat.le_of_ble_eq_true rfl) dX7_cellsRaced_13 ⟨Nat.le_of_ble_eq_true rfl, Nat.le_of_ble_eq_true rfl⟩ hs rfl hP (fun r4 F4 H4 l4 hp hP => ?_)
        obtain ⟨rfl, rfl⟩ := hp
        refine sx_join (P := fun z => W pp l ee rmX7_cellsRaced ss mm args below meth kc H4 l4 0 0 Q (F0 mm 26 ls (.int z :: .int ((((nI (0)) ||| (if rcN w 0 3 n ≤ 0 then (nI (0)) else ((nI (1)) <<< ((nI (0)) &&& 31)))) ||| (if rcN w 1 3 n ≤ 0 then (nI (0)) else ((nI (1)) <<< ((nI (1)) &&& 31)))) ||| (if rcN w 2 3 n ≤ 0 then (nI (0)) else ((nI (1)) <<< ((nI (2)) &&& 31)))) :: []))) (rcN w 3 3 n ≤ 0) (a := (nI (0))) (b := ((nI (1)) <<< ((nI (3)) &&& 31))) (fun ja jb => ?_) ?_
        · refine sx_if_le X (Nat.lt_of_lt_of_le (rcN_lt hn) (by decide)) (tgt := 25) dX7_cellsRaced_16 (by decide) (fun c16 => ?_) (fun c16 => ?_)
          · refine lv_iconst (v := nI 0) X.1.1 X.1.2.1 dX7_cellsRaced_25 (by decide) ?_
            exact ja (by omega)
          · refine lv_iconst (v := nI 1) X.1.1 X.1.2.1 dX7_cellsRaced_19 (by decide) ?_
            refine lv_iload_n X.1.1 X.1.2.1 dX7_cellsRaced_20 rfl (lv_at hl 0 rfl) ?_
            refine lv_ishl X.1.1 X.1.2.1 dX7_cellsRaced_21 ?_
            refine lv_goto (tgt := 26) X.1.1 X.1.2.1 dX7_cellsRaced_22 (by decide) ?_
            exact jb (by omega)
        · refine lv_ior X.1.1 X.1.2.1 dX7_cellsRaced_26 ?_
          refine lv_istore_n (lv' := [(1, .int (((((nI (0)) ||| (if rcN w 0 3 n ≤ 0 then (nI (0)) else ((nI (1)) <<< ((nI (0)) &&& 31)))) ||| (if rcN w 1 3 n ≤ 0 then (nI (0)) else ((nI (1)) <<< ((nI (1)) &&& 31)))) ||| (if rcN w 2 3 n ≤ 0 then (nI (0)) else ((nI (1)) <<< ((nI (2)) &&& 31)))) ||| (if rcN w 3 3 n ≤ 0 then (nI (0)) else ((nI (1)) <<< ((nI (3)) &&& 31))))), (2, .int (nI 3)), (0, rf G 91)]) X.1.1 X.1.2.1 dX7_cellsRaced_27 rfl hl (by decide) rfl (fun ls hl => ?_)
          refine lv_iinc (v := (nI (4))) (lv' := [(2, .int (nI 4)), (1, .int (((((nI (0)) ||| (if rcN w 0 3 n ≤ 0 then (nI (0)) else ((nI (1)) <<< ((nI (0)) &&& 31)))) ||| (if rcN w 1 3 n ≤ 0 then (nI (0)) else ((nI (1)) <<< ((nI (1)) &&& 31)))) ||| (if rcN w 2 3 n ≤ 0 then (nI (0)) else ((nI (1)) <<< ((nI (2)) &&& 31)))) ||| (if rcN w 3 3 n ≤ 0 then (nI (0)) else ((nI (1)) <<< ((nI (3)) &&& 31))))), (0, rf G 91)]) X.1.1 X.1.2.1 dX7_cellsRaced_28 hl (k := 1) rfl (by decide) (by decide) rfl (fun ls hl => ?_)
          refine lv_goto (tgt := 4) X.1.1 X.1.2.1 dX7_cellsRaced_31 (by decide) ?_
          refine lv_iload_n X.1.1 X.1.2.1 dX7_cellsRaced_4 rfl (lv_at hl 0 rfl) ?_
          refine lv_iconst (v := nI 4) X.1.1 X.1.2.1 dX7_cellsRaced_5 (by decide) ?_
          refine sx_icmp_ge X (by decide) (by decide) (tgt := 34) dX7_cellsRaced_6 (by decide) (fun _ => ?_) (fun h => absurd h (by decide))
          refine lv_iload_n X.1.1 X.1.2.1 dX7_cellsRaced_34 rfl (lv_at hl 1 rfl) ?_
          rw [hQ]
          exact sx_iret X rfl hs rfl hP dX7_cellsRaced_35 (⟨rfl, by simp only [rSetF, Nat.le_zero]; (repeat' split) <;> first | rfl | (exfalso; simp_all; done) | simp_all⟩)
theorem ys_X7_overCells : yX7_overCells.cls ≠ "java/lang/invoke/MethodHandle" ∧ yX7_overCells.cls ≠ "java/lang/invoke/VarHandle" ∧ (parseMethodDescriptor yX7_overCells.desc).map (fun d => d.parameters.length) = some 1 := by decide +kernel
theorem yv_X7_overCells : yX7_overCells.cls = RX7 ∧ yX7_overCells.cls ≠ "java/lang/invoke/MethodHandle" ∧ yX7_overCells.cls ≠ "java/lang/invoke/VarHandle" ∧ (parseMethodDescriptor yX7_overCells.desc).map (fun d => d.parameters.length) = some 1 := ⟨rfl, ys_X7_overCells⟩
abbrev rmX7_overCells : Room := { frames := 3, cells := 0, slots := 0, locals := 74 }
set_option maxHeartbeats 4000000 in
set_option maxRecDepth 100000 in
theorem mX7_overCells_1 {G : sx_G} (l : Launch) {F : Nat → va_E} {w : Nat → Int32} {of : List Value} {n : Nat} (hn : n ≤ 160) (h91n : w 91 = nI n) (hev : ∀ e, e < n → ∃ t, t < 4 ∧ w (92 + 8 * e) = nI t) (h91 : F (91) = ob 7 (rf G 92 :: of)) (h92 : F (92) = rI G (4358) (w)) : sx_I G l yX7_overCells wsX7_overCells rmX7_overCells [rf G 91, .int (nI 1)] (97) F (97) (fun r F1 => F = F1 ∧ nI (rcN w 0 3 n + rcN w 1 3 n + rcN w 2 3 n + rcN w 3 3 n) = r) := by
  refine sx_enter (cc := cX7_overCells) (maxL := 4) (ret := some .int) (own := RX7) (nm := "overCells") (by decide) rfl rfl rfl (Nat.le_of_ble_eq_true rfl) ?_
  intro pp ee ss mm args below meth kc ls Q hQ X hs hP hl
  have hl : lv_has ls 4 [(0, rf G 91), (1, .int (nI 1))] := hl
  refine lv_iconst (v := nI 0) X.1.1 X.1.2.1 dX7_overCells_0 (by decide) ?_
  refine lv_istore_n (lv' := [(2, .int (nI 0)), (0, rf G 91), (1, .int (nI 1))]) X.1.1 X.1.2.1 dX7_overCells_1 rfl hl (by decide) rfl (fun ls hl => ?_)
  refine lv_iconst (v := nI 0) X.1.1 X.1.2.1 dX7_overCells_2 (by decide) ?_
  refine lv_istore_n (lv' := [(3, .int (nI 0)), (2, .int (nI 0)), (0, rf G 91), (1, .int (nI 1))]) X.1.1 X.1.2.1 dX7_overCells_3 rfl hl (by decide) rfl (fun ls hl => ?_)
  refine lv_iload_n X.1.1 X.1.2.1 dX7_overCells_4 rfl (lv_at hl 0 rfl) ?_
  refine lv_iconst (v := nI 4) X.1.1 X.1.2.1 dX7_overCells_5 (by decide) ?_
  refine sx_icmp_ge X (by decide) (by decide) (tgt := 43) dX7_overCells_6 (by decide) (fun h => absurd h (by decide)) (fun _ => ?_)
  refine lv_iload_n X.1.1 X.1.2.1 dX7_overCells_9 rfl (lv_at hl 1 rfl) ?_
  refine lv_iload_n X.1.1 X.1.2.1 dX7_overCells_10 rfl (lv_at hl 3 rfl) ?_
  refine sx_if_eq X (by decide) (tgt := 23) dX7_overCells_11 (by decide) (fun h => absurd h (by decide)) (fun _ => ?_)
  refine lv_aload_n X.1.1 X.1.2.1 dX7_overCells_14 rfl (lv_at hl 2 rfl) ?_
  refine lv_iload_n X.1.1 X.1.2.1 dX7_overCells_15 rfl (lv_at hl 0 rfl) ?_
  refine lv_iconst (v := nI 3) X.1.1 X.1.2.1 dX7_overCells_16 (by decide) ?_
  refine sx_cvI (As := [.int (nI 0), .int (nI 3)]) (rest := .int (nI 0) :: []) X (mX7_racesOf l (c := 0) (k := 3) (n := n) (by omega) (by omega) hn h91n hev h91 h92) gX7_overCells_X7_racesOf rfl yv_X7_racesOf ⟨Nat.le_of_ble_eq_true rfl, Nat.le_of_ble_eq_true rfl⟩ h91 (by decide) rfl rfl hl.1 rfl (Nat.le_of_ble_eq_true rfl) dX7_overCells_17 ⟨Nat.le_of_ble_eq_true rfl, Nat.le_of_ble_eq_true rfl⟩ hs rfl hP (fun r1 F1 H1 l1 hp hP => ?_)
  obtain ⟨rfl, rfl⟩ := hp
  refine lv_goto (tgt := 35) X.1.1 X.1.2.1 dX7_overCells_20 (by decide) ?_
  refine sx_addN X (rcN w 0 3 n) (by omega) dX7_overCells_35 ?_
  refine lv_istore_n (lv' := [(2, .int (nI (rcN w 0 3 n))), (3, .int (nI 0)), (0, rf G 91), (1, .int (nI 1))]) X.1.1 X.1.2.1 dX7_overCells_36 rfl hl (by decide) rfl (fun ls hl => ?_)
  refine lv_iinc (v := (nI (1))) (lv' := [(3, .int (nI 1)), (2, .int (nI (rcN w 0 3 n))), (0, rf G 91), (1, .int (nI 1))]) X.1.1 X.1.2.1 dX7_overCells_37 hl (k := 1) rfl (by decide) (by decide) rfl (fun ls hl => ?_)
  refine lv_goto (tgt := 4) X.1.1 X.1.2.1 dX7_overCells_40 (by decide) ?_
  refine lv_iload_n X.1.1 X.1.2.1 dX7_overCells_4 rfl (lv_at hl 0 rfl) ?_
  refine lv_iconst (v := nI 4) X.1.1 X.1.2.1 dX7_overCells_5 (by decide) ?_
  refine sx_icmp_ge X (by decide) (by decide) (tgt := 43) dX7_overCells_6 (by decide) (fun h => absurd h (by decide)) (fun _ => ?_)
  refine lv_iload_n X.1.1 X.1.2.1 dX7_overCells_9 rfl (lv_at hl 1 rfl) ?_
  refine lv_iload_n X.1.1 X.1.2.1 dX7_overCells_10 rfl (lv_at hl 3 rfl) ?_
  refine sx_if_eq X (by decide) (tgt := 23) dX7_overCells_11 (by decide) (fun h => absurd h (by decide)) (fun _ => ?_)
  refine lv_aload_n X.1.1 X.1.2.1 dX7_overCells_14 rfl (lv_at hl 2 rfl) ?_
  refine lv_iload_n X.1.1 X.1.2.1 dX7_overCells_15 rfl (lv_at hl 0 rfl) ?_
  refine lv_iconst (v := nI 3) X.1.1 X.1.2.1 dX7_overCells_16 (by decide) ?_
  refine sx_cvI (As := [.int (nI 1), .int (nI 3)]) (rest := .int (nI (rcN w 0 3 n)) :: []) X (mX7_racesOf l (c := 1) (k := 3) (n := n) (by omega) (by omega) hn h91n hev h91 h92) gX7_overCells_X7_racesOf rfl yv_X7_racesOf ⟨Nat.le_of_ble_eq_true rfl, Nat.le_of_ble_eq_true rfl⟩ h91 (by decide) rfl rfl hl.1 rfl (Nat.le_of_ble_eq_true rfl) dX7_overCells_17 ⟨Nat.le_of_ble_eq_true rfl, Nat.le_of_ble_eq_true rfl⟩ hs rfl hP (fun r2 F2 H2 l2 hp hP => ?_)
  obtain ⟨rfl, rfl⟩ := hp
  refine lv_goto (tgt := 35) X.1.1 X.1.2.1 dX7_overCells_20 (by decide) ?_
  refine sx_addN X (rcN w 0 3 n + rcN w 1 3 n) (by omega) dX7_overCells_35 ?_
  refine lv_istore_n (lv' := [(2, .int (nI (rcN w 0 3 n + rcN w 1 3 n))), (3, .int (nI 1)), (0, rf G 91), (1, .int (nI 1))]) X.1.1 X.1.2.1 dX7_overCells_36 rfl hl (by decide) rfl (fun ls hl => ?_)
  refine lv_iinc (v := (nI (2))) (lv' := [(3, .int (nI 2)), (2, .int (nI (rcN w 0 3 n + rcN w 1 3 n))), (0, rf G 91), (1, .int (nI 1))]) X.1.1 X.1.2.1 dX7_overCells_37 hl (k := 1) rfl (by decide) (by decide) rfl (fun ls hl => ?_)
  refine lv_goto (tgt := 4) X.1.1 X.1.2.1 dX7_overCells_40 (by decide) ?_
  refine lv_iload_n X.1.1 X.1.2.1 dX7_overCells_4 rfl (lv_at hl 0 rfl) ?_
  refine lv_iconst (v := nI 4) X.1.1 X.1.2.1 dX7_overCells_5 (by decide) ?_
  refine sx_icmp_ge X (by decide) (by decide) (tgt := 43) dX7_overCells_6 (by decide) (fun h => absurd h (by decide)) (fun _ => ?_)
  refine lv_iload_n X.1.1 X.1.2.1 dX7_overCells_9 rfl (lv_at hl 1 rfl) ?_
  refine lv_iload_n X.1.1 X.1.2.1 dX7_overCells_10 rfl (lv_at hl 3 rfl) ?_
  refine sx_if_eq X (by decide) (tgt := 23) dX7_overCells_11 (by decide) (fun h => absurd h (by decide)) (fun _ => ?_)
  refine lv_aload_n X.1.1 X.1.2.1 dX7_overCells_14 rfl (lv_at hl 2 rfl) ?_
  refine lv_iload_n X.1.1 X.1.2.1 dX7_overCells_15 rfl (lv_at hl 0 rfl) ?_
  refine lv_iconst (v := nI 3) X.1.1 X.1.2.1 dX7_overCells_16 (by decide) ?_
  refine sx_cvI (As := [.int (nI 2), .int (nI 3)]) (rest := .int (nI (rcN w 0 3 n + rcN w 1 3 n)) :: []) X (mX7_racesOf l (c := 2) (k := 3) (n := n) (by omega) (by omega) hn h91n hev h91 h92) gX7_overCells_X7_racesOf rfl yv_X7_racesOf ⟨Nat.le_of_ble_eq_true rfl, Nat.le_of_ble_eq_true rfl⟩ h91 (by decide) rfl rfl hl.1 rfl (Nat.le_of_ble_eq_true rfl) dX7_overCells_17 ⟨Nat.le_of_ble_eq_true rfl, Nat.le_of_ble_eq_true rfl⟩ hs rfl hP (fun r3 F3 H3 l3 hp hP => ?_)
  obtain ⟨rfl, rfl⟩ := hp
  refine lv_goto (tgt := 35) X.1.1 X.1.2.1 dX7_overCells_20 (by decide) ?_
  refine sx_addN X (rcN w 0 3 n + rcN w 1 3 n + rcN w 2 3 n) (by omega) dX7_overCells_35 ?_
  refine lv_istore_n (lv' := [(2, .int (nI (rcN w 0 3 n + rcN w 1 3 n + rcN w 2 3 n))), (3, .int (nI 2)), (0, rf G 91), (1, .int (nI 1))]) X.1.1 X.1.2.1 dX7_overCells_36 rfl hl (by decide) rfl (fun ls hl => ?_)
  refine lv_iinc (v := (nI (3))) (lv' := [(3, .int (nI 3)), (2, .int (nI (rcN w 0 3 n + rcN w 1 3 n + rcN w 2 3 n))), (0, rf G 91), (1, .int (nI 1))]) X.1.1 X.1.2.1 dX7_overCells_37 hl (k := 1) rfl (by decide) (by decide) rfl (fun ls hl => ?_)
  refine lv_goto (tgt := 4) X.1.1 X.1.2.1 dX7_overCells_40 (by decide) ?_
  refine lv_iload_n X.1.1 X.1.2.1 dX7_overCells_4 rfl (lv_at hl 0 rfl) ?_
  refine lv_iconst (v := nI 4) X.1.1 X.1.2.1 dX7_overCells_5 (by decide) ?_
  refine sx_icmp_ge X (by decide) (by decide) (tgt := 43) dX7_overCells_6 (by decide) (fun h => absurd h (by decide)) (fun _ => ?_)
  refine lv_iload_n X.1.1 X.1.2.1 dX7_overCells_9 rfl (lv_at hl 1 rfl) ?_
  refine lv_iload_n X.1.1 X.1.2.1 dX7_overCells_10 rfl (lv_at hl 3 rfl) ?_
  refine sx_if_eq X (by decide) (tgt := 23) dX7_overCells_11 (by decide) (fun h => absurd h (by decide)) (fun _ => ?_)
  refine lv_aload_n X.1.1 X.1.2.1 dX7_overCells_14 rfl (lv_at hl 2 rfl) ?_
  refine lv_iload_n X.1.1 X.1.2.1 dX7_overCells_15 rfl (lv_at hl 0 rfl) ?_
  refine lv_iconst (v := nI 3) X.1.1 X.1.2.1 dX7_overCells_16 (by decide) ?_
  refine sx_cvI (As := [.int (nI 3), .int (nI 3)]) (rest := .int (nI (rcN w 0 3 n + rcN w 1 3 n + rcN w 2 3 n)) :: []) X (mX7_racesOf l (c := 3) (k := 3) (n := n) (by omega) (by omega) hn h91n hev h91 h92) gX7_overCells_X7_racesOf rfl yv_X7_racesOf ⟨Nat.le_of_ble_eq_true rfl, Nat.le_of_ble_eq_true rfl⟩ h91 (by decide) rfl rfl hl.1 rfl (Nat.le_of_ble_eq_true rfl) dX7_overCells_17 ⟨Nat.le_of_ble_eq_true rfl, Nat.le_of_ble_eq_true rfl⟩ hs rfl hP (fun r4 F4 H4 l4 hp hP => ?_)
  obtain ⟨rfl, rfl⟩ := hp
  refine lv_goto (tgt := 35) X.1.1 X.1.2.1 dX7_overCells_20 (by decide) ?_
  refine sx_addN X (rcN w 0 3 n + rcN w 1 3 n + rcN w 2 3 n + rcN w 3 3 n) (by omega) dX7_overCells_35 ?_
  refine lv_istore_n (lv' := [(2, .int (nI (rcN w 0 3 n + rcN w 1 3 n + rcN w 2 3 n + rcN w 3 3 n))), (3, .int (nI 3)), (0, rf G 91), (1, .int (nI 1))]) X.1.1 X.1.2.1 dX7_overCells_36 rfl hl (by decide) rfl (fun ls hl => ?_)
  refine lv_iinc (v := (nI (4))) (lv' := [(3, .int (nI 4)), (2, .int (nI (rcN w 0 3 n + rcN w 1 3 n + rcN w 2 3 n + rcN w 3 3 n))), (0, rf G 91), (1, .int (nI 1))]) X.1.1 X.1.2.1 dX7_overCells_37 hl (k := 1) rfl (by decide) (by decide) rfl (fun ls hl => ?_)
  refine lv_goto (tgt := 4) X.1.1 X.1.2.1 dX7_overCells_40 (by decide) ?_
  refine lv_iload_n X.1.1 X.1.2.1 dX7_overCells_4 rfl (lv_at hl 0 rfl) ?_
  refine lv_iconst (v := nI 4) X.1.1 X.1.2.1 dX7_overCells_5 (by decide) ?_
  refine sx_icmp_ge X (by decide) (by decide) (tgt := 43) dX7_overCells_6 (by decide) (fun _ => ?_) (fun h => absurd h (by decide))
  refine lv_iload_n X.1.1 X.1.2.1 dX7_overCells_43 rfl (lv_at hl 1 rfl) ?_
  rw [hQ]
  exact sx_iret X rfl hs rfl hP dX7_overCells_44 (⟨rfl, by first | rfl | (congr 1; omega)⟩)
theorem in_X7_overCells_X7 : ∀ w ∈ wsX70, w ∈ wsX7_overCells := fun _ h => List.mem_cons_of_mem _ (List.mem_append_right _ (h))
theorem lk_X7_overCells_fieldLink_RX7_7_RaceWatchModel_w_I : (.fieldLink RX7 7 "RaceWatchModel" "w" "[I" : Cond) ∈ wsX7_overCells := List.mem_cons_of_mem _ (List.mem_append_left _ (List.mem_of_getElem? (i := 0) rfl))
set_option maxHeartbeats 4000000 in
set_option maxRecDepth 100000 in
theorem mX7_overCells_0 {G : sx_G} (l : Launch) {F : Nat → va_E} {w : Nat → Int32} {of : List Value}  (h91 : F (91) = ob 7 (rf G 92 :: of)) (h92 : F (92) = rI G (4358) (w)) : sx_I G l yX7_overCells wsX7_overCells rmX7_overCells [rf G 91, .int (nI 0)] (97) F (97) (fun r F1 => F = F1 ∧ nI 0 + w 52 + w 64 + w 76 + w 88 = r) := by
  refine sx_enter (cc := cX7_overCells) (maxL := 4) (ret := some .int) (own := RX7) (nm := "overCells") (by decide) rfl rfl rfl (Nat.le_of_ble_eq_true rfl) ?_
  intro pp ee ss mm args below meth kc ls Q hQ X hs hP hl
  have hl : lv_has ls 4 [(0, rf G 91), (1, .int (nI 0))] := hl
  refine lv_iconst (v := nI 0) X.1.1 X.1.2.1 dX7_overCells_0 (by decide) ?_
  refine lv_istore_n (lv' := [(2, .int (nI 0)), (0, rf G 91), (1, .int (nI 0))]) X.1.1 X.1.2.1 dX7_overCells_1 rfl hl (by decide) rfl (fun ls hl => ?_)
  refine lv_iconst (v := nI 0) X.1.1 X.1.2.1 dX7_overCells_2 (by decide) ?_
  refine lv_istore_n (lv' := [(3, .int (nI 0)), (2, .int (nI 0)), (0, rf G 91), (1, .int (nI 0))]) X.1.1 X.1.2.1 dX7_overCells_3 rfl hl (by decide) rfl (fun ls hl => ?_)
  refine lv_iload_n X.1.1 X.1.2.1 dX7_overCells_4 rfl (lv_at hl 0 rfl) ?_
  refine lv_iconst (v := nI 4) X.1.1 X.1.2.1 dX7_overCells_5 (by decide) ?_
  refine sx_icmp_ge X (by decide) (by decide) (tgt := 43) dX7_overCells_6 (by decide) (fun h => absurd h (by decide)) (fun _ => ?_)
  refine lv_iload_n X.1.1 X.1.2.1 dX7_overCells_9 rfl (lv_at hl 1 rfl) ?_
  refine lv_iload_n X.1.1 X.1.2.1 dX7_overCells_10 rfl (lv_at hl 3 rfl) ?_
  refine sx_if_eq X (by decide) (tgt := 23) dX7_overCells_11 (by decide) (fun _ => ?_) (fun h => absurd h (by decide))
  refine lv_aload_n X.1.1 X.1.2.1 dX7_overCells_23 rfl (lv_at hl 2 rfl) ?_
  refine sx_get X hP in_X7_overCells_X7 h91 (by decide) rfl 0 (by decide) lk_X7_overCells_fieldLink_RX7_7_RaceWatchModel_w_I rfl dX7_overCells_24 ?_
  refine lv_iload_n X.1.1 X.1.2.1 dX7_overCells_27 rfl (lv_at hl 0 rfl) ?_
  refine sx_csI (As := [.int (nI 0)]) (rest := rf G 92 :: .int (nI 0) :: []) X (mX7_of l (c := 0)) gX7_overCells_X7_of rfl ys_X7_of ⟨Nat.le_of_ble_eq_true rfl, Nat.le_of_ble_eq_true rfl⟩ hl.1 rfl (Nat.le_of_ble_eq_true rfl) dX7_overCells_28 ⟨Nat.le_of_ble_eq_true rfl, Nat.le_of_ble_eq_true rfl⟩ hs rfl hP (fun r1 F1 H1 l1 hp hP => ?_)
  obtain ⟨rfl, rfl⟩ := hp
  refine lv_bipush (v := nI 9) X.1.1 X.1.2.1 dX7_overCells_31 (by decide) ?_
  refine sx_addN X (52) rfl dX7_overCells_33 ?_
  refine sx_ald X hP h92 (by decide) (52) (by decide) (by decide) dX7_overCells_34 ?_
  refine lv_iadd X.1.1 X.1.2.1 dX7_overCells_35 ?_
  refine lv_istore_n (lv' := [(2, .int ((nI (0)) + (w 52))), (3, .int (nI 0)), (0, rf G 91), (1, .int (nI 0))]) X.1.1 X.1.2.1 dX7_overCells_36 rfl hl (by decide) rfl (fun ls hl => ?_)
  refine lv_iinc (v := (nI (1))) (lv' := [(3, .int (nI 1)), (2, .int ((nI (0)) + (w 52))), (0, rf G 91), (1, .int (nI 0))]) X.1.1 X.1.2.1 dX7_overCells_37 hl (k := 1) rfl (by decide) (by decide) rfl (fun ls hl => ?_)
  refine lv_goto (tgt := 4) X.1.1 X.1.2.1 dX7_overCells_40 (by decide) ?_
  refine lv_iload_n X.1.1 X.1.2.1 dX7_overCells_4 rfl (lv_at hl 0 rfl) ?_
  refine lv_iconst (v := nI 4) X.1.1 X.1.2.1 dX7_overCells_5 (by decide) ?_
  refine sx_icmp_ge X (by decide) (by decide) (tgt := 43) dX7_overCells_6 (by decide) (fun h => absurd h (by decide)) (fun _ => ?_)
  refine lv_iload_n X.1.1 X.1.2.1 dX7_overCells_9 rfl (lv_at hl 1 rfl) ?_
  refine lv_iload_n X.1.1 X.1.2.1 dX7_overCells_10 rfl (lv_at hl 3 rfl) ?_
  refine sx_if_eq X (by decide) (tgt := 23) dX7_overCells_11 (by decide) (fun _ => ?_) (fun h => absurd h (by decide))
  refine lv_aload_n X.1.1 X.1.2.1 dX7_overCells_23 rfl (lv_at hl 2 rfl) ?_
  refine sx_get X hP in_X7_overCells_X7 h91 (by decide) rfl 0 (by decide) lk_X7_overCells_fieldLink_RX7_7_RaceWatchModel_w_I rfl dX7_overCells_24 ?_
  refine lv_iload_n X.1.1 X.1.2.1 dX7_overCells_27 rfl (lv_at hl 0 rfl) ?_
  refine sx_csI (As := [.int (nI 1)]) (rest := rf G 92 :: .int ((nI (0)) + (w 52)) :: []) X (mX7_of l (c := 1)) gX7_overCells_X7_of rfl ys_X7_of ⟨Nat.le_of_ble_eq_true rfl, Nat.le_of_ble_eq_true rfl⟩ hl.1 rfl (Nat.le_of_ble_eq_true rfl) dX7_overCells_28 ⟨Nat.le_of_ble_eq_true rfl, Nat.le_of_ble_eq_true rfl⟩ hs rfl hP (fun r2 F2 H2 l2 hp hP => ?_)
  obtain ⟨rfl, rfl⟩ := hp
  refine lv_bipush (v := nI 9) X.1.1 X.1.2.1 dX7_overCells_31 (by decide) ?_
  refine sx_addN X (64) rfl dX7_overCells_33 ?_
  refine sx_ald X hP h92 (by decide) (64) (by decide) (by decide) dX7_overCells_34 ?_
  refine lv_iadd X.1.1 X.1.2.1 dX7_overCells_35 ?_
  refine lv_istore_n (lv' := [(2, .int (((nI (0)) + (w 52)) + (w 64))), (3, .int (nI 1)), (0, rf G 91), (1, .int (nI 0))]) X.1.1 X.1.2.1 dX7_overCells_36 rfl hl (by decide) rfl (fun ls hl => ?_)
  refine lv_iinc (v := (nI (2))) (lv' := [(3, .int (nI 2)), (2, .int (((nI (0)) + (w 52)) + (w 64))), (0, rf G 91), (1, .int (nI 0))]) X.1.1 X.1.2.1 dX7_overCells_37 hl (k := 1) rfl (by decide) (by decide) rfl (fun ls hl => ?_)
  refine lv_goto (tgt := 4) X.1.1 X.1.2.1 dX7_overCells_40 (by decide) ?_
  refine lv_iload_n X.1.1 X.1.2.1 dX7_overCells_4 rfl (lv_at hl 0 rfl) ?_
  refine lv_iconst (v := nI 4) X.1.1 X.1.2.1 dX7_overCells_5 (by decide) ?_
  refine sx_icmp_ge X (by decide) (by decide) (tgt := 43) dX7_overCells_6 (by decide) (fun h => absurd h (by decide)) (fun _ => ?_)
  refine lv_iload_n X.1.1 X.1.2.1 dX7_overCells_9 rfl (lv_at hl 1 rfl) ?_
  refine lv_iload_n X.1.1 X.1.2.1 dX7_overCells_10 rfl (lv_at hl 3 rfl) ?_
  refine sx_if_eq X (by decide) (tgt := 23) dX7_overCells_11 (by decide) (fun _ => ?_) (fun h => absurd h (by decide))
  refine lv_aload_n X.1.1 X.1.2.1 dX7_overCells_23 rfl (lv_at hl 2 rfl) ?_
  refine sx_get X hP in_X7_overCells_X7 h91 (by decide) rfl 0 (by decide) lk_X7_overCells_fieldLink_RX7_7_RaceWatchModel_w_I rfl dX7_overCells_24 ?_
  refine lv_iload_n X.1.1 X.1.2.1 dX7_overCells_27 rfl (lv_at hl 0 rfl) ?_
  refine sx_csI (As := [.int (nI 2)]) (rest := rf G 92 :: .int (((nI (0)) + (w 52)) + (w 64)) :: []) X (mX7_of l (c := 2)) gX7_overCells_X7_of rfl ys_X7_of ⟨Nat.le_of_ble_eq_true rfl, Nat.le_of_ble_eq_true rfl⟩ hl.1 rfl (Nat.le_of_ble_eq_true rfl) dX7_overCells_28 ⟨Nat.le_of_ble_eq_true rfl, Nat.le_of_ble_eq_true rfl⟩ hs rfl hP (fun r3 F3 H3 l3 hp hP => ?_)
  obtain ⟨rfl, rfl⟩ := hp
  refine lv_bipush (v := nI 9) X.1.1 X.1.2.1 dX7_overCells_31 (by decide) ?_
  refine sx_addN X (76) rfl dX7_overCells_33 ?_
  refine sx_ald X hP h92 (by decide) (76) (by decide) (by decide) dX7_overCells_34 ?_
  refine lv_iadd X.1.1 X.1.2.1 dX7_overCells_35 ?_
  refine lv_istore_n (lv' := [(2, .int ((((nI (0)) + (w 52)) + (w 64)) + (w 76))), (3, .int (nI 2)), (0, rf G 91), (1, .int (nI 0))]) X.1.1 X.1.2.1 dX7_overCells_36 rfl hl (by decide) rfl (fun ls hl => ?_)
  refine lv_iinc (v := (nI (3))) (lv' := [(3, .int (nI 3)), (2, .int ((((nI (0)) + (w 52)) + (w 64)) + (w 76))), (0, rf G 91), (1, .int (nI 0))]) X.1.1 X.1.2.1 dX7_overCells_37 hl (k := 1) rfl (by decide) (by decide) rfl (fun ls hl => ?_)
  refine lv_goto (tgt := 4) X.1.1 X.1.2.1 dX7_overCells_40 (by decide) ?_
  refine lv_iload_n X.1.1 X.1.2.1 dX7_overCells_4 rfl (lv_at hl 0 rfl) ?_
  refine lv_iconst (v := nI 4) X.1.1 X.1.2.1 dX7_overCells_5 (by decide) ?_
  refine sx_icmp_ge X (by decide) (by decide) (tgt := 43) dX7_overCells_6 (by decide) (fun h => absurd h (by decide)) (fun _ => ?_)
  refine lv_iload_n X.1.1 X.1.2.1 dX7_overCells_9 rfl (lv_at hl 1 rfl) ?_
  refine lv_iload_n X.1.1 X.1.2.1 dX7_overCells_10 rfl (lv_at hl 3 rfl) ?_
  refine sx_if_eq X (by decide) (tgt := 23) dX7_overCells_11 (by decide) (fun _ => ?_) (fun h => absurd h (by decide))
  refine lv_aload_n X.1.1 X.1.2.1 dX7_overCells_23 rfl (lv_at hl 2 rfl) ?_
  refine sx_get X hP in_X7_overCells_X7 h91 (by decide) rfl 0 (by decide) lk_X7_overCells_fieldLink_RX7_7_RaceWatchModel_w_I rfl dX7_overCells_24 ?_
  refine lv_iload_n X.1.1 X.1.2.1 dX7_overCells_27 rfl (lv_at hl 0 rfl) ?_
  refine sx_csI (As := [.int (nI 3)]) (rest := rf G 92 :: .int ((((nI (0)) + (w 52)) + (w 64)) + (w 76)) :: []) X (mX7_of l (c := 3)) gX7_overCells_X7_of rfl ys_X7_of ⟨Nat.le_of_ble_eq_true rfl, Nat.le_of_ble_eq_true rfl⟩ hl.1 rfl (Nat.le_of_ble_eq_true rfl) dX7_overCells_28 ⟨Nat.le_of_ble_eq_true rfl, Nat.le_of_ble_eq_true rfl⟩ hs rfl hP (fun r4 F4 H4 l4 hp hP => ?_)
  obtain ⟨rfl, rfl⟩ := hp
  refine lv_bipush (v := nI 9) X.1.1 X.1.2.1 dX7_overCells_31 (by decide) ?_
  refine sx_addN X (88) rfl dX7_overCells_33 ?_
  refine sx_ald X hP h92 (by decide) (88) (by decide) (by decide) dX7_overCells_34 ?_
  refine lv_iadd X.1.1 X.1.2.1 dX7_overCells_35 ?_
  refine lv_istore_n (lv' := [(2, .int (((((nI (0)) + (w 52)) + (w 64)) + (w 76)) + (w 88))), (3, .int (nI 3)), (0, rf G 91), (1, .int (nI 0))]) X.1.1 X.1.2.1 dX7_overCells_36 rfl hl (by decide) rfl (fun ls hl => ?_)
  refine lv_iinc (v := (nI (4))) (lv' := [(3, .int (nI 4)), (2, .int (((((nI (0)) + (w 52)) + (w 64)) + (w 76)) + (w 88))), (0, rf G 91), (1, .int (nI 0))]) X.1.1 X.1.2.1 dX7_overCells_37 hl (k := 1) rfl (by decide) (by decide) rfl (fun ls hl => ?_)
  refine lv_goto (tgt := 4) X.1.1 X.1.2.1 dX7_overCells_40 (by decide) ?_
  refine lv_iload_n X.1.1 X.1.2.1 dX7_overCells_4 rfl (lv_at hl 0 rfl) ?_
  refine lv_iconst (v := nI 4) X.1.1 X.1.2.1 dX7_overCells_5 (by decide) ?_
  refine sx_icmp_ge X (by decide) (by decide) (tgt := 43) dX7_overCells_6 (by decide) (fun _ => ?_) (fun h => absurd h (by decide))
  refine lv_iload_n X.1.1 X.1.2.1 dX7_overCells_43 rfl (lv_at hl 1 rfl) ?_
  rw [hQ]
  exact sx_iret X rfl hs rfl hP dX7_overCells_44 (⟨rfl, rfl⟩)
theorem ys_X7_told : yX7_told.cls ≠ "java/lang/invoke/MethodHandle" ∧ yX7_told.cls ≠ "java/lang/invoke/VarHandle" ∧ (parseMethodDescriptor yX7_told.desc).map (fun d => d.parameters.length) = some 1 := by decide +kernel
theorem yv_X7_told : yX7_told.cls = RX7 ∧ yX7_told.cls ≠ "java/lang/invoke/MethodHandle" ∧ yX7_told.cls ≠ "java/lang/invoke/VarHandle" ∧ (parseMethodDescriptor yX7_told.desc).map (fun d => d.parameters.length) = some 1 := ⟨rfl, ys_X7_told⟩
theorem in_X7_told_X7 : ∀ w ∈ wsX70, w ∈ wsX7_told := fun _ h => List.mem_cons_of_mem _ (List.mem_append_right _ (h))
theorem lk_X7_told_fieldLink_RX7_7_RaceWatchModel_w_I : (.fieldLink RX7 7 "RaceWatchModel" "w" "[I" : Cond) ∈ wsX7_told := List.mem_cons_of_mem _ (List.mem_append_left _ (List.mem_append_left _ (List.mem_of_getElem? (i := 0) rfl)))
theorem lk_X7_told_fieldLink_RX7_129_RaceWatchModel_entries_I : (.fieldLink RX7 129 "RaceWatchModel" "entries" "I" : Cond) ∈ wsX7_told := List.mem_cons_of_mem _ (List.mem_append_left _ (List.mem_append_left _ (List.mem_of_getElem? (i := 1) rfl)))
theorem lk_X7_told_constant_RX7_98_1000000002 : (.constant RX7 98 (-1000000002) : Cond) ∈ wsX7_told := List.mem_cons_of_mem _ (List.mem_append_left _ (List.mem_append_left _ (List.mem_of_getElem? (i := 2) rfl)))
abbrev rmX7_told : Room := { frames := 4, cells := 0, slots := 0, locals := 97 }
set_option maxHeartbeats 4000000 in
set_option maxRecDepth 100000 in
theorem mX7_told {G : sx_G} (l : Launch) {F : Nat → va_E} {w : Nat → Int32} {a1 : Value} {en : Int32} {of : List Value} {n : Nat} {o : Int32} (hn : n ≤ 160) (h91n : w 91 = nI n) (hev : ∀ e, e < n → ∃ t, t < 4 ∧ w (92 + 8 * e) = nI t) (h91 : F (91) = ob 7 (rf G 92 :: a1 :: .int (en) :: of)) (h92 : F (92) = rI G (4358) (w)) : sx_I G l yX7_told wsX7_told rmX7_told [rf G 91, .int (o)] (97) F (97) (fun r F1 => F = F1 ∧ toldF w n en o = r) := by
  refine sx_enter (cc := cX7_told) (maxL := 2) (ret := some .int) (own := RX7) (nm := "told") (by decide) rfl rfl rfl (Nat.le_of_ble_eq_true rfl) ?_
  intro pp ee ss mm args below meth kc ls Q hQ X hs hP hl
  have hl : lv_has ls 2 [(0, rf G 91), (1, .int (o))] := hl
  refine lv_iload_n X.1.1 X.1.2.1 dX7_told_0 rfl (lv_at hl 1 rfl) ?_
  by_cases ho : inR o 9
  · obtain ⟨j, hj, rfl⟩ := ho
    rcases (show j = 0 ∨ j = 1 ∨ j = 2 ∨ j = 3 ∨ j = 4 ∨ j = 5 ∨ j = 6 ∨ j = 7 ∨ j = 8 by omega) with rfl | rfl | rfl | rfl | rfl | rfl | rfl | rfl | rfl
    · refine lv_tableIn (off := 51) (tgt := 52) X.1.1 X.1.2.1 dX7_told_1 (by decide) (by decide) (by decide) (by decide) ?_
      refine lv_aload_n X.1.1 X.1.2.1 dX7_told_52 rfl (lv_at hl 0 rfl) ?_
      refine sx_get X hP in_X7_told_X7 h91 (by decide) rfl 0 (by decide) lk_X7_told_fieldLink_RX7_7_RaceWatchModel_w_I rfl dX7_told_53 ?_
      refine lv_bipush (v := nI 91) X.1.1 X.1.2.1 dX7_told_56 (by decide) ?_
      refine sx_ald X hP h92 (by decide) (91) (by decide) (by decide) dX7_told_58 ?_
      rw [h91n]
      rw [hQ]
      exact sx_iret X rfl hs rfl hP dX7_told_59 (⟨rfl, by unfold toldF; rw [cif_f (fun q => q ⟨0, by decide, rfl⟩), nI_clamp (by decide)]; rfl⟩)
    · refine lv_tableIn (off := 59) (tgt := 60) X.1.1 X.1.2.1 dX7_told_1 (by decide) (by decide) (by decide) (by decide) ?_
      refine lv_aload_n X.1.1 X.1.2.1 dX7_told_60 rfl (lv_at hl 0 rfl) ?_
      refine lv_iconst (v := nI 1) X.1.1 X.1.2.1 dX7_told_61 (by decide) ?_
      refine sx_cvI (As := [.int (nI 1)]) (rest := []) X (mX7_whoIs l (x := (nI (1))) h91 h92) gX7_told_X7_whoIs rfl yv_X7_whoIs ⟨Nat.le_of_ble_eq_true rfl, Nat.le_of_ble_eq_true rfl⟩ h91 (by decide) rfl rfl hl.1 rfl (Nat.le_of_ble_eq_true rfl) dX7_told_62 ⟨Nat.le_of_ble_eq_true rfl, Nat.le_of_ble_eq_true rfl⟩ hs rfl hP (fun r1 F1 H1 l1 hp hP => ?_)
      obtain ⟨rfl, rfl⟩ := hp
      rw [hQ]
      exact sx_iret X rfl hs rfl hP dX7_told_65 (⟨rfl, by unfold toldF; rw [cif_f (fun q => q ⟨1, by decide, rfl⟩), nI_clamp (by decide)]; rfl⟩)
    · refine lv_tableIn (off := 65) (tgt := 66) X.1.1 X.1.2.1 dX7_told_1 (by decide) (by decide) (by decide) (by decide) ?_
      refine lv_aload_n X.1.1 X.1.2.1 dX7_told_66 rfl (lv_at hl 0 rfl) ?_
      refine lv_iconst (v := nI 2) X.1.1 X.1.2.1 dX7_told_67 (by decide) ?_
      refine sx_cvI (As := [.int (nI 2)]) (rest := []) X (mX7_whoIs l (x := (nI (2))) h91 h92) gX7_told_X7_whoIs rfl yv_X7_whoIs ⟨Nat.le_of_ble_eq_true rfl, Nat.le_of_ble_eq_true rfl⟩ h91 (by decide) rfl rfl hl.1 rfl (Nat.le_of_ble_eq_true rfl) dX7_told_68 ⟨Nat.le_of_ble_eq_true rfl, Nat.le_of_ble_eq_true rfl⟩ hs rfl hP (fun r2 F2 H2 l2 hp hP => ?_)
      obtain ⟨rfl, rfl⟩ := hp
      rw [hQ]
      exact sx_iret X rfl hs rfl hP dX7_told_71 (⟨rfl, by unfold toldF; rw [cif_f (fun q => q ⟨2, by decide, rfl⟩), nI_clamp (by decide)]; rfl⟩)
    · refine lv_tableIn (off := 71) (tgt := 72) X.1.1 X.1.2.1 dX7_told_1 (by decide) (by decide) (by decide) (by decide) ?_
      refine lv_aload_n X.1.1 X.1.2.1 dX7_told_72 rfl (lv_at hl 0 rfl) ?_
      refine sx_cvI (As := []) (rest := []) X (mX7_locksHeld l h91 h92) gX7_told_X7_locksHeld rfl yv_X7_locksHeld ⟨Nat.le_of_ble_eq_true rfl, Nat.le_of_ble_eq_true rfl⟩ h91 (by decide) rfl rfl hl.1 rfl (Nat.le_of_ble_eq_true rfl) dX7_told_73 ⟨Nat.le_of_ble_eq_true rfl, Nat.le_of_ble_eq_true rfl⟩ hs rfl hP (fun r3 F3 H3 l3 hp hP => ?_)
      obtain ⟨rfl, rfl⟩ := hp
      rw [hQ]
      exact sx_iret X rfl hs rfl hP dX7_told_76 (⟨rfl, by unfold toldF; rw [cif_f (fun q => q ⟨3, by decide, rfl⟩), nI_clamp (by decide)]; rfl⟩)
    · refine lv_tableIn (off := 76) (tgt := 77) X.1.1 X.1.2.1 dX7_told_1 (by decide) (by decide) (by decide) (by decide) ?_
      refine lv_aload_n X.1.1 X.1.2.1 dX7_told_77 rfl (lv_at hl 0 rfl) ?_
      refine sx_cvI (As := []) (rest := []) X (mX7_cellsRaced l (n := n) hn h91n hev h91 h92) gX7_told_X7_cellsRaced rfl yv_X7_cellsRaced ⟨Nat.le_of_ble_eq_true rfl, Nat.le_of_ble_eq_true rfl⟩ h91 (by decide) rfl rfl hl.1 rfl (Nat.le_of_ble_eq_true rfl) dX7_told_78 ⟨Nat.le_of_ble_eq_true rfl, Nat.le_of_ble_eq_true rfl⟩ hs rfl hP (fun r4 F4 H4 l4 hp hP => ?_)
      obtain ⟨rfl, rfl⟩ := hp
      rw [hQ]
      exact sx_iret X rfl hs rfl hP dX7_told_81 (⟨rfl, by unfold toldF; rw [cif_f (fun q => q ⟨4, by decide, rfl⟩), nI_clamp (by decide)]; rfl⟩)
    · refine lv_tableIn (off := 81) (tgt := 82) X.1.1 X.1.2.1 dX7_told_1 (by decide) (by decide) (by decide) (by decide) ?_
      refine lv_aload_n X.1.1 X.1.2.1 dX7_told_82 rfl (lv_at hl 0 rfl) ?_
      refine lv_iconst (v := nI 1) X.1.1 X.1.2.1 dX7_told_83 (by decide) ?_
      refine sx_cvI (As := [.int (nI 1)]) (rest := []) X (mX7_overCells_1 l (n := n) hn h91n hev h91 h92) gX7_told_X7_overCells rfl yv_X7_overCells ⟨Nat.le_of_ble_eq_true rfl, Nat.le_of_ble_eq_true rfl⟩ h91 (by decide) rfl rfl hl.1 rfl (Nat.le_of_ble_eq_true rfl) dX7_told_84 ⟨Nat.le_of_ble_eq_true rfl, Nat.le_of_ble_eq_true rfl⟩ hs rfl hP (fun r5 F5 H5 l5 hp hP => ?_)
      obtain ⟨rfl, rfl⟩ := hp
      rw [hQ]
      exact sx_iret X rfl hs rfl hP dX7_told_87 (⟨rfl, by unfold toldF; rw [cif_f (fun q => q ⟨5, by decide, rfl⟩), nI_clamp (by decide)]; rfl⟩)
    · refine lv_tableIn (off := 87) (tgt := 88) X.1.1 X.1.2.1 dX7_told_1 (by decide) (by decide) (by decide) (by decide) ?_
      refine lv_aload_n X.1.1 X.1.2.1 dX7_told_88 rfl (lv_at hl 0 rfl) ?_
      refine sx_get X hP in_X7_told_X7 h91 (by decide) rfl 0 (by decide) lk_X7_told_fieldLink_RX7_7_RaceWatchModel_w_I rfl dX7_told_89 ?_
      refine lv_sipush (v := nI 1372) X.1.1 X.1.2.1 dX7_told_92 (by decide) ?_
      refine sx_ald X hP h92 (by decide) (1372) (by decide) (by decide) dX7_told_95 ?_
      rw [hQ]
      exact sx_iret X rfl hs rfl hP dX7_told_96 (⟨rfl, by unfold toldF; rw [cif_f (fun q => q ⟨6, by decide, rfl⟩), nI_clamp (by decide)]; rfl⟩)
    · refine lv_tableIn (off := 96) (tgt := 97) X.1.1 X.1.2.1 dX7_told_1 (by decide) (by decide) (by decide) (by decide) ?_
      refine lv_aload_n X.1.1 X.1.2.1 dX7_told_97 rfl (lv_at hl 0 rfl) ?_
      refine sx_get X hP in_X7_told_X7 h91 (by decide) rfl 2 (by decide) lk_X7_told_fieldLink_RX7_129_RaceWatchModel_entries_I rfl dX7_told_98 ?_
      rw [hQ]
      exact sx_iret X rfl hs rfl hP dX7_told_101 (⟨rfl, by unfold toldF; rw [cif_f (fun q => q ⟨7, by decide, rfl⟩), nI_clamp (by decide)]; rfl⟩)
    · refine lv_tableIn (off := 101) (tgt := 102) X.1.1 X.1.2.1 dX7_told_1 (by decide) (by decide) (by decide) (by decide) ?_
      refine lv_aload_n X.1.1 X.1.2.1 dX7_told_102 rfl (lv_at hl 0 rfl) ?_
      refine lv_iconst (v := nI 0) X.1.1 X.1.2.1 dX7_told_103 (by decide) ?_
      refine sx_cvI (As := [.int (nI 0)]) (rest := []) X (mX7_overCells_0 l h91 h92) gX7_told_X7_overCells rfl yv_X7_overCells ⟨Nat.le_of_ble_eq_true rfl, Nat.le_of_ble_eq_true rfl⟩ h91 (by decide) rfl rfl hl.1 rfl (Nat.le_of_ble_eq_true rfl) dX7_told_104 ⟨Nat.le_of_ble_eq_true rfl, Nat.le_of_ble_eq_true rfl⟩ hs rfl hP (fun r6 F6 H6 l6 hp hP => ?_)
      obtain ⟨rfl, rfl⟩ := hp
      rw [hQ]
      exact sx_iret X rfl hs rfl hP dX7_told_107 (⟨rfl, by unfold toldF; rw [cif_f (fun q => q ⟨8, by decide, rfl⟩), nI_clamp (by decide)]; rfl⟩)
  · refine lv_tableOut (tgt := 108) X.1.1 X.1.2.1 dX7_told_1 (by have := sx_outk (k := 9) (by decide) ho; omega) (by decide) ?_
    refine lv_ldc (v := -1000000002) X.1.1 X.1.2.1 X.1.2.2.2.1 (X.1.2.2.2.2 _ lk_X7_told_constant_RX7_98_1000000002) dX7_told_108 ?_
    rw [hQ]
    exact sx_iret X rfl hs rfl hP dX7_told_110 (⟨rfl, by unfold toldF; rw [cif_t ho]⟩)
theorem ys_X7_feed : yX7_feed.cls ≠ "java/lang/invoke/MethodHandle" ∧ yX7_feed.cls ≠ "java/lang/invoke/VarHandle" ∧ (parseMethodDescriptor yX7_feed.desc).map (fun d => d.parameters.length) = some 1 := by decide +kernel
theorem yv_X7_feed : yX7_feed.cls = RX7 ∧ yX7_feed.cls ≠ "java/lang/invoke/MethodHandle" ∧ yX7_feed.cls ≠ "java/lang/invoke/VarHandle" ∧ (parseMethodDescriptor yX7_feed.desc).map (fun d => d.parameters.length) = some 1 := ⟨rfl, ys_X7_feed⟩
theorem lk_X7_feed_constantLong_RX7_127_255 : (.constantLong RX7 127 (255) : Cond) ∈ wsX7_feed := List.mem_cons_of_mem _ (List.mem_append_left _ (List.mem_of_getElem? (i := 0) rfl))
theorem in_X7_feed_X7 : ∀ w ∈ wsX70, w ∈ wsX7_feed := fun _ h => List.mem_cons_of_mem _ (List.mem_append_right _ (h))
theorem lk_X7_feed_fieldLink_RX7_7_RaceWatchModel_w_I : (.fieldLink RX7 7 "RaceWatchModel" "w" "[I" : Cond) ∈ wsX7_feed := List.mem_cons_of_mem _ (List.mem_append_left _ (List.mem_of_getElem? (i := 2) rfl))
theorem lk_X7_feed_constant_RX7_103_1000000004 : (.constant RX7 103 (-1000000004) : Cond) ∈ wsX7_feed := List.mem_cons_of_mem _ (List.mem_append_left _ (List.mem_of_getElem? (i := 3) rfl))
theorem lk_X7_feed_constant_RX7_98_1000000002 : (.constant RX7 98 (-1000000002) : Cond) ∈ wsX7_feed := List.mem_cons_of_mem _ (List.mem_append_left _ (List.mem_of_getElem? (i := 1) rfl))
abbrev rmX7_feed : Room := { frames := 1, cells := 0, slots := 0, locals := 25 }
set_option maxHeartbeats 4000000 in
set_option maxRecDepth 100000 in
theorem mX7_feed {G : sx_G} (l : Launch) {F : Nat → va_E} {w : Nat → Int32} {of : List Value} {m : Nat} {x : Int32} (hm : m ≤ 240) (h1372 : w 1372 = nI m) (h91 : F (91) = ob 7 (rf G 92 :: of)) (h92 : F (92) = rI G (4358) (w)) : sx_I G l yX7_feed wsX7_feed rmX7_feed [rf G 91, .int (x)] (97) F (97) (fun r F1 => F1 92 = rI G 4358 (feedF w m x).2 ∧ (∀ j, j ≠ 92 → F1 j = F j) ∧ (feedF w m x).1 = r) := by
  refine sx_enter (cc := cX7_feed) (maxL := 2) (ret := some .int) (own := RX7) (nm := "feed") (by decide) rfl rfl rfl (Nat.le_of_ble_eq_true rfl) ?_
  intro pp ee ss mm args below meth kc ls Q hQ X hs hP hl
  have hl : lv_has ls 2 [(0, rf G 91), (1, .int (x))] := hl
  have hO : ∀ j, j ≠ 92 → F j = F j := fun _ _ => rfl
  refine lv_iload_n X.1.1 X.1.2.1 dX7_feed_0 rfl (lv_at hl 1 rfl) ?_
  refine lv_i2l (v := (x).toInt64) X.1.1 X.1.2.1 dX7_feed_1 rfl ?_
  refine lv_lconst (v := 0) X.1.1 X.1.2.1 dX7_feed_2 (by decide) ?_
  refine lv_ldc2 (v := 255) X.1.1 X.1.2.1 X.1.2.2.2.1 (X.1.2.2.2.2 _ lk_X7_feed_constantLong_RX7_127_255) dX7_feed_3 ?_
  refine sx_csI (As := [.long ((x).toInt64), .long (0), .long (255)]) (rest := []) X (mX7_in l) gX7_feed_X7_in rfl ys_X7_in ⟨Nat.le_of_ble_eq_true rfl, Nat.le_of_ble_eq_true rfl⟩ hl.1 rfl (Nat.le_of_ble_eq_true rfl) dX7_feed_6 ⟨Nat.le_of_ble_eq_true rfl, Nat.le_of_ble_eq_true rfl⟩ hs rfl hP (fun r1 F1 H1 l1 hp hP => ?_)
  obtain ⟨rfl, ⟨b2, rfl⟩ | ⟨b2, rfl⟩⟩ := hp
  · obtain ⟨j, hj, rfl⟩ := sx_in64 (k := 256) (by decide) (by decide) b2
    refine sx_if_ne X (by decide) (tgt := 15) dX7_feed_9 (by decide) (fun _ => ?_) (fun h => absurd h (by decide))
    refine lv_aload_n X.1.1 X.1.2.1 dX7_feed_15 rfl (lv_at hl 0 rfl) ?_
    refine sx_get X hP in_X7_feed_X7 h91 (by decide) rfl 0 (by decide) lk_X7_feed_fieldLink_RX7_7_RaceWatchModel_w_I rfl dX7_feed_16 ?_
    refine lv_sipush (v := nI 1372) X.1.1 X.1.2.1 dX7_feed_19 (by decide) ?_
    refine sx_ald X hP h92 (by decide) (1372) (by decide) (by decide) dX7_feed_22 ?_
    rw [h1372]
    refine lv_sipush (v := nI 240) X.1.1 X.1.2.1 dX7_feed_23 (by decide) ?_
    refine sx_icmp_ne X (by omega) (by decide) (tgt := 32) dX7_feed_26 (by decide) (fun c26 => ?_) (fun c26 => ?_)
    · refine lv_aload_n X.1.1 X.1.2.1 dX7_feed_32 rfl (lv_at hl 0 rfl) ?_
      refine sx_get X hP in_X7_feed_X7 h91 (by decide) rfl 0 (by decide) lk_X7_feed_fieldLink_RX7_7_RaceWatchModel_w_I rfl dX7_feed_33 ?_
      refine lv_sipush (v := nI 1373) X.1.1 X.1.2.1 dX7_feed_36 (by decide) ?_
      refine lv_aload_n X.1.1 X.1.2.1 dX7_feed_39 rfl (lv_at hl 0 rfl) ?_
      refine sx_get X hP in_X7_feed_X7 h91 (by decide) rfl 0 (by decide) lk_X7_feed_fieldLink_RX7_7_RaceWatchModel_w_I rfl dX7_feed_40 ?_
      refine lv_sipush (v := nI 1372) X.1.1 X.1.2.1 dX7_feed_43 (by decide) ?_
      refine sx_ald X hP h92 (by decide) (1372) (by decide) (by decide) dX7_feed_46 ?_
      rw [h1372]
      refine sx_addN X (1373 + m) (by omega) dX7_feed_47 ?_
      refine lv_iload_n X.1.1 X.1.2.1 dX7_feed_48 rfl (lv_at hl 1 rfl) ?_
      refine sx_ast X hP h92 (by decide) (1373 + m) (by omega) (by decide) dX7_feed_49 (fun F3 H3 l3 e3 o3 hP => ?_)
      obtain ⟨w3, hw3⟩ : ∃ z, z = upd w (1373 + m) (nI (j)) := ⟨_, rfl⟩
      rw [← hw3] at e3
      have h1372_3 : w3 (1372) = (nI (m)) := by rw [hw3]; exact (pk_un (by omega)).trans h1372
      have h92 : F3 (92) = rI G (4358) (w3) := e3
      have h91 := (o3 (91) (by decide)).trans h91
      have hO : ∀ j, j ≠ 92 → F3 j = F j := fun j hj => (o3 j (by omega)).trans (hO j hj)
      refine lv_aload_n X.1.1 X.1.2.1 dX7_feed_50 rfl (lv_at hl 0 rfl) ?_
      refine sx_get X hP in_X7_feed_X7 h91 (by decide) rfl 0 (by decide) lk_X7_feed_fieldLink_RX7_7_RaceWatchModel_w_I rfl dX7_feed_51 ?_
      refine lv_sipush (v := nI 1372) X.1.1 X.1.2.1 dX7_feed_54 (by decide) ?_
      refine lv_dup2_11 X.1.1 X.1.2.1 dX7_feed_57 rfl rfl ?_
      refine sx_ald X hP h92 (by decide) (1372) (by decide) (by decide) dX7_feed_58 ?_
      rw [h1372_3]
      refine lv_iconst (v := nI 1) X.1.1 X.1.2.1 dX7_feed_59 (by decide) ?_
      refine sx_addN X (1 + m) (by omega) dX7_feed_60 ?_
      refine sx_ast X hP h92 (by decide) (1372) (by decide) (by decide) dX7_feed_61 (fun F4 H4 l4 e4 o4 hP => ?_)
      obtain ⟨w4, hw4⟩ : ∃ z, z = upd w3 (1372) (nI (1 + m)) := ⟨_, rfl⟩
      rw [← hw4] at e4
      have h1372_3_4 : w4 (1372) = (nI (1 + m)) := by rw [hw4]; exact pk_us
      have h92 : F4 (92) = rI G (4358) (w4) := e4
      have h91 := (o4 (91) (by decide)).trans h91
      have hO : ∀ j, j ≠ 92 → F4 j = F j := fun j hj => (o4 j (by omega)).trans (hO j hj)
      refine lv_aload_n X.1.1 X.1.2.1 dX7_feed_62 rfl (lv_at hl 0 rfl) ?_
      refine sx_get X hP in_X7_feed_X7 h91 (by decide) rfl 0 (by decide) lk_X7_feed_fieldLink_RX7_7_RaceWatchModel_w_I rfl dX7_feed_63 ?_
      refine lv_sipush (v := nI 1372) X.1.1 X.1.2.1 dX7_feed_66 (by decide) ?_
      refine sx_ald X hP h92 (by decide) (1372) (by decide) (by decide) dX7_feed_69 ?_
      rw [h1372_3_4]
      have hev : feedF w m (nI j) = (nI (1 + m), upd (upd w (1373 + m) (nI j)) 1372 (nI (1 + m))) := by unfold feedF; rw [cif_f (fun q => q ⟨j, hj, rfl⟩), cif_f c26]
      rw [hQ]
      exact sx_iret X rfl hs rfl hP dX7_feed_70 (⟨h92.trans (by rw [hev, hw4, hw3]), hO, by rw [hev]⟩)
    · refine lv_ldc (v := -1000000004) X.1.1 X.1.2.1 X.1.2.2.2.1 (X.1.2.2.2.2 _ lk_X7_feed_constant_RX7_103_1000000004) dX7_feed_29 ?_
      have hev : feedF w m (nI j) = (-1000000004, w) := by unfold feedF; rw [cif_f (fun q => q ⟨j, hj, rfl⟩), cif_t c26]
      rw [hQ]
      exact sx_iret X rfl hs rfl hP dX7_feed_31 (⟨h92.trans (by rw [hev]), hO, by rw [hev]⟩)
  · refine sx_if_ne X (by decide) (tgt := 15) dX7_feed_9 (by decide) (fun h => absurd h (by decide)) (fun _ => ?_)
    refine lv_ldc (v := -1000000002) X.1.1 X.1.2.1 X.1.2.2.2.1 (X.1.2.2.2.2 _ lk_X7_feed_constant_RX7_98_1000000002) dX7_feed_12 ?_
    have hev : feedF w m x = (-1000000002, w) := by unfold feedF; rw [cif_t (fun q => b2 (sx_64in (by decide) (by decide) q))]
    rw [hQ]
    exact sx_iret X rfl hs rfl hP dX7_feed_14 (⟨h92.trans (by rw [hev]), hO, by rw [hev]⟩)
theorem ys_X7_keep : yX7_keep.cls ≠ "java/lang/invoke/MethodHandle" ∧ yX7_keep.cls ≠ "java/lang/invoke/VarHandle" ∧ (parseMethodDescriptor yX7_keep.desc).map (fun d => d.parameters.length) = some 1 := by decide +kernel
theorem yv_X7_keep : yX7_keep.cls = RX7 ∧ yX7_keep.cls ≠ "java/lang/invoke/MethodHandle" ∧ yX7_keep.cls ≠ "java/lang/invoke/VarHandle" ∧ (parseMethodDescriptor yX7_keep.desc).map (fun d => d.parameters.length) = some 1 := ⟨rfl, ys_X7_keep⟩
theorem in_X7_keep_X7 : ∀ w ∈ wsX70, w ∈ wsX7_keep := fun _ h => List.mem_cons_of_mem _ (List.mem_append_right _ (h))
theorem lk_X7_keep_fieldLink_RX7_13_RaceWatchModel_isKept_Z : (.fieldLink RX7 13 "RaceWatchModel" "isKept" "[Z" : Cond) ∈ wsX7_keep := List.mem_cons_of_mem _ (List.mem_append_left _ (List.mem_of_getElem? (i := 2) rfl))
theorem lk_X7_keep_fieldLink_RX7_7_RaceWatchModel_w_I : (.fieldLink RX7 7 "RaceWatchModel" "w" "[I" : Cond) ∈ wsX7_keep := List.mem_cons_of_mem _ (List.mem_append_left _ (List.mem_of_getElem? (i := 1) rfl))
theorem lk_X7_keep_constant_RX7_97_1000000001 : (.constant RX7 97 (-1000000001) : Cond) ∈ wsX7_keep := List.mem_cons_of_mem _ (List.mem_append_left _ (List.mem_of_getElem? (i := 0) rfl))
abbrev rmX7_keep : Room := { frames := 1, cells := 0, slots := 0, locals := 25 }
set_option maxHeartbeats 4000000 in
set_option maxRecDepth 100000 in
theorem mX7_keep {G : sx_G} (l : Launch) {F : Nat → va_E} {w ik : Nat → Int32} {of : List Value} {x : Int32} (h91 : F (91) = ob 7 (rf G 92 :: rf G 93 :: of)) (h92 : F (92) = rI G (4358) (w)) (h93 : F (93) = rZ G (2) (ik)) : sx_I G l yX7_keep wsX7_keep rmX7_keep [rf G 91, .int (x)] (97) F (97) (fun r F1 => (¬ inR x 2 ∧ F1 = F ∧ -1000000001 = r) ∨ ∃ i, i < 2 ∧ x = nI i ∧ F1 92 = rI G 4358 (keepF w i) ∧ F1 93 = rZ G 2 (upd ik i (nI 1)) ∧ (∀ j, j ≠ 92 ∧ j ≠ 93 → F1 j = F j) ∧ w 91 = r) := by
  refine sx_enter (cc := cX7_keep) (maxL := 3) (ret := some .int) (own := RX7) (nm := "keep") (by decide) rfl rfl rfl (Nat.le_of_ble_eq_true rfl) ?_
  intro pp ee ss mm args below meth kc ls Q hQ X hs hP hl
  have hl : lv_has ls 3 [(0, rf G 91), (1, .int (x))] := hl
  have hO : ∀ j, j ≠ 92 ∧ j ≠ 93 → F j = F j := fun _ _ => rfl
  refine lv_iload_n X.1.1 X.1.2.1 dX7_keep_0 rfl (lv_at hl 1 rfl) ?_
  refine lv_i2l (v := (x).toInt64) X.1.1 X.1.2.1 dX7_keep_1 rfl ?_
  refine lv_lconst (v := 0) X.1.1 X.1.2.1 dX7_keep_2 (by decide) ?_
  refine lv_lconst (v := 1) X.1.1 X.1.2.1 dX7_keep_3 (by decide) ?_
  refine sx_csI (As := [.long ((x).toInt64), .long (0), .long (1)]) (rest := []) X (mX7_in l) gX7_keep_X7_in rfl ys_X7_in ⟨Nat.le_of_ble_eq_true rfl, Nat.le_of_ble_eq_true rfl⟩ hl.1 rfl (Nat.le_of_ble_eq_true rfl) dX7_keep_4 ⟨Nat.le_of_ble_eq_true rfl, Nat.le_of_ble_eq_true rfl⟩ hs rfl hP (fun r1 F1 H1 l1 hp hP => ?_)
  obtain ⟨rfl, ⟨b2, rfl⟩ | ⟨b2, rfl⟩⟩ := hp
  · obtain ⟨i, hi, rfl⟩ := sx_in64 (k := 2) (by decide) (by decide) b2
    refine sx_if_ne X (by decide) (tgt := 13) dX7_keep_7 (by decide) (fun _ => ?_) (fun h => absurd h (by decide))
    refine lv_iconst (v := nI 0) X.1.1 X.1.2.1 dX7_keep_13 (by decide) ?_
    refine lv_istore_n (lv' := [(2, .int (nI 0)), (0, rf G 91), (1, .int (nI (i)))]) X.1.1 X.1.2.1 dX7_keep_14 rfl hl (by decide) rfl (fun ls hl => ?_)
    have lo : ∀ (k_lo : Nat) (r : Nat → Int32) (q : Nat) (Fv : Nat → va_E) (Hv : Heap) (lv : List Loc) (ls : Array Slot), (q + k_lo = 1372) → (∀ j, r j = if 1614 + 1372 * i ≤ j ∧ j < 1614 + 1372 * i + q then w (j - (1614 + 1372 * i)) else w j) → (Fv (91) = ob 7 (rf G 92 :: rf G 93 :: of)) → (Fv (92) = rI G (4358) (r)) → (Fv (93) = rZ G (2) (ik)) → (∀ j, j ≠ 92 ∧ j ≠ 93 → Fv j = F j) → sx_H G (97) Fv ss.heap Hv lv → lv_has ls 3 [(0, rf G 91), (1, .int (nI (i))), (2, .int (nI (q)))] → W pp l ee rmX7_keep ss mm args below meth kc Hv lv 0 0 Q (F0 mm 15 ls []) := by
      intro k_lo
      induction k_lo with
      | zero =>
        intro r q Fv Hv lv ls hk hr h91 h92 h93 hO hP hl
        refine lv_iload_n X.1.1 X.1.2.1 dX7_keep_15 rfl (lv_at hl 2 rfl) ?_
        refine lv_sipush (v := nI 1372) X.1.1 X.1.2.1 dX7_keep_16 (by decide) ?_
        refine sx_icmp_ge X (by omega) (by decide) (tgt := 50) dX7_keep_19 (by decide) (fun c19 => ?_) (fun c19 => absurd c19 (by omega))
        refine lv_aload_n X.1.1 X.1.2.1 dX7_keep_50 rfl (lv_at hl 0 rfl) ?_
        refine sx_get X hP in_X7_keep_X7 h91 (by decide) rfl 1 (by decide) lk_X7_keep_fieldLink_RX7_13_RaceWatchModel_isKept_Z rfl dX7_keep_51 ?_
        refine lv_iload_n X.1.1 X.1.2.1 dX7_keep_54 rfl (lv_at hl 1 rfl) ?_
        refine lv_iconst (v := nI 1) X.1.1 X.1.2.1 dX7_keep_55 (by decide) ?_
        refine sx_zast X hP h93 (by decide) (i) (by omega) (by decide) (by decide) dX7_keep_56 (fun F3 H3 l3 e3 o3 hP => ?_)
        obtain ⟨w3, hw3⟩ : ∃ z, z = upd ik (i) (nI (1)) := ⟨_, rfl⟩
        rw [← hw3] at e3
        have h93 : F3 (93) = rZ G (2) (w3) := e3
        have h91 := (o3 (91) (by decide)).trans h91
        have h92 := (o3 (92) (by decide)).trans h92
        have hO : ∀ j, j ≠ 92 ∧ j ≠ 93 → F3 j = F j := fun j hj => (o3 j (by omega)).trans (hO j hj)
        refine lv_aload_n X.1.1 X.1.2.1 dX7_keep_57 rfl (lv_at hl 0 rfl) ?_
        refine sx_get X hP in_X7_keep_X7 h91 (by decide) rfl 0 (by decide) lk_X7_keep_fieldLink_RX7_7_RaceWatchModel_w_I rfl dX7_keep_58 ?_
        refine lv_bipush (v := nI 91) X.1.1 X.1.2.1 dX7_keep_61 (by decide) ?_
        refine sx_ald X hP h92 (by decide) (91) (by decide) (by decide) dX7_keep_63 ?_
        rw [hQ]
        exact sx_iret X rfl hs rfl hP dX7_keep_64 (Or.inr ⟨i, hi, rfl, h92.trans (congrArg _ (funext fun j => by rw [hr j, show q = 1372 by omega]; rfl)), h93.trans (by rw [hw3]), hO, by rw [hr 91, if_neg (by omega)]⟩)
      | succ k_lo ih_lo =>
        intro r q Fv Hv lv ls hk hr h91 h92 h93 hO hP hl
        refine lv_iload_n X.1.1 X.1.2.1 dX7_keep_15 rfl (lv_at hl 2 rfl) ?_
        refine lv_sipush (v := nI 1372) X.1.1 X.1.2.1 dX7_keep_16 (by decide) ?_
        refine sx_icmp_ge X (by omega) (by decide) (tgt := 50) dX7_keep_19 (by decide) (fun c19 => absurd c19 (by omega)) (fun c19 => ?_)
        refine lv_aload_n X.1.1 X.1.2.1 dX7_keep_22 rfl (lv_at hl 0 rfl) ?_
        refine sx_get X hP in_X7_keep_X7 h91 (by decide) rfl 0 (by decide) lk_X7_keep_fieldLink_RX7_7_RaceWatchModel_w_I rfl dX7_keep_23 ?_
        refine lv_sipush (v := nI 1614) X.1.1 X.1.2.1 dX7_keep_26 (by decide) ?_
        refine lv_sipush (v := nI 1372) X.1.1 X.1.2.1 dX7_keep_29 (by decide) ?_
        refine lv_iload_n X.1.1 X.1.2.1 dX7_keep_32 rfl (lv_at hl 1 rfl) ?_
        refine sx_mulN X (1372 * i) (by omega) dX7_keep_33 ?_
        refine sx_addN X (1614 + 1372 * i) (by omega) dX7_keep_34 ?_
        refine lv_iload_n X.1.1 X.1.2.1 dX7_keep_35 rfl (lv_at hl 2 rfl) ?_
        refine sx_addN X (1614 + 1372 * i + q) (by omega) dX7_keep_36 ?_
        refine lv_aload_n X.1.1 X.1.2.1 dX7_keep_37 rfl (lv_at hl 0 rfl) ?_
        refine sx_get X hP in_X7_keep_X7 h91 (by decide) rfl 0 (by decide) lk_X7_keep_fieldLink_RX7_7_RaceWatchModel_w_I rfl dX7_keep_38 ?_
        refine lv_iload_n X.1.1 X.1.2.1 dX7_keep_41 rfl (lv_at hl 2 rfl) ?_
        refine sx_ald X hP h92 (by decide) (q) (by omega) (by decide) dX7_keep_42 ?_
        refine sx_ast X hP h92 (by decide) (1614 + 1372 * i + q) (by omega) (by decide) dX7_keep_43 (fun F4 H4 l4 e4 o4 hP => ?_)
        obtain ⟨w4, hw4⟩ : ∃ z, z = upd r (1614 + 1372 * i + q) (r (q)) := ⟨_, rfl⟩
        rw [← hw4] at e4
        have h92 : F4 (92) = rI G (4358) (w4) := e4
        have h91 := (o4 (91) (by decide)).trans h91
        have h93 := (o4 (93) (by decide)).trans h93
        have hO : ∀ j, j ≠ 92 ∧ j ≠ 93 → F4 j = F j := fun j hj => (o4 j (by omega)).trans (hO j hj)
        refine lv_iinc (v := (nI (1 + q))) (lv' := [(2, .int (nI (1 + q))), (0, rf G 91), (1, .int (nI (i)))]) X.1.1 X.1.2.1 dX7_keep_44 hl (k := 2) rfl (sx_inc1 (by omega)) (by decide) rfl (fun ls hl => ?_)
        refine lv_goto (tgt := 15) X.1.1 X.1.2.1 dX7_keep_47 (by decide) ?_
        exact ih_lo (w4) (1 + q) _ _ _ _ (by omega) (by rw [hw4]; exact keepF_step hr (by omega)) h91 h92 h93 hO hP (lv_sub hl [1, 2, 0] rfl)
    exact lo (1372) (w) (0) _ _ _ _ (rfl) (fun j => by rw [if_neg (by omega)]) h91 h92 h93 hO hP (lv_sub hl [1, 2, 0] rfl)
  · refine sx_if_ne X (by decide) (tgt := 13) dX7_keep_7 (by decide) (fun h => absurd h (by decide)) (fun _ => ?_)
    refine lv_ldc (v := -1000000001) X.1.1 X.1.2.1 X.1.2.2.2.1 (X.1.2.2.2.2 _ lk_X7_keep_constant_RX7_97_1000000001) dX7_keep_10 ?_
    rw [hQ]
    exact sx_iret X rfl hs rfl hP dX7_keep_12 (Or.inl ⟨fun q => b2 (sx_64in (k := 2) (by decide) (by decide) q), rfl, rfl⟩)
theorem ys_X7_goBack : yX7_goBack.cls ≠ "java/lang/invoke/MethodHandle" ∧ yX7_goBack.cls ≠ "java/lang/invoke/VarHandle" ∧ (parseMethodDescriptor yX7_goBack.desc).map (fun d => d.parameters.length) = some 1 := by decide +kernel
theorem yv_X7_goBack : yX7_goBack.cls = RX7 ∧ yX7_goBack.cls ≠ "java/lang/invoke/MethodHandle" ∧ yX7_goBack.cls ≠ "java/lang/invoke/VarHandle" ∧ (parseMethodDescriptor yX7_goBack.desc).map (fun d => d.parameters.length) = some 1 := ⟨rfl, ys_X7_goBack⟩
theorem in_X7_goBack_X7 : ∀ w ∈ wsX70, w ∈ wsX7_goBack := fun _ h => List.mem_cons_of_mem _ (List.mem_append_right _ (h))
theorem lk_X7_goBack_fieldLink_RX7_13_RaceWatchModel_isKept_Z : (.fieldLink RX7 13 "RaceWatchModel" "isKept" "[Z" : Cond) ∈ wsX7_goBack := List.mem_cons_of_mem _ (List.mem_append_left _ (List.mem_of_getElem? (i := 1) rfl))
theorem lk_X7_goBack_fieldLink_RX7_7_RaceWatchModel_w_I : (.fieldLink RX7 7 "RaceWatchModel" "w" "[I" : Cond) ∈ wsX7_goBack := List.mem_cons_of_mem _ (List.mem_append_left _ (List.mem_of_getElem? (i := 3) rfl))
theorem lk_X7_goBack_constant_RX7_102_1000000003 : (.constant RX7 102 (-1000000003) : Cond) ∈ wsX7_goBack := List.mem_cons_of_mem _ (List.mem_append_left _ (List.mem_of_getElem? (i := 2) rfl))
theorem lk_X7_goBack_constant_RX7_97_1000000001 : (.constant RX7 97 (-1000000001) : Cond) ∈ wsX7_goBack := List.mem_cons_of_mem _ (List.mem_append_left _ (List.mem_of_getElem? (i := 0) rfl))
abbrev rmX7_goBack : Room := { frames := 1, cells := 0, slots := 0, locals := 25 }
set_option maxHeartbeats 4000000 in
set_option maxRecDepth 100000 in
theorem mX7_goBack {G : sx_G} (l : Launch) {F : Nat → va_E} {w ik : Nat → Int32} {of : List Value} {x : Int32} (h91 : F (91) = ob 7 (rf G 92 :: rf G 93 :: of)) (h92 : F (92) = rI G (4358) (w)) (h93 : F (93) = rZ G (2) (ik)) : sx_I G l yX7_goBack wsX7_goBack rmX7_goBack [rf G 91, .int (x)] (97) F (97) (fun r F1 => (¬ inR x 2 ∧ F1 = F ∧ -1000000001 = r) ∨ (∃ i, i < 2 ∧ x = nI i ∧ ik i = 0 ∧ F1 = F ∧ -1000000003 = r) ∨ ∃ i, i < 2 ∧ x = nI i ∧ ¬ ik i = 0 ∧ F1 92 = rI G 4358 (backF w i) ∧ (∀ j, j ≠ 92 → F1 j = F j) ∧ w (1614 + 1372 * i + 91) = r) := by
  refine sx_enter (cc := cX7_goBack) (maxL := 3) (ret := some .int) (own := RX7) (nm := "goBack") (by decide) rfl rfl rfl (Nat.le_of_ble_eq_true rfl) ?_
  intro pp ee ss mm args below meth kc ls Q hQ X hs hP hl
  have hl : lv_has ls 3 [(0, rf G 91), (1, .int (x))] := hl
  have hO : ∀ j, j ≠ 92 → F j = F j := fun _ _ => rfl
  refine lv_iload_n X.1.1 X.1.2.1 dX7_goBack_0 rfl (lv_at hl 1 rfl) ?_
  refine lv_i2l (v := (x).toInt64) X.1.1 X.1.2.1 dX7_goBack_1 rfl ?_
  refine lv_lconst (v := 0) X.1.1 X.1.2.1 dX7_goBack_2 (by decide) ?_
  refine lv_lconst (v := 1) X.1.1 X.1.2.1 dX7_goBack_3 (by decide) ?_
  refine sx_csI (As := [.long ((x).toInt64), .long (0), .long (1)]) (rest := []) X (mX7_in l) gX7_goBack_X7_in rfl ys_X7_in ⟨Nat.le_of_ble_eq_true rfl, Nat.le_of_ble_eq_true rfl⟩ hl.1 rfl (Nat.le_of_ble_eq_true rfl) dX7_goBack_4 ⟨Nat.le_of_ble_eq_true rfl, Nat.le_of_ble_eq_true rfl⟩ hs rfl hP (fun r1 F1 H1 l1 hp hP => ?_)
  obtain ⟨rfl, ⟨b2, rfl⟩ | ⟨b2, rfl⟩⟩ := hp
  · obtain ⟨i, hi, rfl⟩ := sx_in64 (k := 2) (by decide) (by decide) b2
    refine sx_if_ne X (by decide) (tgt := 13) dX7_goBack_7 (by decide) (fun _ => ?_) (fun h => absurd h (by decide))
    refine lv_aload_n X.1.1 X.1.2.1 dX7_goBack_13 rfl (lv_at hl 0 rfl) ?_
    refine sx_get X hP in_X7_goBack_X7 h91 (by decide) rfl 1 (by decide) lk_X7_goBack_fieldLink_RX7_13_RaceWatchModel_isKept_Z rfl dX7_goBack_14 ?_
    refine lv_iload_n X.1.1 X.1.2.1 dX7_goBack_17 rfl (lv_at hl 1 rfl) ?_
    refine sx_zald X hP h93 (by decide) (i) (by omega) (by decide) dX7_goBack_18 ?_
    refine lv_if_ne X.1.1 X.1.2.1 (tgt := 25) dX7_goBack_19 (by decide) (fun c19 => ?_) (fun c19 => ?_)
    · refine lv_iconst (v := nI 0) X.1.1 X.1.2.1 dX7_goBack_25 (by decide) ?_
      refine lv_istore_n (lv' := [(2, .int (nI 0)), (0, rf G 91), (1, .int (nI (i)))]) X.1.1 X.1.2.1 dX7_goBack_26 rfl hl (by decide) rfl (fun ls hl => ?_)
      have lo : ∀ (k_lo : Nat) (r : Nat → Int32) (q : Nat) (Fv : Nat → va_E) (Hv : Heap) (lv : List Loc) (ls : Array Slot), (q + k_lo = 1372) → (∀ j, r j = if j < q then w (1614 + 1372 * i + j) else w j) → (Fv (91) = ob 7 (rf G 92 :: rf G 93 :: of)) → (Fv (92) = rI G (4358) (r)) → (Fv (93) = rZ G (2) (ik)) → (∀ j, j ≠ 92 → Fv j = F j) → sx_H G (97) Fv ss.heap Hv lv → lv_has ls 3 [(0, rf G 91), (1, .int (nI (i))), (2, .int (nI (q)))] → W pp l ee rmX7_goBack ss mm args below meth kc Hv lv 0 0 Q (F0 mm 27 ls []) := by
        intro k_lo
        induction k_lo with
        | zero =>
          intro r q Fv Hv lv ls hk hr h91 h92 h93 hO hP hl
          refine lv_iload_n X.1.1 X.1.2.1 dX7_goBack_27 rfl (lv_at hl 2 rfl) ?_
          refine lv_sipush (v := nI 1372) X.1.1 X.1.2.1 dX7_goBack_28 (by decide) ?_
          refine sx_icmp_ge X (by omega) (by decide) (tgt := 62) dX7_goBack_31 (by decide) (fun c31 => ?_) (fun c31 => absurd c31 (by omega))
          refine lv_aload_n X.1.1 X.1.2.1 dX7_goBack_62 rfl (lv_at hl 0 rfl) ?_
          refine sx_get X hP in_X7_goBack_X7 h91 (by decide) rfl 0 (by decide) lk_X7_goBack_fieldLink_RX7_7_RaceWatchModel_w_I rfl dX7_goBack_63 ?_
          refine lv_bipush (v := nI 91) X.1.1 X.1.2.1 dX7_goBack_66 (by decide) ?_
          refine sx_ald X hP h92 (by decide) (91) (by decide) (by decide) dX7_goBack_68 ?_
          rw [hQ]
          exact sx_iret X rfl hs rfl hP dX7_goBack_69 (Or.inr (Or.inr ⟨i, hi, rfl, c19, h92.trans (congrArg _ (funext fun j => by rw [hr j, show q = 1372 by omega]; rfl)), hO, by rw [hr 91, if_pos (by omega)]⟩))
        | succ k_lo ih_lo =>
          intro r q Fv Hv lv ls hk hr h91 h92 h93 hO hP hl
          refine lv_iload_n X.1.1 X.1.2.1 dX7_goBack_27 rfl (lv_at hl 2 rfl) ?_
          refine lv_sipush (v := nI 1372) X.1.1 X.1.2.1 dX7_goBack_28 (by decide) ?_
          refine sx_icmp_ge X (by omega) (by decide) (tgt := 62) dX7_goBack_31 (by decide) (fun c31 => absurd c31 (by omega)) (fun c31 => ?_)
          refine lv_aload_n X.1.1 X.1.2.1 dX7_goBack_34 rfl (lv_at hl 0 rfl) ?_
          refine sx_get X hP in_X7_goBack_X7 h91 (by decide) rfl 0 (by decide) lk_X7_goBack_fieldLink_RX7_7_RaceWatchModel_w_I rfl dX7_goBack_35 ?_
          refine lv_iload_n X.1.1 X.1.2.1 dX7_goBack_38 rfl (lv_at hl 2 rfl) ?_
          refine lv_aload_n X.1.1 X.1.2.1 dX7_goBack_39 rfl (lv_at hl 0 rfl) ?_
          refine sx_get X hP in_X7_goBack_X7 h91 (by decide) rfl 0 (by decide) lk_X7_goBack_fieldLink_RX7_7_RaceWatchModel_w_I rfl dX7_goBack_40 ?_
          refine lv_sipush (v := nI 1614) X.1.1 X.1.2.1 dX7_goBack_43 (by decide) ?_
          refine lv_sipush (v := nI 1372) X.1.1 X.1.2.1 dX7_goBack_46 (by decide) ?_
          refine lv_iload_n X.1.1 X.1.2.1 dX7_goBack_49 rfl (lv_at hl 1 rfl) ?_
          refine sx_mulN X (1372 * i) (by omega) dX7_goBack_50 ?_
          refine sx_addN X (1614 + 1372 * i) (by omega) dX7_goBack_51 ?_
          refine lv_iload_n X.1.1 X.1.2.1 dX7_goBack_52 rfl (lv_at hl 2 rfl) ?_
          refine sx_addN X (1614 + 1372 * i + q) (by omega) dX7_goBack_53 ?_
          refine sx_ald X hP h92 (by decide) (1614 + 1372 * i + q) (by omega) (by decide) dX7_goBack_54 ?_
          refine sx_ast X hP h92 (by decide) (q) (by omega) (by decide) dX7_goBack_55 (fun F3 H3 l3 e3 o3 hP => ?_)
          obtain ⟨w3, hw3⟩ : ∃ z, z = upd r (q) (r (1614 + 1372 * i + q)) := ⟨_, rfl⟩
          rw [← hw3] at e3
          have h92 : F3 (92) = rI G (4358) (w3) := e3
          have h91 := (o3 (91) (by decide)).trans h91
          have h93 := (o3 (93) (by decide)).trans h93
          have hO : ∀ j, j ≠ 92 → F3 j = F j := fun j hj => (o3 j (by omega)).trans (hO j hj)
          refine lv_iinc (v := (nI (1 + q))) (lv' := [(2, .int (nI (1 + q))), (0, rf G 91), (1, .int (nI (i)))]) X.1.1 X.1.2.1 dX7_goBack_56 hl (k := 2) rfl (sx_inc1 (by omega)) (by decide) rfl (fun ls hl => ?_)
          refine lv_goto (tgt := 27) X.1.1 X.1.2.1 dX7_goBack_59 (by decide) ?_
          exact ih_lo (w3) (1 + q) _ _ _ _ (by omega) (by rw [hw3]; exact backF_step hr (by omega)) h91 h92 h93 hO hP (lv_sub hl [1, 2, 0] rfl)
      exact lo (1372) (w) (0) _ _ _ _ (rfl) (fun j => by rw [if_neg (by omega)]) h91 h92 h93 hO hP (lv_sub hl [1, 2, 0] rfl)
    · refine lv_ldc (v := -1000000003) X.1.1 X.1.2.1 X.1.2.2.2.1 (X.1.2.2.2.2 _ lk_X7_goBack_constant_RX7_102_1000000003) dX7_goBack_22 ?_
      rw [hQ]
      exact sx_iret X rfl hs rfl hP dX7_goBack_24 (Or.inr (Or.inl ⟨i, hi, rfl, c19, rfl, rfl⟩))
  · refine sx_if_ne X (by decide) (tgt := 13) dX7_goBack_7 (by decide) (fun h => absurd h (by decide)) (fun _ => ?_)
    refine lv_ldc (v := -1000000001) X.1.1 X.1.2.1 X.1.2.2.2.1 (X.1.2.2.2.2 _ lk_X7_goBack_constant_RX7_97_1000000001) dX7_goBack_10 ?_
    rw [hQ]
    exact sx_iret X rfl hs rfl hP dX7_goBack_12 (Or.inl ⟨fun q => b2 (sx_64in (k := 2) (by decide) (by decide) q), rfl, rfl⟩)
theorem ys_X7_clear : yX7_clear.cls ≠ "java/lang/invoke/MethodHandle" ∧ yX7_clear.cls ≠ "java/lang/invoke/VarHandle" ∧ (parseMethodDescriptor yX7_clear.desc).map (fun d => d.parameters.length) = some 0 := by decide +kernel
theorem yv_X7_clear : yX7_clear.cls = RX7 ∧ yX7_clear.cls ≠ "java/lang/invoke/MethodHandle" ∧ yX7_clear.cls ≠ "java/lang/invoke/VarHandle" ∧ (parseMethodDescriptor yX7_clear.desc).map (fun d => d.parameters.length) = some 0 := ⟨rfl, ys_X7_clear⟩
theorem in_X7_clear_X7 : ∀ w ∈ wsX70, w ∈ wsX7_clear := fun _ h => List.mem_cons_of_mem _ (List.mem_append_right _ (h))
theorem lk_X7_clear_fieldLink_RX7_7_RaceWatchModel_w_I : (.fieldLink RX7 7 "RaceWatchModel" "w" "[I" : Cond) ∈ wsX7_clear := List.mem_cons_of_mem _ (List.mem_append_left _ (List.mem_of_getElem? (i := 0) rfl))
abbrev rmX7_clear : Room := { frames := 1, cells := 0, slots := 0, locals := 20 }
set_option maxHeartbeats 4000000 in
set_option maxRecDepth 100000 in
theorem mX7_clear {G : sx_G} (l : Launch) {F : Nat → va_E} {w : Nat → Int32} {of : List Value}  (h91 : F (91) = ob 7 (rf G 92 :: of)) (h92 : F (92) = rI G (4358) (w)) : sx_V G l yX7_clear wsX7_clear rmX7_clear [rf G 91] (97) F (97) (fun F1 => F1 92 = rI G 4358 (iniF w) ∧ ∀ j, j ≠ 92 → F1 j = F j) := by
  refine sx_enter (cc := cX7_clear) (maxL := 2) (ret := none) (own := RX7) (nm := "clear") (by decide) rfl rfl rfl (Nat.le_of_ble_eq_true rfl) ?_
  intro pp ee ss mm args below meth kc ls Q hQ X hs hP hl
  have hl : lv_has ls 2 [(0, rf G 91)] := hl
  have hO : ∀ j, j ≠ 92 → F j = F j := fun _ _ => rfl
  refine lv_iconst (v := nI 0) X.1.1 X.1.2.1 dX7_clear_0 (by decide) ?_
  refine lv_istore_n (lv' := [(1, .int (nI 0)), (0, rf G 91)]) X.1.1 X.1.2.1 dX7_clear_1 rfl hl (by decide) rfl (fun ls hl => ?_)
  have lo : ∀ (k_lo : Nat) (r : Nat → Int32) (q : Nat) (Fv : Nat → va_E) (Hv : Heap) (lv : List Loc) (ls : Array Slot), (q + k_lo = 1372) → (∀ j, r j = if j < q then nI 0 else w j) → (Fv (91) = ob 7 (rf G 92 :: of)) → (Fv (92) = rI G (4358) (r)) → (∀ j, j ≠ 92 → Fv j = F j) → sx_H G (97) Fv ss.heap Hv lv → lv_has ls 2 [(0, rf G 91), (1, .int (nI (q)))] → W pp l ee rmX7_clear ss mm args below meth kc Hv lv 0 0 Q (F0 mm 2 ls []) := by
    intro k_lo
    induction k_lo with
    | zero =>
      intro r q Fv Hv lv ls hk hr h91 h92 hO hP hl
      have hz : r = zeroF w := funext fun j => by rw [hr j, show q = 1372 by omega]; rfl
      refine lv_iload_n X.1.1 X.1.2.1 dX7_clear_2 rfl (lv_at hl 1 rfl) ?_
      refine lv_sipush (v := nI 1372) X.1.1 X.1.2.1 dX7_clear_3 (by decide) ?_
      refine sx_icmp_ge X (by omega) (by decide) (tgt := 22) dX7_clear_6 (by decide) (fun c6 => ?_) (fun c6 => absurd c6 (by omega))
      refine lv_aload_n X.1.1 X.1.2.1 dX7_clear_22 rfl (lv_at hl 0 rfl) ?_
      refine sx_get X hP in_X7_clear_X7 h91 (by decide) rfl 0 (by decide) lk_X7_clear_fieldLink_RX7_7_RaceWatchModel_w_I rfl dX7_clear_23 ?_
      refine lv_iconst (v := nI 0) X.1.1 X.1.2.1 dX7_clear_26 (by decide) ?_
      refine lv_iconst (v := nI 1) X.1.1 X.1.2.1 dX7_clear_27 (by decide) ?_
      refine sx_ast X hP h92 (by decide) (0) (by decide) (by decide) dX7_clear_28 (fun F1 H1 l1 e1 o1 hP => ?_)
      obtain ⟨w1, hw1⟩ : ∃ z, z = upd r (0) (nI (1)) := ⟨_, rfl⟩
      rw [← hw1] at e1
      have h92 : F1 (92) = rI G (4358) (w1) := e1
      have h91 := (o1 (91) (by decide)).trans h91
      have hO : ∀ j, j ≠ 92 → F1 j = F j := fun j hj => (o1 j (by omega)).trans (hO j hj)
      refine lv_iconst (v := nI 0) X.1.1 X.1.2.1 dX7_clear_29 (by decide) ?_
      refine lv_istore_n (lv' := [(1, .int (nI 0)), (0, rf G 91)]) X.1.1 X.1.2.1 dX7_clear_30 rfl hl (by decide) rfl (fun ls hl => ?_)
      refine lv_iload_n X.1.1 X.1.2.1 dX7_clear_31 rfl (lv_at hl 0 rfl) ?_
      refine lv_iconst (v := nI 4) X.1.1 X.1.2.1 dX7_clear_32 (by decide) ?_
      refine sx_icmp_ge X (by decide) (by decide) (tgt := 53) dX7_clear_33 (by decide) (fun h => absurd h (by decide)) (fun _ => ?_)
      refine lv_aload_n X.1.1 X.1.2.1 dX7_clear_36 rfl (lv_at hl 1 rfl) ?_
      refine sx_get X hP in_X7_clear_X7 h91 (by decide) rfl 0 (by decide) lk_X7_clear_fieldLink_RX7_7_RaceWatchModel_w_I rfl dX7_clear_37 ?_
      refine lv_iconst (v := nI 4) X.1.1 X.1.2.1 dX7_clear_40 (by decide) ?_
      refine lv_iconst (v := nI 5) X.1.1 X.1.2.1 dX7_clear_41 (by decide) ?_
      refine lv_iload_n X.1.1 X.1.2.1 dX7_clear_42 rfl (lv_at hl 0 rfl) ?_
      refine sx_mulN X (0) rfl dX7_clear_43 ?_
      refine sx_addN X (4) rfl dX7_clear_44 ?_
      refine lv_iconst (v := nI 1) X.1.1 X.1.2.1 dX7_clear_45 (by decide) ?_
      refine sx_ast X hP h92 (by decide) (4) (by decide) (by decide) dX7_clear_46 (fun F2 H2 l2 e2 o2 hP => ?_)
      obtain ⟨w2, hw2⟩ : ∃ z, z = upd w1 (4) (nI (1)) := ⟨_, rfl⟩
      rw [← hw2] at e2
      have h92 : F2 (92) = rI G (4358) (w2) := e2
      have h91 := (o2 (91) (by decide)).trans h91
      have hO : ∀ j, j ≠ 92 → F2 j = F j := fun j hj => (o2 j (by omega)).trans (hO j hj)
      refine lv_iinc (v := (nI (1))) (lv' := [(1, .int (nI 1)), (0, rf G 91)]) X.1.1 X.1.2.1 dX7_clear_47 hl (k := 0) rfl (by decide) (by decide) rfl (fun ls hl => ?_)
      refine lv_goto (tgt := 31) X.1.1 X.1.2.1 dX7_clear_50 (by decide) ?_
      refine lv_iload_n X.1.1 X.1.2.1 dX7_clear_31 rfl (lv_at hl 0 rfl) ?_
      refine lv_iconst (v := nI 4) X.1.1 X.1.2.1 dX7_clear_32 (by decide) ?_
      refine sx_icmp_ge X (by decide) (by decide) (tgt := 53) dX7_clear_33 (by decide) (fun h => absurd h (by decide)) (fun _ => ?_)
      refine lv_aload_n X.1.1 X.1.2.1 dX7_clear_36 rfl (lv_at hl 1 rfl) ?_
      refine sx_get X hP in_X7_clear_X7 h91 (by decide) rfl 0 (by decide) lk_X7_clear_fieldLink_RX7_7_RaceWatchModel_w_I rfl dX7_clear_37 ?_
      refine lv_iconst (v := nI 4) X.1.1 X.1.2.1 dX7_clear_40 (by decide) ?_
      refine lv_iconst (v := nI 5) X.1.1 X.1.2.1 dX7_clear_41 (by decide) ?_
      refine lv_iload_n X.1.1 X.1.2.1 dX7_clear_42 rfl (lv_at hl 0 rfl) ?_
      refine sx_mulN X (5) rfl dX7_clear_43 ?_
      refine sx_addN X (9) rfl dX7_clear_44 ?_
      refine lv_iconst (v := nI 1) X.1.1 X.1.2.1 dX7_clear_45 (by decide) ?_
      refine sx_ast X hP h92 (by decide) (9) (by decide) (by decide) dX7_clear_46 (fun F3 H3 l3 e3 o3 hP => ?_)
      obtain ⟨w3, hw3⟩ : ∃ z, z = upd w2 (9) (nI (1)) := ⟨_, rfl⟩
      rw [← hw3] at e3
      have h92 : F3 (92) = rI G (4358) (w3) := e3
      have h91 := (o3 (91) (by decide)).trans h91
      have hO : ∀ j, j ≠ 92 → F3 j = F j := fun j hj => (o3 j (by omega)).trans (hO j hj)
      refine lv_iinc (v := (nI (2))) (lv' := [(1, .int (nI 2)), (0, rf G 91)]) X.1.1 X.1.2.1 dX7_clear_47 hl (k := 0) rfl (by decide) (by decide) rfl (fun ls hl => ?_)
      refine lv_goto (tgt := 31) X.1.1 X.1.2.1 dX7_clear_50 (by decide) ?_
      refine lv_iload_n X.1.1 X.1.2.1 dX7_clear_31 rfl (lv_at hl 0 rfl) ?_
      refine lv_iconst (v := nI 4) X.1.1 X.1.2.1 dX7_clear_32 (by decide) ?_
      refine sx_icmp_ge X (by decide) (by decide) (tgt := 53) dX7_clear_33 (by decide) (fun h => absurd h (by decide)) (fun _ => ?_)
      refine lv_aload_n X.1.1 X.1.2.1 dX7_clear_36 rfl (lv_at hl 1 rfl) ?_
      refine sx_get X hP in_X7_clear_X7 h91 (by decide) rfl 0 (by decide) lk_X7_clear_fieldLink_RX7_7_RaceWatchModel_w_I rfl dX7_clear_37 ?_
      refine lv_iconst (v := nI 4) X.1.1 X.1.2.1 dX7_clear_40 (by decide) ?_
      refine lv_iconst (v := nI 5) X.1.1 X.1.2.1 dX7_clear_41 (by decide) ?_
      refine lv_iload_n X.1.1 X.1.2.1 dX7_clear_42 rfl (lv_at hl 0 rfl) ?_
      refine sx_mulN X (10) rfl dX7_clear_43 ?_
      refine sx_addN X (14) rfl dX7_clear_44 ?_
      refine lv_iconst (v := nI 1) X.1.1 X.1.2.1 dX7_clear_45 (by decide) ?_
      refine sx_ast X hP h92 (by decide) (14) (by decide) (by decide) dX7_clear_46 (fun F4 H4 l4 e4 o4 hP => ?_)
      obtain ⟨w4, hw4⟩ : ∃ z, z = upd w3 (14) (nI (1)) := ⟨_, rfl⟩
      rw [← hw4] at e4
      have h92 : F4 (92) = rI G (4358) (w4) := e4
      have h91 := (o4 (91) (by decide)).trans h91
      have hO : ∀ j, j ≠ 92 → F4 j = F j := fun j hj => (o4 j (by omega)).trans (hO j hj)
      refine lv_iinc (v := (nI (3))) (lv' := [(1, .int (nI 3)), (0, rf G 91)]) X.1.1 X.1.2.1 dX7_clear_47 hl (k := 0) rfl (by decide) (by decide) rfl (fun ls hl => ?_)
      refine lv_goto (tgt := 31) X.1.1 X.1.2.1 dX7_clear_50 (by decide) ?_
      refine lv_iload_n X.1.1 X.1.2.1 dX7_clear_31 rfl (lv_at hl 0 rfl) ?_
      refine lv_iconst (v := nI 4) X.1.1 X.1.2.1 dX7_clear_32 (by decide) ?_
      refine sx_icmp_ge X (by decide) (by decide) (tgt := 53) dX7_clear_33 (by decide) (fun h => absurd h (by decide)) (fun _ => ?_)
      refine lv_aload_n X.1.1 X.1.2.1 dX7_clear_36 rfl (lv_at hl 1 rfl) ?_
      refine sx_get X hP in_X7_clear_X7 h91 (by decide) rfl 0 (by decide) lk_X7_clear_fieldLink_RX7_7_RaceWatchModel_w_I rfl dX7_clear_37 ?_
      refine lv_iconst (v := nI 4) X.1.1 X.1.2.1 dX7_clear_40 (by decide) ?_
      refine lv_iconst (v := nI 5) X.1.1 X.1.2.1 dX7_clear_41 (by decide) ?_
      refine lv_iload_n X.1.1 X.1.2.1 dX7_clear_42 rfl (lv_at hl 0 rfl) ?_
      refine sx_mulN X (15) rfl dX7_clear_43 ?_
      refine sx_addN X (19) rfl dX7_clear_44 ?_
      refine lv_iconst (v := nI 1) X.1.1 X.1.2.1 dX7_clear_45 (by decide) ?_
      refine sx_ast X hP h92 (by decide) (19) (by decide) (by decide) dX7_clear_46 (fun F5 H5 l5 e5 o5 hP => ?_)
      obtain ⟨w5, hw5⟩ : ∃ z, z = upd w4 (19) (nI (1)) := ⟨_, rfl⟩
      rw [← hw5] at e5
      have h92 : F5 (92) = rI G (4358) (w5) := e5
      have h91 := (o5 (91) (by decide)).trans h91
      have hO : ∀ j, j ≠ 92 → F5 j = F j := fun j hj => (o5 j (by omega)).trans (hO j hj)
      refine lv_iinc (v := (nI (4))) (lv' := [(1, .int (nI 4)), (0, rf G 91)]) X.1.1 X.1.2.1 dX7_clear_47 hl (k := 0) rfl (by decide) (by decide) rfl (fun ls hl => ?_)
      refine lv_goto (tgt := 31) X.1.1 X.1.2.1 dX7_clear_50 (by decide) ?_
      refine lv_iload_n X.1.1 X.1.2.1 dX7_clear_31 rfl (lv_at hl 0 rfl) ?_
      refine lv_iconst (v := nI 4) X.1.1 X.1.2.1 dX7_clear_32 (by decide) ?_
      refine sx_icmp_ge X (by decide) (by decide) (tgt := 53) dX7_clear_33 (by decide) (fun _ => ?_) (fun h => absurd h (by decide))
      refine lv_iconst (v := nI 0) X.1.1 X.1.2.1 dX7_clear_53 (by decide) ?_
      refine lv_istore_n (lv' := [(1, .int (nI 0)), (0, rf G 91)]) X.1.1 X.1.2.1 dX7_clear_54 rfl hl (by decide) rfl (fun ls hl => ?_)
      refine lv_iload_n X.1.1 X.1.2.1 dX7_clear_55 rfl (lv_at hl 0 rfl) ?_
      refine lv_iconst (v := nI 3) X.1.1 X.1.2.1 dX7_clear_56 (by decide) ?_
      refine sx_icmp_ge X (by decide) (by decide) (tgt := 76) dX7_clear_57 (by decide) (fun h => absurd h (by decide)) (fun _ => ?_)
      refine lv_aload_n X.1.1 X.1.2.1 dX7_clear_60 rfl (lv_at hl 1 rfl) ?_
      refine sx_get X hP in_X7_clear_X7 h91 (by decide) rfl 0 (by decide) lk_X7_clear_fieldLink_RX7_7_RaceWatchModel_w_I rfl dX7_clear_61 ?_
      refine lv_bipush (v := nI 40) X.1.1 X.1.2.1 dX7_clear_64 (by decide) ?_
      refine lv_iload_n X.1.1 X.1.2.1 dX7_clear_66 rfl (lv_at hl 0 rfl) ?_
      refine sx_addN X (40) rfl dX7_clear_67 ?_
      refine lv_iconst (v := (-1)) X.1.1 X.1.2.1 dX7_clear_68 (by decide) ?_
      refine sx_ast X hP h92 (by decide) (40) (by decide) (by decide) dX7_clear_69 (fun F6 H6 l6 e6 o6 hP => ?_)
      obtain ⟨w6, hw6⟩ : ∃ z, z = upd w5 (40) (-1) := ⟨_, rfl⟩
      rw [← hw6] at e6
      have h92 : F6 (92) = rI G (4358) (w6) := e6
      have h91 := (o6 (91) (by decide)).trans h91
      have hO : ∀ j, j ≠ 92 → F6 j = F j := fun j hj => (o6 j (by omega)).trans (hO j hj)
      refine lv_iinc (v := (nI (1))) (lv' := [(1, .int (nI 1)), (0, rf G 91)]) X.1.1 X.1.2.1 dX7_clear_70 hl (k := 0) rfl (by decide) (by decide) rfl (fun ls hl => ?_)
      refine lv_goto (tgt := 55) X.1.1 X.1.2.1 dX7_clear_73 (by decide) ?_
      refine lv_iload_n X.1.1 X.1.2.1 dX7_clear_55 rfl (lv_at hl 0 rfl) ?_
      refine lv_iconst (v := nI 3) X.1.1 X.1.2.1 dX7_clear_56 (by decide) ?_
      refine sx_icmp_ge X (by decide) (by decide) (tgt := 76) dX7_clear_57 (by decide) (fun h => absurd h (by decide)) (fun _ => ?_)
      refine lv_aload_n X.1.1 X.1.2.1 dX7_clear_60 rfl (lv_at hl 1 rfl) ?_
      refine sx_get X hP in_X7_clear_X7 h91 (by decide) rfl 0 (by decide) lk_X7_clear_fieldLink_RX7_7_RaceWatchModel_w_I rfl dX7_clear_61 ?_
      refine lv_bipush (v := nI 40) X.1.1 X.1.2.1 dX7_clear_64 (by decide) ?_
      refine lv_iload_n X.1.1 X.1.2.1 dX7_clear_66 rfl (lv_at hl 0 rfl) ?_
      refine sx_addN X (41) rfl dX7_clear_67 ?_
      refine lv_iconst (v := (-1)) X.1.1 X.1.2.1 dX7_clear_68 (by decide) ?_
      refine sx_ast X hP h92 (by decide) (41) (by decide) (by decide) dX7_clear_69 (fun F7 H7 l7 e7 o7 hP => ?_)
      obtain ⟨w7, hw7⟩ : ∃ z, z = upd w6 (41) (-1) := ⟨_, rfl⟩
      rw [← hw7] at e7
      have h92 : F7 (92) = rI G (4358) (w7) := e7
      have h91 := (o7 (91) (by decide)).trans h91
      have hO : ∀ j, j ≠ 92 → F7 j = F j := fun j hj => (o7 j (by omega)).trans (hO j hj)
      refine lv_iinc (v := (nI (2))) (lv' := [(1, .int (nI 2)), (0, rf G 91)]) X.1.1 X.1.2.1 dX7_clear_70 hl (k := 0) rfl (by decide) (by decide) rfl (fun ls hl => ?_)
      refine lv_goto (tgt := 55) X.1.1 X.1.2.1 dX7_clear_73 (by decide) ?_
      refine lv_iload_n X.1.1 X.1.2.1 dX7_clear_55 rfl (lv_at hl 0 rfl) ?_
      refine lv_iconst (v := nI 3) X.1.1 X.1.2.1 dX7_clear_56 (by decide) ?_
      refine sx_icmp_ge X (by decide) (by decide) (tgt := 76) dX7_clear_57 (by decide) (fun h => absurd h (by decide)) (fun _ => ?_)
      refine lv_aload_n X.1.1 X.1.2.1 dX7_clear_60 rfl (lv_at hl 1 rfl) ?_
      refine sx_get X hP in_X7_clear_X7 h91 (by decide) rfl 0 (by decide) lk_X7_clear_fieldLink_RX7_7_RaceWatchModel_w_I rfl dX7_clear_61 ?_
      refine lv_bipush (v := nI 40) X.1.1 X.1.2.1 dX7_clear_64 (by decide) ?_
      refine lv_iload_n X.1.1 X.1.2.1 dX7_clear_66 rfl (lv_at hl 0 rfl) ?_
      refine sx_addN X (42) rfl dX7_clear_67 ?_
      refine lv_iconst (v := (-1)) X.1.1 X.1.2.1 dX7_clear_68 (by decide) ?_
      refine sx_ast X hP h92 (by decide) (42) (by decide) (by decide) dX7_clear_69 (fun F8 H8 l8 e8 o8 hP => ?_)
      obtain ⟨w8, hw8⟩ : ∃ z, z = upd w7 (42) (-1) := ⟨_, rfl⟩
      rw [← hw8] at e8
      have h92 : F8 (92) = rI G (4358) (w8) := e8
      have h91 := (o8 (91) (by decide)).trans h91
      have hO : ∀ j, j ≠ 92 → F8 j = F j := fun j hj => (o8 j (by omega)).trans (hO j hj)
      refine lv_iinc (v := (nI (3))) (lv' := [(1, .int (nI 3)), (0, rf G 91)]) X.1.1 X.1.2.1 dX7_clear_70 hl (k := 0) rfl (by decide) (by decide) rfl (fun ls hl => ?_)
      refine lv_goto (tgt := 55) X.1.1 X.1.2.1 dX7_clear_73 (by decide) ?_
      refine lv_iload_n X.1.1 X.1.2.1 dX7_clear_55 rfl (lv_at hl 0 rfl) ?_
      refine lv_iconst (v := nI 3) X.1.1 X.1.2.1 dX7_clear_56 (by decide) ?_
      refine sx_icmp_ge X (by decide) (by decide) (tgt := 76) dX7_clear_57 (by decide) (fun _ => ?_) (fun h => absurd h (by decide))
      refine lv_iconst (v := nI 0) X.1.1 X.1.2.1 dX7_clear_76 (by decide) ?_
      refine lv_istore_n (lv' := [(1, .int (nI 0)), (0, rf G 91)]) X.1.1 X.1.2.1 dX7_clear_77 rfl hl (by decide) rfl (fun ls hl => ?_)
      refine lv_iload_n X.1.1 X.1.2.1 dX7_clear_78 rfl (lv_at hl 0 rfl) ?_
      refine lv_iconst (v := nI 4) X.1.1 X.1.2.1 dX7_clear_79 (by decide) ?_
      refine sx_icmp_ge X (by decide) (by decide) (tgt := 139) dX7_clear_80 (by decide) (fun h => absurd h (by decide)) (fun _ => ?_)
      refine lv_aload_n X.1.1 X.1.2.1 dX7_clear_83 rfl (lv_at hl 1 rfl) ?_
      refine sx_get X hP in_X7_clear_X7 h91 (by decide) rfl 0 (by decide) lk_X7_clear_fieldLink_RX7_7_RaceWatchModel_w_I rfl dX7_clear_84 ?_
      refine lv_iload_n X.1.1 X.1.2.1 dX7_clear_87 rfl (lv_at hl 0 rfl) ?_
      refine sx_csI (As := [.int (nI 0)]) (rest := rf G 92 :: []) X (mX7_of l (c := 0)) gX7_clear_X7_of rfl ys_X7_of ⟨Nat.le_of_ble_eq_true rfl, Nat.le_of_ble_eq_true rfl⟩ hl.1 rfl (Nat.le_of_ble_eq_true rfl) dX7_clear_88 ⟨Nat.le_of_ble_eq_true rfl, Nat.le_of_ble_eq_true rfl⟩ hs rfl hP (fun r9 F9 H9 l9 hp hP => ?_)
      obtain ⟨rfl, rfl⟩ := hp
      refine lv_iconst (v := nI 0) X.1.1 X.1.2.1 dX7_clear_91 (by decide) ?_
      refine sx_addN X (43) rfl dX7_clear_92 ?_
      refine lv_iconst (v := (-1)) X.1.1 X.1.2.1 dX7_clear_93 (by decide) ?_
      refine sx_ast X hP h92 (by decide) (43) (by decide) (by decide) dX7_clear_94 (fun F10 H10 l10 e10 o10 hP => ?_)
      obtain ⟨w10, hw10⟩ : ∃ z, z = upd w8 (43) (-1) := ⟨_, rfl⟩
      rw [← hw10] at e10
      have h92 : F10 (92) = rI G (4358) (w10) := e10
      have h91 := (o10 (91) (by decide)).trans h91
      have hO : ∀ j, j ≠ 92 → F10 j = F j := fun j hj => (o10 j (by omega)).trans (hO j hj)
      refine lv_aload_n X.1.1 X.1.2.1 dX7_clear_95 rfl (lv_at hl 1 rfl) ?_
      refine sx_get X hP in_X7_clear_X7 h91 (by decide) rfl 0 (by decide) lk_X7_clear_fieldLink_RX7_7_RaceWatchModel_w_I rfl dX7_clear_96 ?_
      refine lv_iload_n X.1.1 X.1.2.1 dX7_clear_99 rfl (lv_at hl 0 rfl) ?_
      refine sx_csI (As := [.int (nI 0)]) (rest := rf G 92 :: []) X (mX7_of l (c := 0)) gX7_clear_X7_of rfl ys_X7_of ⟨Nat.le_of_ble_eq_true rfl, Nat.le_of_ble_eq_true rfl⟩ hl.1 rfl (Nat.le_of_ble_eq_true rfl) dX7_clear_100 ⟨Nat.le_of_ble_eq_true rfl, Nat.le_of_ble_eq_true rfl⟩ hs rfl hP (fun r11 F11 H11 l11 hp hP => ?_)
      obtain ⟨rfl, rfl⟩ := hp
      refine lv_iconst (v := nI 2) X.1.1 X.1.2.1 dX7_clear_103 (by decide) ?_
      refine sx_addN X (45) rfl dX7_clear_104 ?_
      refine lv_iconst (v := (-1)) X.1.1 X.1.2.1 dX7_clear_105 (by decide) ?_
      refine sx_ast X hP h92 (by decide) (45) (by decide) (by decide) dX7_clear_106 (fun F12 H12 l12 e12 o12 hP => ?_)
      obtain ⟨w12, hw12⟩ : ∃ z, z = upd w10 (45) (-1) := ⟨_, rfl⟩
      rw [← hw12] at e12
      have h92 : F12 (92) = rI G (4358) (w12) := e12
      have h91 := (o12 (91) (by decide)).trans h91
      have hO : ∀ j, j ≠ 92 → F12 j = F j := fun j hj => (o12 j (by omega)).trans (hO j hj)
      refine lv_aload_n X.1.1 X.1.2.1 dX7_clear_107 rfl (lv_at hl 1 rfl) ?_
      refine sx_get X hP in_X7_clear_X7 h91 (by decide) rfl 0 (by decide) lk_X7_clear_fieldLink_RX7_7_RaceWatchModel_w_I rfl dX7_clear_108 ?_
      refine lv_iload_n X.1.1 X.1.2.1 dX7_clear_111 rfl (lv_at hl 0 rfl) ?_
      refine sx_csI (As := [.int (nI 0)]) (rest := rf G 92 :: []) X (mX7_of l (c := 0)) gX7_clear_X7_of rfl ys_X7_of ⟨Nat.le_of_ble_eq_true rfl, Nat.le_of_ble_eq_true rfl⟩ hl.1 rfl (Nat.le_of_ble_eq_true rfl) dX7_clear_112 ⟨Nat.le_of_ble_eq_true rfl, Nat.le_of_ble_eq_true rfl⟩ hs rfl hP (fun r13 F13 H13 l13 hp hP => ?_)
      obtain ⟨rfl, rfl⟩ := hp
      refine lv_bipush (v := nI 10) X.1.1 X.1.2.1 dX7_clear_115 (by decide) ?_
      refine sx_addN X (53) rfl dX7_clear_117 ?_
      refine lv_iconst (v := (-1)) X.1.1 X.1.2.1 dX7_clear_118 (by decide) ?_
      refine sx_ast X hP h92 (by decide) (53) (by decide) (by decide) dX7_clear_119 (fun F14 H14 l14 e14 o14 hP => ?_)
      obtain ⟨w14, hw14⟩ : ∃ z, z = upd w12 (53) (-1) := ⟨_, rfl⟩
      rw [← hw14] at e14
      have h92 : F14 (92) = rI G (4358) (w14) := e14
      have h91 := (o14 (91) (by decide)).trans h91
      have hO : ∀ j, j ≠ 92 → F14 j = F j := fun j hj => (o14 j (by omega)).trans (hO j hj)
      refine lv_aload_n X.1.1 X.1.2.1 dX7_clear_120 rfl (lv_at hl 1 rfl) ?_
      refine sx_get X hP in_X7_clear_X7 h91 (by decide) rfl 0 (by decide) lk_X7_clear_fieldLink_RX7_7_RaceWatchModel_w_I rfl dX7_clear_121 ?_
      refine lv_iload_n X.1.1 X.1.2.1 dX7_clear_124 rfl (lv_at hl 0 rfl) ?_
      refine sx_csI (As := [.int (nI 0)]) (rest := rf G 92 :: []) X (mX7_of l (c := 0)) gX7_clear_X7_of rfl ys_X7_of ⟨Nat.le_of_ble_eq_true rfl, Nat.le_of_ble_eq_true rfl⟩ hl.1 rfl (Nat.le_of_ble_eq_true rfl) dX7_clear_125 ⟨Nat.le_of_ble_eq_true rfl, Nat.le_of_ble_eq_true rfl⟩ hs rfl hP (fun r15 F15 H15 l15 hp hP => ?_)
      obtain ⟨rfl, rfl⟩ := hp
      refine lv_bipush (v := nI 11) X.1.1 X.1.2.1 dX7_clear_128 (by decide) ?_
      refine sx_addN X (54) rfl dX7_clear_130 ?_
      refine lv_iconst (v := (-1)) X.1.1 X.1.2.1 dX7_clear_131 (by decide) ?_
      refine sx_ast X hP h92 (by decide) (54) (by decide) (by decide) dX7_clear_132 (fun F16 H16 l16 e16 o16 hP => ?_)
      obtain ⟨w16, hw16⟩ : ∃ z, z = upd w14 (54) (-1) := ⟨_, rfl⟩
      rw [← hw16] at e16
      have h92 : F16 (92) = rI G (4358) (w16) := e16
      have h91 := (o16 (91) (by decide)).trans h91
      have hO : ∀ j, j ≠ 92 → F16 j = F j := fun j hj => (o16 j (by omega)).trans (hO j hj)
      refine lv_iinc (v := (nI (1))) (lv' := [(1, .int (nI 1)), (0, rf G 91)]) X.1.1 X.1.2.1 dX7_clear_133 hl (k := 0) rfl (by decide) (by decide) rfl (fun ls hl => ?_)
      refine lv_goto (tgt := 78) X.1.1 X.1.2.1 dX7_clear_136 (by decide) ?_
      refine lv_iload_n X.1.1 X.1.2.1 dX7_clear_78 rfl (lv_at hl 0 rfl) ?_
      refine lv_iconst (v := nI 4) X.1.1 X.1.2.1 dX7_clear_79 (by decide) ?_
      refine sx_icmp_ge X (by decide) (by decide) (tgt := 139) dX7_clear_80 (by decide) (fun h => absurd h (by decide)) (fun _ => ?_)
      refine lv_aload_n X.1.1 X.1.2.1 dX7_clear_83 rfl (lv_at hl 1 rfl) ?_
      refine sx_get X hP in_X7_clear_X7 h91 (by decide) rfl 0 (by decide) lk_X7_clear_fieldLink_RX7_7_RaceWatchModel_w_I rfl dX7_clear_84 ?_
      refine lv_iload_n X.1.1 X.1.2.1 dX7_clear_87 rfl (lv_at hl 0 rfl) ?_
      refine sx_csI (As := [.int (nI 1)]) (rest := rf G 92 :: []) X (mX7_of l (c := 1)) gX7_clear_X7_of rfl ys_X7_of ⟨Nat.le_of_ble_eq_true rfl, Nat.le_of_ble_eq_true rfl⟩ hl.1 rfl (Nat.le_of_ble_eq_true rfl) dX7_clear_88 ⟨Nat.le_of_ble_eq_true rfl, Nat.le_of_ble_eq_true rfl⟩ hs rfl hP (fun r17 F17 H17 l17 hp hP => ?_)
      obtain ⟨rfl, rfl⟩ := hp
      refine lv_iconst (v := nI 0) X.1.1 X.1.2.1 dX7_clear_91 (by decide) ?_
      refine sx_addN X (55) rfl dX7_clear_92 ?_
      refine lv_iconst (v := (-1)) X.1.1 X.1.2.1 dX7_clear_93 (by decide) ?_
      refine sx_ast X hP h92 (by decide) (55) (by decide) (by decide) dX7_clear_94 (fun F18 H18 l18 e18 o18 hP => ?_)
      obtain ⟨w18, hw18⟩ : ∃ z, z = upd w16 (55) (-1) := ⟨_, rfl⟩
      rw [← hw18] at e18
      have h92 : F18 (92) = rI G (4358) (w18) := e18
      have h91 := (o18 (91) (by decide)).trans h91
      have hO : ∀ j, j ≠ 92 → F18 j = F j := fun j hj => (o18 j (by omega)).trans (hO j hj)
      refine lv_aload_n X.1.1 X.1.2.1 dX7_clear_95 rfl (lv_at hl 1 rfl) ?_
      refine sx_get X hP in_X7_clear_X7 h91 (by decide) rfl 0 (by decide) lk_X7_clear_fieldLink_RX7_7_RaceWatchModel_w_I rfl dX7_clear_96 ?_
      refine lv_iload_n X.1.1 X.1.2.1 dX7_clear_99 rfl (lv_at hl 0 rfl) ?_
      refine sx_csI (As := [.int (nI 1)]) (rest := rf G 92 :: []) X (mX7_of l (c := 1)) gX7_clear_X7_of rfl ys_X7_of ⟨Nat.le_of_ble_eq_true rfl, Nat.le_of_ble_eq_true rfl⟩ hl.1 rfl (Nat.le_of_ble_eq_true rfl) dX7_clear_100 ⟨Nat.le_of_ble_eq_true rfl, Nat.le_of_ble_eq_true rfl⟩ hs rfl hP (fun r19 F19 H19 l19 hp hP => ?_)
      obtain ⟨rfl, rfl⟩ := hp
      refine lv_iconst (v := nI 2) X.1.1 X.1.2.1 dX7_clear_103 (by decide) ?_
      refine sx_addN X (57) rfl dX7_clear_104 ?_
      refine lv_iconst (v := (-1)) X.1.1 X.1.2.1 dX7_clear_105 (by decide) ?_
      refine sx_ast X hP h92 (by decide) (57) (by decide) (by decide) dX7_clear_106 (fun F20 H20 l20 e20 o20 hP => ?_)
      obtain ⟨w20, hw20⟩ : ∃ z, z = upd w18 (57) (-1) := ⟨_, rfl⟩
      rw [← hw20] at e20
      have h92 : F20 (92) = rI G (4358) (w20) := e20
      have h91 := (o20 (91) (by decide)).trans h91
      have hO : ∀ j, j ≠ 92 → F20 j = F j := fun j hj => (o20 j (by omega)).trans (hO j hj)
      refine lv_aload_n X.1.1 X.1.2.1 dX7_clear_107 rfl (lv_at hl 1 rfl) ?_
      refine sx_get X hP in_X7_clear_X7 h91 (by decide) rfl 0 (by decide) lk_X7_clear_fieldLink_RX7_7_RaceWatchModel_w_I rfl dX7_clear_108 ?_
      refine lv_iload_n X.1.1 X.1.2.1 dX7_clear_111 rfl (lv_at hl 0 rfl) ?_
      refine sx_csI (As := [.int (nI 1)]) (rest := rf G 92 :: []) X (mX7_of l (c := 1)) gX7_clear_X7_of rfl ys_X7_of ⟨Nat.le_of_ble_eq_true rfl, Nat.le_of_ble_eq_true rfl⟩ hl.1 rfl (Nat.le_of_ble_eq_true rfl) dX7_clear_112 ⟨Nat.le_of_ble_eq_true rfl, Nat.le_of_ble_eq_true rfl⟩ hs rfl hP (fun r21 F21 H21 l21 hp hP => ?_)
      obtain ⟨rfl, rfl⟩ := hp
      refine lv_bipush (v := nI 10) X.1.1 X.1.2.1 dX7_clear_115 (by decide) ?_
      refine sx_addN X (65) rfl dX7_clear_117 ?_
      refine lv_iconst (v := (-1)) X.1.1 X.1.2.1 dX7_clear_118 (by decide) ?_
      refine sx_ast X hP h92 (by decide) (65) (by decide) (by decide) dX7_clear_119 (fun F22 H22 l22 e22 o22 hP => ?_)
      obtain ⟨w22, hw22⟩ : ∃ z, z = upd w20 (65) (-1) := ⟨_, rfl⟩
      rw [← hw22] at e22
      have h92 : F22 (92) = rI G (4358) (w22) := e22
      have h91 := (o22 (91) (by decide)).trans h91
      have hO : ∀ j, j ≠ 92 → F22 j = F j := fun j hj => (o22 j (by omega)).trans (hO j hj)
      refine lv_aload_n X.1.1 X.1.2.1 dX7_clear_120 rfl (lv_at hl 1 rfl) ?_
      refine sx_get X hP in_X7_clear_X7 h91 (by decide) rfl 0 (by decide) lk_X7_clear_fieldLink_RX7_7_RaceWatchModel_w_I rfl dX7_clear_121 ?_
      refine lv_iload_n X.1.1 X.1.2.1 dX7_clear_124 rfl (lv_at hl 0 rfl) ?_
      refine sx_csI (As := [.int (nI 1)]) (rest := rf G 92 :: []) X (mX7_of l (c := 1)) gX7_clear_X7_of rfl ys_X7_of ⟨Nat.le_of_ble_eq_true rfl, Nat.le_of_ble_eq_true rfl⟩ hl.1 rfl (Nat.le_of_ble_eq_true rfl) dX7_clear_125 ⟨Nat.le_of_ble_eq_true rfl, Nat.le_of_ble_eq_true rfl⟩ hs rfl hP (fun r23 F23 H23 l23 hp hP => ?_)
      obtain ⟨rfl, rfl⟩ := hp
      refine lv_bipush (v := nI 11) X.1.1 X.1.2.1 dX7_clear_128 (by decide) ?_
      refine sx_addN X (66) rfl dX7_clear_130 ?_
      refine lv_iconst (v := (-1)) X.1.1 X.1.2.1 dX7_clear_131 (by decide) ?_
      refine sx_ast X hP h92 (by decide) (66) (by decide) (by decide) dX7_clear_132 (fun F24 H24 l24 e24 o24 hP => ?_)
      obtain ⟨w24, hw24⟩ : ∃ z, z = upd w22 (66) (-1) := ⟨_, rfl⟩
      rw [← hw24] at e24
      have h92 : F24 (92) = rI G (4358) (w24) := e24
      have h91 := (o24 (91) (by decide)).trans h91
      have hO : ∀ j, j ≠ 92 → F24 j = F j := fun j hj => (o24 j (by omega)).trans (hO j hj)
      refine lv_iinc (v := (nI (2))) (lv' := [(1, .int (nI 2)), (0, rf G 91)]) X.1.1 X.1.2.1 dX7_clear_133 hl (k := 0) rfl (by decide) (by decide) rfl (fun ls hl => ?_)
      refine lv_goto (tgt := 78) X.1.1 X.1.2.1 dX7_clear_136 (by decide) ?_
      refine lv_iload_n X.1.1 X.1.2.1 dX7_clear_78 rfl (lv_at hl 0 rfl) ?_
      refine lv_iconst (v := nI 4) X.1.1 X.1.2.1 dX7_clear_79 (by decide) ?_
      refine sx_icmp_ge X (by decide) (by decide) (tgt := 139) dX7_clear_80 (by decide) (fun h => absurd h (by decide)) (fun _ => ?_)
      refine lv_aload_n X.1.1 X.1.2.1 dX7_clear_83 rfl (lv_at hl 1 rfl) ?_
      refine sx_get X hP in_X7_clear_X7 h91 (by decide) rfl 0 (by decide) lk_X7_clear_fieldLink_RX7_7_RaceWatchModel_w_I rfl dX7_clear_84 ?_
      refine lv_iload_n X.1.1 X.1.2.1 dX7_clear_87 rfl (lv_at hl 0 rfl) ?_
      refine sx_csI (As := [.int (nI 2)]) (rest := rf G 92 :: []) X (mX7_of l (c := 2)) gX7_clear_X7_of rfl ys_X7_of ⟨Nat.le_of_ble_eq_true rfl, Nat.le_of_ble_eq_true rfl⟩ hl.1 rfl (Nat.le_of_ble_eq_true rfl) dX7_clear_88 ⟨Nat.le_of_ble_eq_true rfl, Nat.le_of_ble_eq_true rfl⟩ hs rfl hP (fun r25 F25 H25 l25 hp hP => ?_)
      obtain ⟨rfl, rfl⟩ := hp
      refine lv_iconst (v := nI 0) X.1.1 X.1.2.1 dX7_clear_91 (by decide) ?_
      refine sx_addN X (67) rfl dX7_clear_92 ?_
      refine lv_iconst (v := (-1)) X.1.1 X.1.2.1 dX7_clear_93 (by decide) ?_
      refine sx_ast X hP h92 (by decide) (67) (by decide) (by decide) dX7_clear_94 (fun F26 H26 l26 e26 o26 hP => ?_)
      obtain ⟨w26, hw26⟩ : ∃ z, z = upd w24 (67) (-1) := ⟨_, rfl⟩
      rw [← hw26] at e26
      have h92 : F26 (92) = rI G (4358) (w26) := e26
      have h91 := (o26 (91) (by decide)).trans h91
      have hO : ∀ j, j ≠ 92 → F26 j = F j := fun j hj => (o26 j (by omega)).trans (hO j hj)
      refine lv_aload_n X.1.1 X.1.2.1 dX7_clear_95 rfl (lv_at hl 1 rfl) ?_
      refine sx_get X hP in_X7_clear_X7 h91 (by decide) rfl 0 (by decide) lk_X7_clear_fieldLink_RX7_7_RaceWatchModel_w_I rfl dX7_clear_96 ?_
      refine lv_iload_n X.1.1 X.1.2.1 dX7_clear_99 rfl (lv_at hl 0 rfl) ?_
      refine sx_csI (As := [.int (nI 2)]) (rest := rf G 92 :: []) X (mX7_of l (c := 2)) gX7_clear_X7_of rfl ys_X7_of ⟨Nat.le_of_ble_eq_true rfl, Nat.le_of_ble_eq_true rfl⟩ hl.1 rfl (Nat.le_of_ble_eq_true rfl) dX7_clear_100 ⟨Nat.le_of_ble_eq_true rfl, Nat.le_of_ble_eq_true rfl⟩ hs rfl hP (fun r27 F27 H27 l27 hp hP => ?_)
      obtain ⟨rfl, rfl⟩ := hp
      refine lv_iconst (v := nI 2) X.1.1 X.1.2.1 dX7_clear_103 (by decide) ?_
      refine sx_addN X (69) rfl dX7_clear_104 ?_
      refine lv_iconst (v := (-1)) X.1.1 X.1.2.1 dX7_clear_105 (by decide) ?_
      refine sx_ast X hP h92 (by decide) (69) (by decide) (by decide) dX7_clear_106 (fun F28 H28 l28 e28 o28 hP => ?_)
      obtain ⟨w28, hw28⟩ : ∃ z, z = upd w26 (69) (-1) := ⟨_, rfl⟩
      rw [← hw28] at e28
      have h92 : F28 (92) = rI G (4358) (w28) := e28
      have h91 := (o28 (91) (by decide)).trans h91
      have hO : ∀ j, j ≠ 92 → F28 j = F j := fun j hj => (o28 j (by omega)).trans (hO j hj)
      refine lv_aload_n X.1.1 X.1.2.1 dX7_clear_107 rfl (lv_at hl 1 rfl) ?_
      refine sx_get X hP in_X7_clear_X7 h91 (by decide) rfl 0 (by decide) lk_X7_clear_fieldLink_RX7_7_RaceWatchModel_w_I rfl dX7_clear_108 ?_
      refine lv_iload_n X.1.1 X.1.2.1 dX7_clear_111 rfl (lv_at hl 0 rfl) ?_
      refine sx_csI (As := [.int (nI 2)]) (rest := rf G 92 :: []) X (mX7_of l (c := 2)) gX7_clear_X7_of rfl ys_X7_of ⟨Nat.le_of_ble_eq_true rfl, Nat.le_of_ble_eq_true rfl⟩ hl.1 rfl (Nat.le_of_ble_eq_true rfl) dX7_clear_112 ⟨Nat.le_of_ble_eq_true rfl, Nat.le_of_ble_eq_true rfl⟩ hs rfl hP (fun r29 F29 H29 l29 hp hP => ?_)
      obtain ⟨rfl, rfl⟩ := hp
      refine lv_bipush (v := nI 10) X.1.1 X.1.2.1 dX7_clear_115 (by decide) ?_
      refine sx_addN X (77) rfl dX7_clear_117 ?_
      refine lv_iconst (v := (-1)) X.1.1 X.1.2.1 dX7_clear_118 (by decide) ?_
      refine sx_ast X hP h92 (by decide) (77) (by decide) (by decide) dX7_clear_119 (fun F30 H30 l30 e30 o30 hP => ?_)
      obtain ⟨w30, hw30⟩ : ∃ z, z = upd w28 (77) (-1) := ⟨_, rfl⟩
      rw [← hw30] at e30
      have h92 : F30 (92) = rI G (4358) (w30) := e30
      have h91 := (o30 (91) (by decide)).trans h91
      have hO : ∀ j, j ≠ 92 → F30 j = F j := fun j hj => (o30 j (by omega)).trans (hO j hj)
      refine lv_aload_n X.1.1 X.1.2.1 dX7_clear_120 rfl (lv_at hl 1 rfl) ?_
      refine sx_get X hP in_X7_clear_X7 h91 (by decide) rfl 0 (by decide) lk_X7_clear_fieldLink_RX7_7_RaceWatchModel_w_I rfl dX7_clear_121 ?_
      refine lv_iload_n X.1.1 X.1.2.1 dX7_clear_124 rfl (lv_at hl 0 rfl) ?_
      refine sx_csI (As := [.int (nI 2)]) (rest := rf G 92 :: []) X (mX7_of l (c := 2)) gX7_clear_X7_of rfl ys_X7_of ⟨Nat.le_of_ble_eq_true rfl, Nat.le_of_ble_eq_true rfl⟩ hl.1 rfl (Nat.le_of_ble_eq_true rfl) dX7_clear_125 ⟨Nat.le_of_ble_eq_true rfl, Nat.le_of_ble_eq_true rfl⟩ hs rfl hP (fun r31 F31 H31 l31 hp hP => ?_)
      obtain ⟨rfl, rfl⟩ := hp
      refine lv_bipush (v := nI 11) X.1.1 X.1.2.1 dX7_clear_128 (by decide) ?_
      refine sx_addN X (78) rfl dX7_clear_130 ?_
      refine lv_iconst (v := (-1)) X.1.1 X.1.2.1 dX7_clear_131 (by decide) ?_
      refine sx_ast X hP h92 (by decide) (78) (by decide) (by decide) dX7_clear_132 (fun F32 H32 l32 e32 o32 hP => ?_)
      obtain ⟨w32, hw32⟩ : ∃ z, z = upd w30 (78) (-1) := ⟨_, rfl⟩
      rw [← hw32] at e32
      have h92 : F32 (92) = rI G (4358) (w32) := e32
      have h91 := (o32 (91) (by decide)).trans h91
      have hO : ∀ j, j ≠ 92 → F32 j = F j := fun j hj => (o32 j (by omega)).trans (hO j hj)
      refine lv_iinc (v := (nI (3))) (lv' := [(1, .int (nI 3)), (0, rf G 91)]) X.1.1 X.1.2.1 dX7_clear_133 hl (k := 0) rfl (by decide) (by decide) rfl (fun ls hl => ?_)
      refine lv_goto (tgt := 78) X.1.1 X.1.2.1 dX7_clear_136 (by decide) ?_
      refine lv_iload_n X.1.1 X.1.2.1 dX7_clear_78 rfl (lv_at hl 0 rfl) ?_
      refine lv_iconst (v := nI 4) X.1.1 X.1.2.1 dX7_clear_79 (by decide) ?_
      refine sx_icmp_ge X (by decide) (by decide) (tgt := 139) dX7_clear_80 (by decide) (fun h => absurd h (by decide)) (fun _ => ?_)
      refine lv_aload_n X.1.1 X.1.2.1 dX7_clear_83 rfl (lv_at hl 1 rfl) ?_
      refine sx_get X hP in_X7_clear_X7 h91 (by decide) rfl 0 (by decide) lk_X7_clear_fieldLink_RX7_7_RaceWatchModel_w_I rfl dX7_clear_84 ?_
      refine lv_iload_n X.1.1 X.1.2.1 dX7_clear_87 rfl (lv_at hl 0 rfl) ?_
      refine sx_csI (As := [.int (nI 3)]) (rest := rf G 92 :: []) X (mX7_of l (c := 3)) gX7_clear_X7_of rfl ys_X7_of ⟨Nat.le_of_ble_eq_true rfl, Nat.le_of_ble_eq_true rfl⟩ hl.1 rfl (Nat.le_of_ble_eq_true rfl) dX7_clear_88 ⟨Nat.le_of_ble_eq_true rfl, Nat.le_of_ble_eq_true rfl⟩ hs rfl hP (fun r33 F33 H33 l33 hp hP => ?_)
      obtain ⟨rfl, rfl⟩ := hp
      refine lv_iconst (v := nI 0) X.1.1 X.1.2.1 dX7_clear_91 (by decide) ?_
      refine sx_addN X (79) rfl dX7_clear_92 ?_
      refine lv_iconst (v := (-1)) X.1.1 X.1.2.1 dX7_clear_93 (by decide) ?_
      refine sx_ast X hP h92 (by decide) (79) (by decide) (by decide) dX7_clear_94 (fun F34 H34 l34 e34 o34 hP => ?_)
      obtain ⟨w34, hw34⟩ : ∃ z, z = upd w32 (79) (-1) := ⟨_, rfl⟩
      rw [← hw34] at e34
      have h92 : F34 (92) = rI G (4358) (w34) := e34
      have h91 := (o34 (91) (by decide)).trans h91
      have hO : ∀ j, j ≠ 92 → F34 j = F j := fun j hj => (o34 j (by omega)).trans (hO j hj)
      refine lv_aload_n X.1.1 X.1.2.1 dX7_clear_95 rfl (lv_at hl 1 rfl) ?_
      refine sx_get X hP in_X7_clear_X7 h91 (by decide) rfl 0 (by decide) lk_X7_clear_fieldLink_RX7_7_RaceWatchModel_w_I rfl dX7_clear_96 ?_
      refine lv_iload_n X.1.1 X.1.2.1 dX7_clear_99 rfl (lv_at hl 0 rfl) ?_
      refine sx_csI (As := [.int (nI 3)]) (rest := rf G 92 :: []) X (mX7_of l (c := 3)) gX7_clear_X7_of rfl ys_X7_of ⟨Nat.le_of_ble_eq_true rfl, Nat.le_of_ble_eq_true rfl⟩ hl.1 rfl (Nat.le_of_ble_eq_true rfl) dX7_clear_100 ⟨Nat.le_of_ble_eq_true rfl, Nat.le_of_ble_eq_true rfl⟩ hs rfl hP (fun r35 F35 H35 l35 hp hP => ?_)
      obtain ⟨rfl, rfl⟩ := hp
      refine lv_iconst (v := nI 2) X.1.1 X.1.2.1 dX7_clear_103 (by decide) ?_
      refine sx_addN X (81) rfl dX7_clear_104 ?_
      refine lv_iconst (v := (-1)) X.1.1 X.1.2.1 dX7_clear_105 (by decide) ?_
      refine sx_ast X hP h92 (by decide) (81) (by decide) (by decide) dX7_clear_106 (fun F36 H36 l36 e36 o36 hP => ?_)
      obtain ⟨w36, hw36⟩ : ∃ z, z = upd w34 (81) (-1) := ⟨_, rfl⟩
      rw [← hw36] at e36
      have h92 : F36 (92) = rI G (4358) (w36) := e36
      have h91 := (o36 (91) (by decide)).trans h91
      have hO : ∀ j, j ≠ 92 → F36 j = F j := fun j hj => (o36 j (by omega)).trans (hO j hj)
      refine lv_aload_n X.1.1 X.1.2.1 dX7_clear_107 rfl (lv_at hl 1 rfl) ?_
      refine sx_get X hP in_X7_clear_X7 h91 (by decide) rfl 0 (by decide) lk_X7_clear_fieldLink_RX7_7_RaceWatchModel_w_I rfl dX7_clear_108 ?_
      refine lv_iload_n X.1.1 X.1.2.1 dX7_clear_111 rfl (lv_at hl 0 rfl) ?_
      refine sx_csI (As := [.int (nI 3)]) (rest := rf G 92 :: []) X (mX7_of l (c := 3)) gX7_clear_X7_of rfl ys_X7_of ⟨Nat.le_of_ble_eq_true rfl, Nat.le_of_ble_eq_true rfl⟩ hl.1 rfl (Nat.le_of_ble_eq_true rfl) dX7_clear_112 ⟨Nat.le_of_ble_eq_true rfl, Nat.le_of_ble_eq_true rfl⟩ hs rfl hP (fun r37 F37 H37 l37 hp hP => ?_)
      obtain ⟨rfl, rfl⟩ := hp
      refine lv_bipush (v := nI 10) X.1.1 X.1.2.1 dX7_clear_115 (by decide) ?_
      refine sx_addN X (89) rfl dX7_clear_117 ?_
      refine lv_iconst (v := (-1)) X.1.1 X.1.2.1 dX7_clear_118 (by decide) ?_
      refine sx_ast X hP h92 (by decide) (89) (by decide) (by decide) dX7_clear_119 (fun F38 H38 l38 e38 o38 hP => ?_)
      obtain ⟨w38, hw38⟩ : ∃ z, z = upd w36 (89) (-1) := ⟨_, rfl⟩
      rw [← hw38] at e38
      have h92 : F38 (92) = rI G (4358) (w38) := e38
      have h91 := (o38 (91) (by decide)).trans h91
      have hO : ∀ j, j ≠ 92 → F38 j = F j := fun j hj => (o38 j (by omega)).trans (hO j hj)
      refine lv_aload_n X.1.1 X.1.2.1 dX7_clear_120 rfl (lv_at hl 1 rfl) ?_
      refine sx_get X hP in_X7_clear_X7 h91 (by decide) rfl 0 (by decide) lk_X7_clear_fieldLink_RX7_7_RaceWatchModel_w_I rfl dX7_clear_121 ?_
      refine lv_iload_n X.1.1 X.1.2.1 dX7_clear_124 rfl (lv_at hl 0 rfl) ?_
      refine sx_csI (As := [.int (nI 3)]) (rest := rf G 92 :: []) X (mX7_of l (c := 3)) gX7_clear_X7_of rfl ys_X7_of ⟨Nat.le_of_ble_eq_true rfl, Nat.le_of_ble_eq_true rfl⟩ hl.1 rfl (Nat.le_of_ble_eq_true rfl) dX7_clear_125 ⟨Nat.le_of_ble_eq_true rfl, Nat.le_of_ble_eq_true rfl⟩ hs rfl hP (fun r39 F39 H39 l39 hp hP => ?_)
      obtain ⟨rfl, rfl⟩ := hp
      refine lv_bipush (v := nI 11) X.1.1 X.1.2.1 dX7_clear_128 (by decide) ?_
      refine sx_addN X (90) rfl dX7_clear_130 ?_
      refine lv_iconst (v := (-1)) X.1.1 X.1.2.1 dX7_clear_131 (by decide) ?_
      refine sx_ast X hP h92 (by decide) (90) (by decide) (by decide) dX7_clear_132 (fun F40 H40 l40 e40 o40 hP => ?_)
      obtain ⟨w40, hw40⟩ : ∃ z, z = upd w38 (90) (-1) := ⟨_, rfl⟩
      rw [← hw40] at e40
      have h92 : F40 (92) = rI G (4358) (w40) := e40
      have h91 := (o40 (91) (by decide)).trans h91
      have hO : ∀ j, j ≠ 92 → F40 j = F j := fun j hj => (o40 j (by omega)).trans (hO j hj)
      refine lv_iinc (v := (nI (4))) (lv' := [(1, .int (nI 4)), (0, rf G 91)]) X.1.1 X.1.2.1 dX7_clear_133 hl (k := 0) rfl (by decide) (by decide) rfl (fun ls hl => ?_)
      refine lv_goto (tgt := 78) X.1.1 X.1.2.1 dX7_clear_136 (by decide) ?_
      refine lv_iload_n X.1.1 X.1.2.1 dX7_clear_78 rfl (lv_at hl 0 rfl) ?_
      refine lv_iconst (v := nI 4) X.1.1 X.1.2.1 dX7_clear_79 (by decide) ?_
      refine sx_icmp_ge X (by decide) (by decide) (tgt := 139) dX7_clear_80 (by decide) (fun _ => ?_) (fun h => absurd h (by decide))
      rw [hQ]
      exact sx_vret X rfl hs rfl hP dX7_clear_139 (⟨h92.trans (by rw [hw40, hw38, hw36, hw34, hw32, hw30, hw28, hw26, hw24, hw22, hw20, hw18, hw16, hw14, hw12, hw10, hw8, hw7, hw6, hw5, hw4, hw3, hw2, hw1, hz]; rfl), hO⟩)
    | succ k_lo ih_lo =>
      intro r q Fv Hv lv ls hk hr h91 h92 hO hP hl
      refine lv_iload_n X.1.1 X.1.2.1 dX7_clear_2 rfl (lv_at hl 1 rfl) ?_
      refine lv_sipush (v := nI 1372) X.1.1 X.1.2.1 dX7_clear_3 (by decide) ?_
      refine sx_icmp_ge X (by omega) (by decide) (tgt := 22) dX7_clear_6 (by decide) (fun c6 => absurd c6 (by omega)) (fun c6 => ?_)
      refine lv_aload_n X.1.1 X.1.2.1 dX7_clear_9 rfl (lv_at hl 0 rfl) ?_
      refine sx_get X hP in_X7_clear_X7 h91 (by decide) rfl 0 (by decide) lk_X7_clear_fieldLink_RX7_7_RaceWatchModel_w_I rfl dX7_clear_10 ?_
      refine lv_iload_n X.1.1 X.1.2.1 dX7_clear_13 rfl (lv_at hl 1 rfl) ?_
      refine lv_iconst (v := nI 0) X.1.1 X.1.2.1 dX7_clear_14 (by decide) ?_
      refine sx_ast X hP h92 (by decide) (q) (by omega) (by decide) dX7_clear_15 (fun F41 H41 l41 e41 o41 hP => ?_)
      obtain ⟨w41, hw41⟩ : ∃ z, z = upd r (q) (nI (0)) := ⟨_, rfl⟩
      rw [← hw41] at e41
      have h92 : F41 (92) = rI G (4358) (w41) := e41
      have h91 := (o41 (91) (by decide)).trans h91
      have hO : ∀ j, j ≠ 92 → F41 j = F j := fun j hj => (o41 j (by omega)).trans (hO j hj)
      refine lv_iinc (v := (nI (1 + q))) (lv' := [(1, .int (nI (1 + q))), (0, rf G 91)]) X.1.1 X.1.2.1 dX7_clear_16 hl (k := 1) rfl (sx_inc1 (by omega)) (by decide) rfl (fun ls hl => ?_)
      refine lv_goto (tgt := 2) X.1.1 X.1.2.1 dX7_clear_19 (by decide) ?_
      exact ih_lo (w41) (1 + q) _ _ _ _ (by omega) (by rw [hw41]; exact zeroF_step hr) h91 h92 hO hP (lv_sub hl [1, 0] rfl)
  exact lo (1372) (w) (0) _ _ _ _ (rfl) (fun j => by rw [if_neg (by omega)]) h91 h92 hO hP (lv_sub hl [1, 0] rfl)
theorem ys_X7_anew : yX7_anew.cls ≠ "java/lang/invoke/MethodHandle" ∧ yX7_anew.cls ≠ "java/lang/invoke/VarHandle" ∧ (parseMethodDescriptor yX7_anew.desc).map (fun d => d.parameters.length) = some 0 := by decide +kernel
theorem yv_X7_anew : yX7_anew.cls = RX7 ∧ yX7_anew.cls ≠ "java/lang/invoke/MethodHandle" ∧ yX7_anew.cls ≠ "java/lang/invoke/VarHandle" ∧ (parseMethodDescriptor yX7_anew.desc).map (fun d => d.parameters.length) = some 0 := ⟨rfl, ys_X7_anew⟩
theorem in_X7_anew_X7 : ∀ w ∈ wsX70, w ∈ wsX7_anew := fun _ h => List.mem_cons_of_mem _ (List.mem_append_right _ (h))
theorem lk_X7_anew_fieldLink_RX7_7_RaceWatchModel_w_I : (.fieldLink RX7 7 "RaceWatchModel" "w" "[I" : Cond) ∈ wsX7_anew := List.mem_cons_of_mem _ (List.mem_append_left _ (List.mem_of_getElem? (i := 0) rfl))
abbrev rmX7_anew : Room := { frames := 2, cells := 0, slots := 0, locals := 41 }
set_option maxHeartbeats 4000000 in
set_option maxRecDepth 100000 in
theorem mX7_anew {G : sx_G} (l : Launch) {F : Nat → va_E} {w : Nat → Int32} {of : List Value}  (h91 : F (91) = ob 7 (rf G 92 :: of)) (h92 : F (92) = rI G (4358) (w)) : sx_I G l yX7_anew wsX7_anew rmX7_anew [rf G 91] (97) F (97) (fun r F1 => F1 92 = rI G 4358 (iniF w) ∧ (∀ j, j ≠ 92 → F1 j = F j) ∧ w 91 = r) := by
  refine sx_enter (cc := cX7_anew) (maxL := 2) (ret := some .int) (own := RX7) (nm := "anew") (by decide) rfl rfl rfl (Nat.le_of_ble_eq_true rfl) ?_
  intro pp ee ss mm args below meth kc ls Q hQ X hs hP hl
  have hl : lv_has ls 2 [(0, rf G 91)] := hl
  have hO : ∀ j, j ≠ 92 → F j = F j := fun _ _ => rfl
  refine lv_aload_n X.1.1 X.1.2.1 dX7_anew_0 rfl (lv_at hl 0 rfl) ?_
  refine sx_get X hP in_X7_anew_X7 h91 (by decide) rfl 0 (by decide) lk_X7_anew_fieldLink_RX7_7_RaceWatchModel_w_I rfl dX7_anew_1 ?_
  refine lv_bipush (v := nI 91) X.1.1 X.1.2.1 dX7_anew_4 (by decide) ?_
  refine sx_ald X hP h92 (by decide) (91) (by decide) (by decide) dX7_anew_6 ?_
  refine lv_istore_n (lv' := [(1, .int (w 91)), (0, rf G 91)]) X.1.1 X.1.2.1 dX7_anew_7 rfl hl (by decide) rfl (fun ls hl => ?_)
  refine lv_aload_n X.1.1 X.1.2.1 dX7_anew_8 rfl (lv_at hl 1 rfl) ?_
  refine sx_cvV (As := []) (rest := []) X (mX7_clear l h91 h92) gX7_anew_X7_clear rfl yv_X7_clear ⟨Nat.le_of_ble_eq_true rfl, Nat.le_of_ble_eq_true rfl⟩ h91 (by decide) rfl rfl hl.1 rfl (Nat.le_of_ble_eq_true rfl) dX7_anew_9 ⟨Nat.le_of_ble_eq_true rfl, Nat.le_of_ble_eq_true rfl⟩ hs rfl hP (fun F1 H1 l1 hp hP => ?_)
  obtain ⟨e1, o1⟩ := hp
  obtain ⟨w1, hw1⟩ : ∃ z, z = iniF w := ⟨_, rfl⟩
  rw [← hw1] at e1
  have h92 : F1 (92) = rI G (4358) (w1) := e1
  have h91 := (o1 (91) (by decide)).trans h91
  have hO : ∀ j, j ≠ 92 → F1 j = F j := fun j hj => (o1 j (by omega)).trans (hO j hj)
  refine lv_iload_n X.1.1 X.1.2.1 dX7_anew_12 rfl (lv_at hl 0 rfl) ?_
  rw [hQ]
  exact sx_iret X rfl hs rfl hP dX7_anew_13 (⟨h92.trans (by rw [hw1]), hO, rfl⟩)
