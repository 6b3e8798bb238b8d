theorem sx_inc4 (i : Nat) : nI i + Int32.ofInt 4 = nI (4 + i) := by
  rw [show Int32.ofInt 4 = nI 4 from rfl, nI_add, Nat.add_comm]
set_option maxHeartbeats 800000 in
set_option maxRecDepth 100000 in
theorem law_loop {G : sx_G} {pp : Program} {l : Launch} {ee : Env} {ss : State} {mm : MethodId} {below : List Frame} {meth : Method} {kc : Code} {nm : String} {b K : Nat} {xs : Nat → Int32} {Q : State → Prop} (X : sx_X G pp mm kc cL_law 4 ss #[Value.ref b] wsL_law RL meth (some .boolean) nm) (hs : ss.heap.size = sx_b G + 0) (hX : va_X b K xs ss ss.heap) (hbl : b < ss.heap.size) (hK : K ≤ 2048) (fin : ∀ (F1 : Nat → va_E) (H1 : Heap) (l1 : List Loc) (ls : Array Slot), sx_H G 97 F1 ss.heap H1 l1 → W pp l ee room_1 ss mm #[Value.ref b] below meth kc H1 l1 97 20000 Q (F0 mm 767 ls [])) : ∀ (k i : Nat) (F : Nat → va_E) (H : Heap) (lv : List Loc) (ls : Array Slot), K + 4 ≤ i + 4 * k → i ≤ K + 4 → LI G F → sx_H G 97 F ss.heap H lv → lv_has ls 4 [(0, .ref b), (1, rf G 0), (2, rf G 91), (3, .int (nI (i)))] → W pp l ee room_1 ss mm #[Value.ref b] below meth kc H lv 97 20000 Q (F0 mm 18 ls []) := by
  have hbA : ¬ sx_A G b := by show ¬ sx_b G ≤ b; omega
  intro k
  induction k with
  | zero =>
    intro i F H lv ls hk hi hI hP hl
    refine lv_iload_n X.1.1 X.1.2.1 dL_law_18 rfl (lv_at hl 3 rfl) ?_
    refine lv_aload_n X.1.1 X.1.2.1 dL_law_19 rfl (lv_at hl 0 rfl) ?_
    refine va_slen X.1.1 X.1.2.1 hX hbl hbA hP.2 dL_law_20 ?_
    refine lv_iconst (v := nI 4) X.1.1 X.1.2.1 dL_law_21 (by decide) ?_
    refine lv_isub X.1.1 X.1.2.1 dL_law_22 ?_
    refine lv_icmp_gt X.1.1 X.1.2.1 (tgt := 767) dL_law_23 (by decide) (fun _ => ?_) (fun c23 => absurd ((law_test (by omega) hK).mpr (by omega)) c23)
    exact fin _ _ _ _ hP
  | succ k ih =>
    intro i F H lv ls hk hi hI hP hl
    refine lv_iload_n X.1.1 X.1.2.1 dL_law_18 rfl (lv_at hl 3 rfl) ?_
    refine lv_aload_n X.1.1 X.1.2.1 dL_law_19 rfl (lv_at hl 0 rfl) ?_
    refine va_slen X.1.1 X.1.2.1 hX hbl hbA hP.2 dL_law_20 ?_
    refine lv_iconst (v := nI 4) X.1.1 X.1.2.1 dL_law_21 (by decide) ?_
    refine lv_isub X.1.1 X.1.2.1 dL_law_22 ?_
    refine lv_icmp_gt X.1.1 X.1.2.1 (tgt := 767) dL_law_23 (by decide) (fun _ => ?_) (fun c23 => ?_)
    · exact fin _ _ _ _ hP
    · have hi4 : i + 4 ≤ K := Nat.not_lt.mp (fun q => c23 ((law_test (by omega) hK).mpr q))
      have next : ∀ (F1 : Nat → va_E) (H1 : Heap) (l1 : List Loc), LI G F1 → sx_H G 97 F1 ss.heap H1 l1 → W pp l ee room_1 ss mm #[Value.ref b] below meth kc H1 l1 97 20000 Q (F0 mm 761 ls []) := by
        intro F1 H1 l1 hI1 hP1
        refine lv_iinc (v := nI (4 + i)) (lv' := [(3, .int (nI (4 + i))), (0, .ref b), (1, rf G 0), (2, rf G 91)]) X.1.1 X.1.2.1 dL_law_761 hl (k := 3) rfl (sx_inc4 i) (by decide) rfl (fun ls hl => ?_)
        refine lv_goto (tgt := 18) X.1.1 X.1.2.1 dL_law_764 (by decide) ?_
        exact ih (4 + i) _ _ _ _ (by omega) (by omega) hI1 hP1 (lv_sub hl [1, 2, 3, 0] rfl)
      refine lv_aload_n X.1.1 X.1.2.1 dL_law_26 rfl (lv_at hl 0 rfl) ?_
      refine lv_iload_n X.1.1 X.1.2.1 dL_law_27 rfl (lv_at hl 3 rfl) ?_
      refine sx_sld X hX hbl hbA hP.2 i (by omega) (by omega) dL_law_28 ?_
      refine lv_bipush (v := nI 31) X.1.1 X.1.2.1 dL_law_29 (by decide) ?_
      refine lv_iand X.1.1 X.1.2.1 dL_law_31 ?_
      by_cases hin : inR (xs i &&& nI 31) 21
      · obtain ⟨jj, hjj, hq⟩ := hin
        rw [hq]
        rcases (show jj = 0 ∨ jj = 1 ∨ jj = 2 ∨ jj = 3 ∨ jj = 4 ∨ jj = 5 ∨ jj = 6 ∨ jj = 7 ∨ jj = 8 ∨ jj = 9 ∨ jj = 10 ∨ jj = 11 ∨ jj = 12 ∨ jj = 13 ∨ jj = 14 ∨ jj = 15 ∨ jj = 16 ∨ jj = 17 ∨ jj = 18 ∨ jj = 19 ∨ jj = 20 by omega) with rfl | rfl | rfl | rfl | rfl | rfl | rfl | rfl | rfl | rfl | rfl | rfl | rfl | rfl | rfl | rfl | rfl | rfl | rfl | rfl | rfl
        · refine lv_tableIn (off := 100) (tgt := 132) X.1.1 X.1.2.1 dL_law_32 (by decide) (by decide) (by decide) (by decide) ?_
          exact law_0 X hs hX hbl hi4 hK hI hP hl next
        · refine lv_tableIn (off := 113) (tgt := 145) X.1.1 X.1.2.1 dL_law_32 (by decide) (by decide) (by decide) (by decide) ?_
          exact law_1 X hs hX hbl hi4 hK hI hP hl next
        · refine lv_tableIn (off := 136) (tgt := 168) X.1.1 X.1.2.1 dL_law_32 (by decide) (by decide) (by decide) (by decide) ?_
          exact law_2 X hs hX hbl hi4 hK hI hP hl next
        · refine lv_tableIn (off := 149) (tgt := 181) X.1.1 X.1.2.1 dL_law_32 (by decide) (by decide) (by decide) (by decide) ?_
          exact law_3 X hs hX hbl hi4 hK hI hP hl next
        · refine lv_tableIn (off := 162) (tgt := 194) X.1.1 X.1.2.1 dL_law_32 (by decide) (by decide) (by decide) (by decide) ?_
          exact law_4 X hs hX hbl hi4 hK hI hP hl next
        · refine lv_tableIn (off := 205) (tgt := 237) X.1.1 X.1.2.1 dL_law_32 (by decide) (by decide) (by decide) (by decide) ?_
          exact law_5 X hs hX hbl hi4 hK hI hP hl next
        · refine lv_tableIn (off := 238) (tgt := 270) X.1.1 X.1.2.1 dL_law_32 (by decide) (by decide) (by decide) (by decide) ?_
          exact law_6 X hs hX hbl hi4 hK hI hP hl next
        · refine lv_tableIn (off := 271) (tgt := 303) X.1.1 X.1.2.1 dL_law_32 (by decide) (by decide) (by decide) (by decide) ?_
          exact law_7 X hs hX hbl hi4 hK hI hP hl next
        · refine lv_tableIn (off := 294) (tgt := 326) X.1.1 X.1.2.1 dL_law_32 (by decide) (by decide) (by decide) (by decide) ?_
          exact law_8 X hs hX hbl hi4 hK hI hP hl next
        · refine lv_tableIn (off := 337) (tgt := 369) X.1.1 X.1.2.1 dL_law_32 (by decide) (by decide) (by decide) (by decide) ?_
          exact law_9 X hs hX hbl hi4 hK hI hP hl next
        · refine lv_tableIn (off := 370) (tgt := 402) X.1.1 X.1.2.1 dL_law_32 (by decide) (by decide) (by decide) (by decide) ?_
          exact law_10 X hs hX hbl hi4 hK hI hP hl next
        · refine lv_tableIn (off := 393) (tgt := 425) X.1.1 X.1.2.1 dL_law_32 (by decide) (by decide) (by decide) (by decide) ?_
          exact law_11 X hs hX hbl hi4 hK hI hP hl next
        · refine lv_tableIn (off := 426) (tgt := 458) X.1.1 X.1.2.1 dL_law_32 (by decide) (by decide) (by decide) (by decide) ?_
          exact law_12 X hs hX hbl hi4 hK hI hP hl next
        · refine lv_tableIn (off := 459) (tgt := 491) X.1.1 X.1.2.1 dL_law_32 (by decide) (by decide) (by decide) (by decide) ?_
          exact law_13 X hs hX hbl hi4 hK hI hP hl next
        · refine lv_tableIn (off := 492) (tgt := 524) X.1.1 X.1.2.1 dL_law_32 (by decide) (by decide) (by decide) (by decide) ?_
          exact law_14 X hs hX hbl hi4 hK hI hP hl next
        · refine lv_tableIn (off := 535) (tgt := 567) X.1.1 X.1.2.1 dL_law_32 (by decide) (by decide) (by decide) (by decide) ?_
          exact law_15 X hs hX hbl hi4 hK hI hP hl next
        · refine lv_tableIn (off := 568) (tgt := 600) X.1.1 X.1.2.1 dL_law_32 (by decide) (by decide) (by decide) (by decide) ?_
          exact law_16 X hs hX hbl hi4 hK hI hP hl next
        · refine lv_tableIn (off := 601) (tgt := 633) X.1.1 X.1.2.1 dL_law_32 (by decide) (by decide) (by decide) (by decide) ?_
          exact law_17 X hs hX hbl hi4 hK hI hP hl next
        · refine lv_tableIn (off := 660) (tgt := 692) X.1.1 X.1.2.1 dL_law_32 (by decide) (by decide) (by decide) (by decide) ?_
          exact law_18 X hs hX hbl hi4 hK hI hP hl next
        · refine lv_tableIn (off := 683) (tgt := 715) X.1.1 X.1.2.1 dL_law_32 (by decide) (by decide) (by decide) (by decide) ?_
          exact law_19 X hs hX hbl hi4 hK hI hP hl next
        · refine lv_tableIn (off := 706) (tgt := 738) X.1.1 X.1.2.1 dL_law_32 (by decide) (by decide) (by decide) (by decide) ?_
          exact law_20 X hs hX hbl hi4 hK hI hP hl next
      · refine lv_tableOut (tgt := 761) X.1.1 X.1.2.1 dL_law_32 (by have := sx_outk (k := 21) (by decide) hin; omega) (by decide) ?_
        exact next _ _ _ hI hP
theorem in_L_law_X6 : ∀ w ∈ wsX60, w ∈ wsL_law := fun _ h => List.mem_append_left _ (List.mem_append_left _ (List.mem_append_left _ (List.mem_append_left _ (List.mem_append_left _ (List.mem_append_left _ (List.mem_append_left _ (List.mem_append_left _ (List.mem_append_right _ (h)))))))))
theorem lk_L_law_classLink_RL_7_RX6 : (.classLink RL 7 RX6 : Cond) ∈ wsL_law := List.mem_append_left _ (List.mem_append_left _ (List.mem_append_left _ (List.mem_append_left _ (List.mem_append_left _ (List.mem_append_left _ (List.mem_append_left _ (List.mem_append_left _ (List.mem_append_left _ (List.mem_append_left _ (List.mem_of_getElem? (i := 0) rfl))))))))))
theorem lk_L_law_instantiable_RX6_4 : (.instantiable RX6 4 : Cond) ∈ wsL_law := List.mem_append_left _ (List.mem_append_left _ (List.mem_append_left _ (List.mem_append_left _ (List.mem_append_left _ (List.mem_append_left _ (List.mem_append_left _ (List.mem_append_left _ (List.mem_append_left _ (List.mem_append_left _ (List.mem_of_getElem? (i := 1) rfl))))))))))
theorem lk_L_law_initialized_RX6 : (.initialized RX6 : Cond) ∈ wsL_law := List.mem_append_left _ (List.mem_append_left _ (List.mem_append_left _ (List.mem_append_left _ (List.mem_append_left _ (List.mem_append_left _ (List.mem_append_left _ (List.mem_append_left _ (List.mem_append_left _ (List.mem_append_left _ (List.mem_of_getElem? (i := 2) rfl))))))))))
theorem lk_L_law_methodLink_RL_9_yX6_init : (.methodLink RL 9 yX6_init : Cond) ∈ wsL_law := List.mem_append_left _ (List.mem_append_left _ (List.mem_append_left _ (List.mem_append_left _ (List.mem_append_left _ (List.mem_append_left _ (List.mem_append_left _ (List.mem_append_left _ (List.mem_append_left _ (List.mem_append_left _ (List.mem_of_getElem? (i := 6) rfl))))))))))
theorem lk_L_law_instanceMethod_yX6_init : (.instanceMethod yX6_init : Cond) ∈ wsL_law := List.mem_append_left _ (List.mem_append_left _ (List.mem_append_left _ (List.mem_append_left _ (List.mem_append_left _ (List.mem_append_left _ (List.mem_append_left _ (List.mem_append_left _ (List.mem_append_left _ (List.mem_append_left _ (List.mem_of_getElem? (i := 7) rfl))))))))))
theorem in_L_law_X7 : ∀ w ∈ wsX70, w ∈ wsL_law := fun _ h => List.mem_append_left _ (List.mem_append_left _ (List.mem_append_left _ (List.mem_append_left _ (List.mem_append_left _ (List.mem_append_left _ (List.mem_append_left _ (List.mem_append_right _ (h))))))))
theorem lk_L_law_classLink_RL_10_RX7 : (.classLink RL 10 RX7 : Cond) ∈ wsL_law := List.mem_append_left _ (List.mem_append_left _ (List.mem_append_left _ (List.mem_append_left _ (List.mem_append_left _ (List.mem_append_left _ (List.mem_append_left _ (List.mem_append_left _ (List.mem_append_left _ (List.mem_append_left _ (List.mem_of_getElem? (i := 3) rfl))))))))))
theorem lk_L_law_instantiable_RX7_14 : (.instantiable RX7 14 : Cond) ∈ wsL_law := List.mem_append_left _ (List.mem_append_left _ (List.mem_append_left _ (List.mem_append_left _ (List.mem_append_left _ (List.mem_append_left _ (List.mem_append_left _ (List.mem_append_left _ (List.mem_append_left _ (List.mem_append_left _ (List.mem_of_getElem? (i := 4) rfl))))))))))
theorem lk_L_law_initialized_RX7 : (.initialized RX7 : Cond) ∈ wsL_law := List.mem_append_left _ (List.mem_append_left _ (List.mem_append_left _ (List.mem_append_left _ (List.mem_append_left _ (List.mem_append_left _ (List.mem_append_left _ (List.mem_append_left _ (List.mem_append_left _ (List.mem_append_left _ (List.mem_of_getElem? (i := 5) rfl))))))))))
theorem lk_L_law_methodLink_RL_12_yX7_init : (.methodLink RL 12 yX7_init : Cond) ∈ wsL_law := List.mem_append_left _ (List.mem_append_left _ (List.mem_append_left _ (List.mem_append_left _ (List.mem_append_left _ (List.mem_append_left _ (List.mem_append_left _ (List.mem_append_left _ (List.mem_append_left _ (List.mem_append_right _ (List.mem_append_right _ (List.mem_append_right _ (List.mem_append_right _ (List.mem_append_right _ (List.mem_append_left _ (List.mem_of_getElem? (i := 7) rfl)))))))))))))))
theorem lk_L_law_instanceMethod_yX7_init : (.instanceMethod yX7_init : Cond) ∈ wsL_law := List.mem_append_left _ (List.mem_append_left _ (List.mem_append_left _ (List.mem_append_left _ (List.mem_append_left _ (List.mem_append_left _ (List.mem_append_left _ (List.mem_append_left _ (List.mem_append_left _ (List.mem_append_right _ (List.mem_append_right _ (List.mem_append_right _ (List.mem_append_right _ (List.mem_append_right _ (List.mem_append_left _ (List.mem_of_getElem? (i := 8) rfl)))))))))))))))
set_option maxHeartbeats 800000 in
set_option maxRecDepth 100000 in
theorem law_start {G : sx_G} {pp : Program} {l : Launch} {ee : Env} {ss : State} {mm : MethodId} {below : List Frame} {meth : Method} {kc : Code} {nm : String} {b K : Nat} {xs : Nat → Int32} {Q : State → Prop} (X : sx_X G pp mm kc cL_law 4 ss #[Value.ref b] wsL_law RL meth (some .boolean) nm) (hs : ss.heap.size = sx_b G + 0) (hX : va_X b K xs ss ss.heap) (hbl : b < ss.heap.size) (hK : K ≤ 2048) (fin : ∀ (F1 : Nat → va_E) (H1 : Heap) (l1 : List Loc) (ls : Array Slot), sx_H G 97 F1 ss.heap H1 l1 → W pp l ee room_1 ss mm #[Value.ref b] below meth kc H1 l1 97 20000 Q (F0 mm 767 ls [])) {F : Nat → va_E} {ls : Array Slot} (hP : sx_H G 0 F ss.heap ss.heap []) (hl : lv_has ls 4 [(0, .ref b)]) : W pp l ee room_1 ss mm #[Value.ref b] below meth kc ss.heap [] 0 0 Q (F0 mm 0 ls []) := by
  refine sx_new (ci := 6) X hP in_L_law_X6 tyX6 tyX6_ok lk_L_law_classLink_RL_7_RX6 lk_L_law_instantiable_RX6_4 lk_L_law_initialized_RX6 rfl (fs := [.null, .null, .null, .null]) (fun j hj => by rcases (show j = 0 ∨ j = 1 ∨ j = 2 ∨ j = 3 by omega) with rfl | rfl | rfl | rfl <;> rfl) (Nat.le_of_ble_eq_true rfl) (Nat.le_of_ble_eq_true rfl) hs rfl dL_law_0 (fun F1 H1 e1 o1 hP => ?_)
  have h0 : F1 (0) = ob 6 ([.null, .null, .null, .null]) := e1
  refine lv_dup X.1.1 X.1.2.1 dL_law_3 rfl ?_
  refine sx_ci (As := []) (rest := rf G 0 :: []) X (mX6_init l (w := fun _ => 0) h0) gL_law_X6_init rfl lk_L_law_initialized_RX6 lk_L_law_methodLink_RL_9_yX6_init lk_L_law_instanceMethod_yX6_init rfl ys_X6_init ⟨Nat.le_of_ble_eq_true rfl, Nat.le_of_ble_eq_true rfl⟩ hl.1 rfl (Nat.le_of_ble_eq_true rfl) dL_law_4 ⟨Nat.le_of_ble_eq_true rfl, Nat.le_of_ble_eq_true rfl⟩ hs rfl hP (fun F2 H2 l2 hp hP => ?_)
  obtain ⟨e0, hW1, ⟨im, h28, him⟩, hS0, hS1, h83, h84, h85, h86, h87, h88, h89, h90⟩ := hp
  have h0 : F2 0 = ob 6 ([rf G 1, rf G 28, rf G 83, rf G 84]) := e0
  refine lv_astore_n (lv' := [(1, rf G 0), (0, .ref b)]) X.1.1 X.1.2.1 dL_law_7 rfl hl (by decide) rfl (fun ls hl => ?_)
  refine sx_new (ci := 7) X hP in_L_law_X7 tyX7 tyX7_ok lk_L_law_classLink_RL_10_RX7 lk_L_law_instantiable_RX7_14 lk_L_law_initialized_RX7 rfl (fs := [.null, .null, .int (0), .null, .long (0), .int (0), .int (0), .int (0), .int (0), .int (0), .int (0), .int (0), .null, .null]) (fun j hj => by rcases (show j = 0 ∨ j = 1 ∨ j = 2 ∨ j = 3 ∨ j = 4 ∨ j = 5 ∨ j = 6 ∨ j = 7 ∨ j = 8 ∨ j = 9 ∨ j = 10 ∨ j = 11 ∨ j = 12 ∨ j = 13 by omega) with rfl | rfl | rfl | rfl | rfl | rfl | rfl | rfl | rfl | rfl | rfl | rfl | rfl | rfl <;> rfl) (Nat.le_of_ble_eq_true rfl) (Nat.le_of_ble_eq_true rfl) hs rfl dL_law_8 (fun F3 H3 e3 o3 hP => ?_)
  have h91 : F3 (91) = ob 7 ([.null, .null, .int (0), .null, .long (0), .int (0), .int (0), .int (0), .int (0), .int (0), .int (0), .int (0), .null, .null]) := e3
  have h0 := (o3 (0) (by decide)).trans h0
  refine lv_dup X.1.1 X.1.2.1 dL_law_11 rfl ?_
  refine sx_ci (As := []) (rest := rf G 91 :: []) X (mX7_init l h91) gL_law_X7_init rfl lk_L_law_initialized_RX7 lk_L_law_methodLink_RL_12_yX7_init lk_L_law_instanceMethod_yX7_init rfl ys_X7_init ⟨Nat.le_of_ble_eq_true rfl, Nat.le_of_ble_eq_true rfl⟩ hl.1 rfl (Nat.le_of_ble_eq_true rfl) dL_law_12 ⟨Nat.le_of_ble_eq_true rfl, Nat.le_of_ble_eq_true rfl⟩ hs rfl hP (fun F4 H4 l4 hp hP => ?_)
  obtain ⟨e91, e92, e93, e94, e95, e96, o4⟩ := hp
  refine lv_astore_n (lv' := [(2, rf G 91), (1, rf G 0), (0, .ref b)]) X.1.1 X.1.2.1 dL_law_15 rfl hl (by decide) rfl (fun ls hl => ?_)
  refine lv_iconst (v := nI 0) X.1.1 X.1.2.1 dL_law_16 (by decide) ?_
  refine lv_istore_n (lv' := [(3, .int (nI 0)), (2, rf G 91), (1, rf G 0), (0, .ref b)]) X.1.1 X.1.2.1 dL_law_17 rfl hl (by decide) rfl (fun ls hl => ?_)
  have q : ∀ j, j < 91 → F4 j = F2 j := fun j hj => (o4 j hj).trans (o3 j (by omega))
  have lo : ∀ j, j < 1372 → (upd (iniF (fun _ => 0)) 1613 (-1)) j = iniF (fun _ => 0) j := fun j hj => pk_un (by omega)
  have hI : LI G F4 := ⟨upd (iniF (fun _ => 0)) 1613 (-1), fun _ => 0, fun _ => 0, fun _ => 0, 0, 0, 0, fun _ => 0, (q 0 (by omega)).trans e0, (hW1.upd (fun j a b => q j (by omega))).congr (by decide) (fun e he => absurd he (by omega)) lo, ⟨im, (q 28 (by omega)).trans h28, him⟩, hS0.upd (fun j a b => q j (by omega)), hS1.upd (fun j a b => q j (by omega)), fun _ _ hk => absurd rfl hk, (q 83 (by omega)).trans h83, ⟨_, _, _, _, _, (q 84 (by omega)).trans h84⟩, ⟨_, _, (q 85 (by omega)).trans h85, (q 86 (by omega)).trans h86, (q 87 (by omega)).trans h87, fun k hk => absurd hk (by omega)⟩, ⟨_, (q 88 (by omega)).trans h88, fun j hj => absurd hj (by omega)⟩, ⟨_, _, (q 89 (by omega)).trans h89, (q 90 (by omega)).trans h90⟩, ⟨_, _, _, _, _, _, _, _, e91⟩, e92, e93, e94, ⟨_, _, e95, e96⟩, WF_ini.congr lo, HO_ini.congr (fun k hk => lo _ (by omega)), ⟨(pk_un (by decide)).trans (ini_far (Nat.le_refl _)), by decide, fun j hj => absurd hj (by omega)⟩, by decide, fun j hj => absurd hj (by omega)⟩
  refine W.widen (k := 97) (n := 20000) (by decide) (by decide) ?_
  exact law_loop X hs hX hbl hK fin (K + 4) 0 _ _ _ _ (by omega) (by omega) hI hP (lv_sub hl [3, 2, 1, 0] rfl)
