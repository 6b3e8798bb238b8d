theorem ys_J7_fill_53178 : yJ7_fill_53178.cls ≠ "java/lang/invoke/MethodHandle" ∧ yJ7_fill_53178.cls ≠ "java/lang/invoke/VarHandle" ∧ (parseMethodDescriptor yJ7_fill_53178.desc).map (fun d => d.parameters.length) = some 2 := by decide +kernel
theorem yv_J7_fill_53178 : yJ7_fill_53178.cls = RJ7 ∧ yJ7_fill_53178.cls ≠ "java/lang/invoke/MethodHandle" ∧ yJ7_fill_53178.cls ≠ "java/lang/invoke/VarHandle" ∧ (parseMethodDescriptor yJ7_fill_53178.desc).map (fun d => d.parameters.length) = some 2 := ⟨rfl, ys_J7_fill_53178⟩
abbrev rmJ7_fill_53178 : Room := { frames := 0, cells := 0, slots := 0, locals := 0 }
set_option maxHeartbeats 800000 in
set_option maxRecDepth 100000 in
theorem mJ7_fill_53178 {G : sx_G} (l : Launch) {F : Nat → va_E} {n cj L : Nat} {g : Nat → Int32} {v : Int32} (lcj : cj < n) (lL : L < 2 ^ 31) (hcj : F (cj) = rI G (L) (g)) : sx_V G l yJ7_fill_53178 wsJ7_fill_53178 rmJ7_fill_53178 [rf G (cj), .int (v)] (n) F (n) (fun F1 => ∃ g1, F1 cj = rI G L g1 ∧ (∀ k, k < L → g1 k = v) ∧ ∀ j, j ≠ cj → F1 j = F j) := by
  refine sx_enter (cc := cJ7_fill_53178) (maxL := 4) (ret := none) (own := RJ7) (nm := "fill") (by decide) rfl rfl rfl (Nat.le_of_ble_eq_true rfl) ?_
  intro pp ee ss mm args below meth kc ls Q hQ X hs hP hl
  have hl : lv_has ls 4 [(0, rf G (cj)), (1, .int (v))] := hl
  have hO : ∀ j, j ≠ cj → F j = F j := fun _ _ => rfl
  refine lv_iconst (v := nI 0) X.1.1 X.1.2.1 dJ7_fill_53178_0 (by decide) ?_
  refine lv_istore_n (lv' := [(2, .int (nI 0)), (0, rf G (cj)), (1, .int (v))]) X.1.1 X.1.2.1 dJ7_fill_53178_1 rfl hl (by decide) rfl (fun ls hl => ?_)
  refine lv_aload_n X.1.1 X.1.2.1 dJ7_fill_53178_2 rfl (lv_at hl 1 rfl) ?_
  refine sx_alen X hP hcj (by omega) dJ7_fill_53178_3 ?_
  refine lv_istore_n (lv' := [(3, .int (nI (L))), (2, .int (nI 0)), (0, rf G (cj)), (1, .int (v))]) X.1.1 X.1.2.1 dJ7_fill_53178_4 rfl hl (by decide) rfl (fun ls hl => ?_)
  have lo : ∀ (k_lo : Nat) (r : Nat → Int32) (q : Nat) (Fv : Nat → va_E) (Hv : Heap) (lv : List Loc) (ls : Array Slot), (q + k_lo = L) → (∀ j, j < q → r j = v) → (Fv (cj) = rI G (L) (r)) → (∀ j, j ≠ cj → Fv j = F j) → sx_H G (n) Fv ss.heap Hv lv → lv_has ls 4 [(0, rf G (cj)), (1, .int (v)), (2, .int (nI (q))), (3, .int (nI (L)))] → W pp l ee rmJ7_fill_53178 ss mm args below meth kc Hv lv 0 0 Q (F0 mm 5 ls []) := by
    intro k_lo
    induction k_lo with
    | zero =>
      intro r q Fv Hv lv ls hk hr hcj hO hP hl
      refine lv_iload_n X.1.1 X.1.2.1 dJ7_fill_53178_5 rfl (lv_at hl 2 rfl) ?_
      refine lv_iload_n X.1.1 X.1.2.1 dJ7_fill_53178_6 rfl (lv_at hl 3 rfl) ?_
      refine sx_icmp_ge X (by omega) (by omega) (tgt := 20) dJ7_fill_53178_7 (by decide) (fun c7 => ?_) (fun c7 => absurd c7 (by omega))
      rw [hQ]
      exact sx_vret X rfl hs rfl hP dJ7_fill_53178_20 (⟨r, hcj, fun k hk2 => hr k (by omega), hO⟩)
    | succ k_lo ih_lo =>
      intro r q Fv Hv lv ls hk hr hcj hO hP hl
      refine lv_iload_n X.1.1 X.1.2.1 dJ7_fill_53178_5 rfl (lv_at hl 2 rfl) ?_
      refine lv_iload_n X.1.1 X.1.2.1 dJ7_fill_53178_6 rfl (lv_at hl 3 rfl) ?_
      refine sx_icmp_ge X (by omega) (by omega) (tgt := 20) dJ7_fill_53178_7 (by decide) (fun c7 => absurd c7 (by omega)) (fun c7 => ?_)
      refine lv_aload_n X.1.1 X.1.2.1 dJ7_fill_53178_10 rfl (lv_at hl 0 rfl) ?_
      refine lv_iload_n X.1.1 X.1.2.1 dJ7_fill_53178_11 rfl (lv_at hl 2 rfl) ?_
      refine lv_iload_n X.1.1 X.1.2.1 dJ7_fill_53178_12 rfl (lv_at hl 1 rfl) ?_
      refine sx_ast X hP hcj (by omega) (q) (by omega) (by omega) dJ7_fill_53178_13 (fun F1 H1 l1 e1 o1 hP => ?_)
      obtain ⟨w1, hw1⟩ : ∃ z, z = upd r (q) (v) := ⟨_, rfl⟩
      rw [← hw1] at e1
      have hcj : F1 (cj) = rI G (L) (w1) := e1
      have hO : ∀ j, j ≠ cj → F1 j = F j := fun j hj => (o1 j (by omega)).trans (hO j hj)
      refine lv_iinc (v := (nI (1 + q))) (lv' := [(2, .int (nI (1 + q))), (0, rf G (cj)), (1, .int (v)), (3, .int (nI (L)))]) X.1.1 X.1.2.1 dJ7_fill_53178_14 hl (k := 2) rfl (sx_inc1 (by omega)) (by decide) rfl (fun ls hl => ?_)
      refine lv_goto (tgt := 5) X.1.1 X.1.2.1 dJ7_fill_53178_17 (by decide) ?_
      exact ih_lo (w1) (1 + q) _ _ _ _ (by omega) (by rw [hw1]; exact fill_step (g := g) hr) hcj hO hP (lv_sub hl [1, 2, 0, 3] rfl)
  exact lo (L) (g) (0) _ _ _ _ (by omega) (fun j hj => absurd hj (by omega)) hcj hO hP (lv_sub hl [2, 3, 1, 0] rfl)
theorem ys_X1_number : yX1_number.cls ≠ "java/lang/invoke/MethodHandle" ∧ yX1_number.cls ≠ "java/lang/invoke/VarHandle" ∧ (parseMethodDescriptor yX1_number.desc).map (fun d => d.parameters.length) = some 2 := by decide +kernel
theorem yv_X1_number : yX1_number.cls = RX1 ∧ yX1_number.cls ≠ "java/lang/invoke/MethodHandle" ∧ yX1_number.cls ≠ "java/lang/invoke/VarHandle" ∧ (parseMethodDescriptor yX1_number.desc).map (fun d => d.parameters.length) = some 2 := ⟨rfl, ys_X1_number⟩
theorem in_X1_number_X1 : ∀ w ∈ wsX10, w ∈ wsX1_number := fun _ h => List.mem_cons_of_mem _ (List.mem_append_right _ (h))
theorem lk_X1_number_fieldLink_RX1_21_RaceWatch_Clocks_numbers_I : (.fieldLink RX1 21 "RaceWatch$Clocks" "numbers" "[I" : Cond) ∈ wsX1_number := List.mem_cons_of_mem _ (List.mem_append_left _ (List.mem_of_getElem? (i := 0) rfl))
abbrev rmX1_number : Room := { frames := 0, cells := 0, slots := 0, locals := 0 }
set_option maxHeartbeats 800000 in
set_option maxRecDepth 100000 in
theorem mX1_number {G : sx_G} (l : Launch) {F : Nat → va_E} {n ci cj L row t : Nat} {rr : Value} {g : Nat → Int32}  (lci : ci < n) (lcj : cj < n) (lL : L < 2 ^ 31) (nij : ci ≠ cj) (hx : 4 * row + t < L) (hci : F (ci) = ob 1 ([rr, rf G (cj)])) (hcj : F (cj) = rI G (L) (g)) : sx_I G l yX1_number wsX1_number rmX1_number [rf G (ci), .int (nI (row)), .int (nI (t))] (n) F (n) (fun r F1 => F = F1 ∧ g (4 * row + t) = r) := by
  refine sx_enter (cc := cX1_number) (maxL := 3) (ret := some .int) (own := RX1) (nm := "number") (by decide) rfl rfl rfl (Nat.le_of_ble_eq_true rfl) ?_
  intro pp ee ss mm args below meth kc ls Q hQ X hs hP hl
  have hl : lv_has ls 3 [(0, rf G (ci)), (1, .int (nI (row))), (2, .int (nI (t)))] := hl
  refine lv_aload_n X.1.1 X.1.2.1 dX1_number_0 rfl (lv_at hl 0 rfl) ?_
  refine sx_get X hP in_X1_number_X1 hci (by omega) rfl 1 (by decide) lk_X1_number_fieldLink_RX1_21_RaceWatch_Clocks_numbers_I rfl dX1_number_1 ?_
  refine lv_iload_n X.1.1 X.1.2.1 dX1_number_4 rfl (lv_at hl 1 rfl) ?_
  refine lv_iconst (v := nI 4) X.1.1 X.1.2.1 dX1_number_5 (by decide) ?_
  refine sx_mulN X (4 * row) (by omega) dX1_number_6 ?_
  refine lv_iload_n X.1.1 X.1.2.1 dX1_number_7 rfl (lv_at hl 2 rfl) ?_
  refine sx_addN X (4 * row + t) (by omega) dX1_number_8 ?_
  refine sx_ald X hP hcj (by omega) (4 * row + t) (by omega) (by omega) dX1_number_9 ?_
  rw [hQ]
  exact sx_iret X rfl hs rfl hP dX1_number_10 (⟨rfl, rfl⟩)
theorem ys_X1_set : yX1_set.cls ≠ "java/lang/invoke/MethodHandle" ∧ yX1_set.cls ≠ "java/lang/invoke/VarHandle" ∧ (parseMethodDescriptor yX1_set.desc).map (fun d => d.parameters.length) = some 3 := by decide +kernel
theorem yv_X1_set : yX1_set.cls = RX1 ∧ yX1_set.cls ≠ "java/lang/invoke/MethodHandle" ∧ yX1_set.cls ≠ "java/lang/invoke/VarHandle" ∧ (parseMethodDescriptor yX1_set.desc).map (fun d => d.parameters.length) = some 3 := ⟨rfl, ys_X1_set⟩
theorem in_X1_set_X1 : ∀ w ∈ wsX10, w ∈ wsX1_set := fun _ h => List.mem_cons_of_mem _ (List.mem_append_right _ (h))
theorem lk_X1_set_fieldLink_RX1_21_RaceWatch_Clocks_numbers_I : (.fieldLink RX1 21 "RaceWatch$Clocks" "numbers" "[I" : Cond) ∈ wsX1_set := List.mem_cons_of_mem _ (List.mem_append_left _ (List.mem_of_getElem? (i := 0) rfl))
abbrev rmX1_set : Room := { frames := 0, cells := 0, slots := 0, locals := 0 }
set_option maxHeartbeats 800000 in
set_option maxRecDepth 100000 in
theorem mX1_set {G : sx_G} (l : Launch) {F : Nat → va_E} {n ci cj L row t : Nat} {rr : Value} {g : Nat → Int32} {v : Int32} (lci : ci < n) (lcj : cj < n) (lL : L < 2 ^ 31) (nij : ci ≠ cj) (hx : 4 * row + t < L) (hci : F (ci) = ob 1 ([rr, rf G (cj)])) (hcj : F (cj) = rI G (L) (g)) : sx_V G l yX1_set wsX1_set rmX1_set [rf G (ci), .int (nI (row)), .int (nI (t)), .int (v)] (n) F (n) (fun F1 => F1 cj = rI G L (upd g (4 * row + t) v) ∧ ∀ j, j ≠ cj → F1 j = F j) := by
  refine sx_enter (cc := cX1_set) (maxL := 4) (ret := none) (own := RX1) (nm := "set") (by decide) rfl rfl rfl (Nat.le_of_ble_eq_true rfl) ?_
  intro pp ee ss mm args below meth kc ls Q hQ X hs hP hl
  have hl : lv_has ls 4 [(0, rf G (ci)), (1, .int (nI (row))), (2, .int (nI (t))), (3, .int (v))] := hl
  have hO : ∀ j, j ≠ cj → F j = F j := fun _ _ => rfl
  refine lv_aload_n X.1.1 X.1.2.1 dX1_set_0 rfl (lv_at hl 0 rfl) ?_
  refine sx_get X hP in_X1_set_X1 hci (by omega) rfl 1 (by decide) lk_X1_set_fieldLink_RX1_21_RaceWatch_Clocks_numbers_I rfl dX1_set_1 ?_
  refine lv_iload_n X.1.1 X.1.2.1 dX1_set_4 rfl (lv_at hl 1 rfl) ?_
  refine lv_iconst (v := nI 4) X.1.1 X.1.2.1 dX1_set_5 (by decide) ?_
  refine sx_mulN X (4 * row) (by omega) dX1_set_6 ?_
  refine lv_iload_n X.1.1 X.1.2.1 dX1_set_7 rfl (lv_at hl 2 rfl) ?_
  refine sx_addN X (4 * row + t) (by omega) dX1_set_8 ?_
  refine lv_iload_n X.1.1 X.1.2.1 dX1_set_9 rfl (lv_at hl 3 rfl) ?_
  refine sx_ast X hP hcj (by omega) (4 * row + t) (by omega) (by omega) dX1_set_10 (fun F1 H1 l1 e1 o1 hP => ?_)
  obtain ⟨w1, hw1⟩ : ∃ z, z = upd g (4 * row + t) (v) := ⟨_, rfl⟩
  rw [← hw1] at e1
  have hcj : F1 (cj) = rI G (L) (w1) := e1
  have hci := (o1 (ci) (by omega)).trans hci
  have hO : ∀ j, j ≠ cj → F1 j = F j := fun j hj => (o1 j (by omega)).trans (hO j hj)
  rw [hQ]
  exact sx_vret X rfl hs rfl hP dX1_set_11 (⟨hcj.trans (by rw [hw1]), hO⟩)
theorem ys_X1_join : yX1_join.cls ≠ "java/lang/invoke/MethodHandle" ∧ yX1_join.cls ≠ "java/lang/invoke/VarHandle" ∧ (parseMethodDescriptor yX1_join.desc).map (fun d => d.parameters.length) = some 3 := by decide +kernel
theorem yv_X1_join : yX1_join.cls = RX1 ∧ yX1_join.cls ≠ "java/lang/invoke/MethodHandle" ∧ yX1_join.cls ≠ "java/lang/invoke/VarHandle" ∧ (parseMethodDescriptor yX1_join.desc).map (fun d => d.parameters.length) = some 3 := ⟨rfl, ys_X1_join⟩
theorem lk_X1_join_methodLink_RX1_9_Lib_Math_max_name : (.methodLink RX1 9 Lib.Math.max.name : Cond) ∈ wsX1_join := List.mem_cons_of_mem _ (List.mem_append_left _ (List.mem_of_getElem? (i := 0) rfl))
theorem lk_X1_join_static_Lib_Math_max_name : (.static Lib.Math.max.name : Cond) ∈ wsX1_join := List.mem_cons_of_mem _ (List.mem_append_left _ (List.mem_of_getElem? (i := 1) rfl))
theorem lk_X1_join_initialized_java_lang_Math : (.initialized "java/lang/Math" : Cond) ∈ wsX1_join := List.mem_cons_of_mem _ (List.mem_append_left _ (List.mem_of_getElem? (i := 2) rfl))
theorem lk_X1_join_code_Lib_Math_max_name_Lib_Math_max_code_2_some_int : (.code Lib.Math.max.name Lib.Math.max.code 2 (some .int) : Cond) ∈ wsX1_join := List.mem_cons_of_mem _ (List.mem_append_left _ (List.mem_of_getElem? (i := 3) rfl))
abbrev rmX1_join : Room := { frames := 1, cells := 0, slots := 0, locals := 23 }
set_option maxHeartbeats 800000 in
set_option maxRecDepth 100000 in
theorem mX1_join {G : sx_G} (l : Launch) {F : Nat → va_E} {n ci cj ck cl L M row orow : Nat} {rr r2 : Value} {g h : Nat → Int32}  (lci : ci < n) (lcj : cj < n) (lck : ck < n) (lcl : cl < n) (lL : L < 2 ^ 31) (lM : M < 2 ^ 31) (n1 : ci ≠ cj) (n2 : ck ≠ cj) (n3 : cl ≠ cj) (n4 : ck ≠ cl) (hx : 4 * row + 3 < L) (hy : 4 * orow + 3 < M) (hci : F (ci) = ob 1 ([rr, rf G (cj)])) (hcj : F (cj) = rI G (L) (g)) (hck : F (ck) = ob 1 ([r2, rf G (cl)])) (hcl : F (cl) = rI G (M) (h)) : sx_V G l yX1_join wsX1_join rmX1_join [rf G (ci), .int (nI (row)), rf G (ck), .int (nI (orow))] (n) F (n) (fun F1 => F1 cj = rI G L (joinR g (4 * row) h (4 * orow)) ∧ ∀ j, j ≠ cj → F1 j = F j) := by
  refine sx_enter (cc := cX1_join) (maxL := 5) (ret := none) (own := RX1) (nm := "join") (by decide) rfl rfl rfl (Nat.le_of_ble_eq_true rfl) ?_
  intro pp ee ss mm args below meth kc ls Q hQ X hs hP hl
  have hl : lv_has ls 5 [(0, rf G (ci)), (1, .int (nI (row))), (2, rf G (ck)), (3, .int (nI (orow)))] := hl
  have hO : ∀ j, j ≠ cj → F j = F j := fun _ _ => rfl
  refine lv_iconst (v := nI 0) X.1.1 X.1.2.1 dX1_join_0 (by decide) ?_
  refine lv_istore (lv' := [(4, .int (nI 0)), (0, rf G (ci)), (1, .int (nI (row))), (2, rf G (ck)), (3, .int (nI (orow)))]) X.1.1 X.1.2.1 dX1_join_1 hl (by decide) rfl (fun ls hl => ?_)
  refine lv_iload X.1.1 X.1.2.1 dX1_join_3 (lv_at hl 0 rfl) ?_
  refine lv_iconst (v := nI 4) X.1.1 X.1.2.1 dX1_join_5 (by decide) ?_
  refine sx_icmp_ge X (by decide) (by decide) (tgt := 39) dX1_join_6 (by decide) (fun h => absurd h (by decide)) (fun _ => ?_)
  refine lv_aload_n X.1.1 X.1.2.1 dX1_join_9 rfl (lv_at hl 1 rfl) ?_
  refine lv_iload_n X.1.1 X.1.2.1 dX1_join_10 rfl (lv_at hl 2 rfl) ?_
  refine lv_iload X.1.1 X.1.2.1 dX1_join_11 (lv_at hl 0 rfl) ?_
  refine lv_aload_n X.1.1 X.1.2.1 dX1_join_13 rfl (lv_at hl 1 rfl) ?_
  refine lv_iload_n X.1.1 X.1.2.1 dX1_join_14 rfl (lv_at hl 2 rfl) ?_
  refine lv_iload X.1.1 X.1.2.1 dX1_join_15 (lv_at hl 0 rfl) ?_
  refine sx_cvI (As := [.int (nI (row)), .int (nI 0)]) (rest := .int (nI 0) :: .int (nI (row)) :: rf G (ci) :: []) X (mX1_number l (ci := ci) (cj := cj) (L := L) (row := row) (t := 0) (by omega) (by omega) (by omega) (by omega) (by omega) hci hcj) gX1_join_X1_number rfl yv_X1_number ⟨Nat.le_of_ble_eq_true rfl, Nat.le_of_ble_eq_true rfl⟩ hci (by omega) rfl rfl hl.1 rfl (Nat.le_of_ble_eq_true rfl) dX1_join_17 ⟨Nat.le_of_ble_eq_true rfl, Nat.le_of_ble_eq_true rfl⟩ hs rfl hP (fun r1 F1 H1 l1 hp hP => ?_)
  obtain ⟨rfl, rfl⟩ := hp
  rw [show g (4 * row + 0) = g (4 * row) from congrArg _ (by omega)]
  refine lv_aload_n X.1.1 X.1.2.1 dX1_join_20 rfl (lv_at hl 3 rfl) ?_
  refine lv_iload_n X.1.1 X.1.2.1 dX1_join_21 rfl (lv_at hl 4 rfl) ?_
  refine lv_iload X.1.1 X.1.2.1 dX1_join_22 (lv_at hl 0 rfl) ?_
  refine sx_cvI (As := [.int (nI (orow)), .int (nI 0)]) (rest := .int (g (4 * row)) :: .int (nI 0) :: .int (nI (row)) :: rf G (ci) :: []) X (mX1_number l (ci := ck) (cj := cl) (L := M) (row := orow) (t := 0) (by omega) (by omega) (by omega) (by omega) (by omega) hck hcl) gX1_join_X1_number rfl yv_X1_number ⟨Nat.le_of_ble_eq_true rfl, Nat.le_of_ble_eq_true rfl⟩ hck (by omega) rfl rfl hl.1 rfl (Nat.le_of_ble_eq_true rfl) dX1_join_24 ⟨Nat.le_of_ble_eq_true rfl, Nat.le_of_ble_eq_true rfl⟩ hs rfl hP (fun r2 F2 H2 l2 hp hP => ?_)
  obtain ⟨rfl, rfl⟩ := hp
  rw [show h (4 * orow + 0) = h (4 * orow) from congrArg _ (by omega)]
  refine sx_max X hl.1 lk_X1_join_methodLink_RX1_9_Lib_Math_max_name lk_X1_join_static_Lib_Math_max_name lk_X1_join_initialized_java_lang_Math lk_X1_join_code_Lib_Math_max_name_Lib_Math_max_code_2_some_int (Nat.le_of_ble_eq_true rfl) (Nat.le_of_ble_eq_true rfl) (Nat.le_of_ble_eq_true rfl) (Nat.le_of_ble_eq_true rfl) dX1_join_27 ?_
  refine sx_cvV (As := [.int (nI (row)), .int (nI 0), .int (if (g (4 * row)) < (h (4 * orow)) then (h (4 * orow)) else (g (4 * row)))]) (rest := []) X (mX1_set l (ci := ci) (cj := cj) (L := L) (row := row) (t := 0) (v := (if (g (4 * row)) < (h (4 * orow)) then (h (4 * orow)) else (g (4 * row)))) (by omega) (by omega) (by omega) (by omega) (by omega) hci hcj) gX1_join_X1_set rfl yv_X1_set ⟨Nat.le_of_ble_eq_true rfl, Nat.le_of_ble_eq_true rfl⟩ hci (by omega) rfl rfl hl.1 rfl (Nat.le_of_ble_eq_true rfl) dX1_join_30 ⟨Nat.le_of_ble_eq_true rfl, Nat.le_of_ble_eq_true rfl⟩ hs rfl hP (fun F3 H3 l3 hp hP => ?_)
  obtain ⟨e3, o3⟩ := hp
  rw [show 4 * row + 0 = 4 * row by omega] at e3
  obtain ⟨w3, hw3⟩ : ∃ z, z = upd g (4 * row) (if (g (4 * row)) < (h (4 * orow)) then (h (4 * orow)) else (g (4 * row))) := ⟨_, rfl⟩
  rw [← hw3] at e3
  have hcj : F3 (cj) = rI G (L) (w3) := e3
  have hci := (o3 (ci) (by omega)).trans hci
  have hck := (o3 (ck) (by omega)).trans hck
  have hcl := (o3 (cl) (by omega)).trans hcl
  have hO : ∀ j, j ≠ cj → F3 j = F j := fun j hj => (o3 j (by omega)).trans (hO j hj)
  refine lv_iinc (v := (nI (1))) (lv' := [(4, .int (nI 1)), (0, rf G (ci)), (1, .int (nI (row))), (2, rf G (ck)), (3, .int (nI (orow)))]) X.1.1 X.1.2.1 dX1_join_33 hl (k := 0) rfl (by decide) (by decide) rfl (fun ls hl => ?_)
  refine lv_goto (tgt := 3) X.1.1 X.1.2.1 dX1_join_36 (by decide) ?_
  refine lv_iload X.1.1 X.1.2.1 dX1_join_3 (lv_at hl 0 rfl) ?_
  refine lv_iconst (v := nI 4) X.1.1 X.1.2.1 dX1_join_5 (by decide) ?_
  refine sx_icmp_ge X (by decide) (by decide) (tgt := 39) dX1_join_6 (by decide) (fun h => absurd h (by decide)) (fun _ => ?_)
  refine lv_aload_n X.1.1 X.1.2.1 dX1_join_9 rfl (lv_at hl 1 rfl) ?_
  refine lv_iload_n X.1.1 X.1.2.1 dX1_join_10 rfl (lv_at hl 2 rfl) ?_
  refine lv_iload X.1.1 X.1.2.1 dX1_join_11 (lv_at hl 0 rfl) ?_
  refine lv_aload_n X.1.1 X.1.2.1 dX1_join_13 rfl (lv_at hl 1 rfl) ?_
  refine lv_iload_n X.1.1 X.1.2.1 dX1_join_14 rfl (lv_at hl 2 rfl) ?_
  refine lv_iload X.1.1 X.1.2.1 dX1_join_15 (lv_at hl 0 rfl) ?_
  refine sx_cvI (As := [.int (nI (row)), .int (nI 1)]) (rest := .int (nI 1) :: .int (nI (row)) :: rf G (ci) :: []) X (mX1_number l (ci := ci) (cj := cj) (L := L) (row := row) (t := 1) (by omega) (by omega) (by omega) (by omega) (by omega) hci hcj) gX1_join_X1_number rfl yv_X1_number ⟨Nat.le_of_ble_eq_true rfl, Nat.le_of_ble_eq_true rfl⟩ hci (by omega) rfl rfl hl.1 rfl (Nat.le_of_ble_eq_true rfl) dX1_join_17 ⟨Nat.le_of_ble_eq_true rfl, Nat.le_of_ble_eq_true rfl⟩ hs rfl hP (fun r4 F4 H4 l4 hp hP => ?_)
  obtain ⟨rfl, rfl⟩ := hp
  rw [show w3 (4 * row + 1) = w3 (1 + 4 * row) from congrArg _ (by omega)]
  refine lv_aload_n X.1.1 X.1.2.1 dX1_join_20 rfl (lv_at hl 3 rfl) ?_
  refine lv_iload_n X.1.1 X.1.2.1 dX1_join_21 rfl (lv_at hl 4 rfl) ?_
  refine lv_iload X.1.1 X.1.2.1 dX1_join_22 (lv_at hl 0 rfl) ?_
  refine sx_cvI (As := [.int (nI (orow)), .int (nI 1)]) (rest := .int (w3 (1 + 4 * row)) :: .int (nI 1) :: .int (nI (row)) :: rf G (ci) :: []) X (mX1_number l (ci := ck) (cj := cl) (L := M) (row := orow) (t := 1) (by omega) (by omega) (by omega) (by omega) (by omega) hck hcl) gX1_join_X1_number rfl yv_X1_number ⟨Nat.le_of_ble_eq_true rfl, Nat.le_of_ble_eq_true rfl⟩ hck (by omega) rfl rfl hl.1 rfl (Nat.le_of_ble_eq_true rfl) dX1_join_24 ⟨Nat.le_of_ble_eq_true rfl, Nat.le_of_ble_eq_true rfl⟩ hs rfl hP (fun r5 F5 H5 l5 hp hP => ?_)
  obtain ⟨rfl, rfl⟩ := hp
  rw [show h (4 * orow + 1) = h (1 + 4 * orow) from congrArg _ (by omega)]
  refine sx_max X hl.1 lk_X1_join_methodLink_RX1_9_Lib_Math_max_name lk_X1_join_static_Lib_Math_max_name lk_X1_join_initialized_java_lang_Math lk_X1_join_code_Lib_Math_max_name_Lib_Math_max_code_2_some_int (Nat.le_of_ble_eq_true rfl) (Nat.le_of_ble_eq_true rfl) (Nat.le_of_ble_eq_true rfl) (Nat.le_of_ble_eq_true rfl) dX1_join_27 ?_
  refine sx_cvV (As := [.int (nI (row)), .int (nI 1), .int (if (w3 (1 + 4 * row)) < (h (1 + 4 * orow)) then (h (1 + 4 * orow)) else (w3 (1 + 4 * row)))]) (rest := []) X (mX1_set l (ci := ci) (cj := cj) (L := L) (row := row) (t := 1) (v := (if (w3 (1 + 4 * row)) < (h (1 + 4 * orow)) then (h (1 + 4 * orow)) else (w3 (1 + 4 * row)))) (by omega) (by omega) (by omega) (by omega) (by omega) hci hcj) gX1_join_X1_set rfl yv_X1_set ⟨Nat.le_of_ble_eq_true rfl, Nat.le_of_ble_eq_true rfl⟩ hci (by omega) rfl rfl hl.1 rfl (Nat.le_of_ble_eq_true rfl) dX1_join_30 ⟨Nat.le_of_ble_eq_true rfl, Nat.le_of_ble_eq_true rfl⟩ hs rfl hP (fun F6 H6 l6 hp hP => ?_)
  obtain ⟨e6, o6⟩ := hp
  rw [show 4 * row + 1 = 1 + 4 * row by omega] at e6
  obtain ⟨w6, hw6⟩ : ∃ z, z = upd w3 (1 + 4 * row) (if (w3 (1 + 4 * row)) < (h (1 + 4 * orow)) then (h (1 + 4 * orow)) else (w3 (1 + 4 * row))) := ⟨_, rfl⟩
  rw [← hw6] at e6
  have hcj : F6 (cj) = rI G (L) (w6) := e6
  have hci := (o6 (ci) (by omega)).trans hci
  have hck := (o6 (ck) (by omega)).trans hck
  have hcl := (o6 (cl) (by omega)).trans hcl
  have hO : ∀ j, j ≠ cj → F6 j = F j := fun j hj => (o6 j (by omega)).trans (hO j hj)
  refine lv_iinc (v := (nI (2))) (lv' := [(4, .int (nI 2)), (0, rf G (ci)), (1, .int (nI (row))), (2, rf G (ck)), (3, .int (nI (orow)))]) X.1.1 X.1.2.1 dX1_join_33 hl (k := 0) rfl (by decide) (by decide) rfl (fun ls hl => ?_)
  refine lv_goto (tgt := 3) X.1.1 X.1.2.1 dX1_join_36 (by decide) ?_
  refine lv_iload X.1.1 X.1.2.1 dX1_join_3 (lv_at hl 0 rfl) ?_
  refine lv_iconst (v := nI 4) X.1.1 X.1.2.1 dX1_join_5 (by decide) ?_
  refine sx_icmp_ge X (by decide) (by decide) (tgt := 39) dX1_join_6 (by decide) (fun h => absurd h (by decide)) (fun _ => ?_)
  refine lv_aload_n X.1.1 X.1.2.1 dX1_join_9 rfl (lv_at hl 1 rfl) ?_
  refine lv_iload_n X.1.1 X.1.2.1 dX1_join_10 rfl (lv_at hl 2 rfl) ?_
  refine lv_iload X.1.1 X.1.2.1 dX1_join_11 (lv_at hl 0 rfl) ?_
  refine lv_aload_n X.1.1 X.1.2.1 dX1_join_13 rfl (lv_at hl 1 rfl) ?_
  refine lv_iload_n X.1.1 X.1.2.1 dX1_join_14 rfl (lv_at hl 2 rfl) ?_
  refine lv_iload X.1.1 X.1.2.1 dX1_join_15 (lv_at hl 0 rfl) ?_
  refine sx_cvI (As := [.int (nI (row)), .int (nI 2)]) (rest := .int (nI 2) :: .int (nI (row)) :: rf G (ci) :: []) X (mX1_number l (ci := ci) (cj := cj) (L := L) (row := row) (t := 2) (by omega) (by omega) (by omega) (by omega) (by omega) hci hcj) gX1_join_X1_number rfl yv_X1_number ⟨Nat.le_of_ble_eq_true rfl, Nat.le_of_ble_eq_true rfl⟩ hci (by omega) rfl rfl hl.1 rfl (Nat.le_of_ble_eq_true rfl) dX1_join_17 ⟨Nat.le_of_ble_eq_true rfl, Nat.le_of_ble_eq_true rfl⟩ hs rfl hP (fun r7 F7 H7 l7 hp hP => ?_)
  obtain ⟨rfl, rfl⟩ := hp
  rw [show w6 (4 * row + 2) = w6 (2 + 4 * row) from congrArg _ (by omega)]
  refine lv_aload_n X.1.1 X.1.2.1 dX1_join_20 rfl (lv_at hl 3 rfl) ?_
  refine lv_iload_n X.1.1 X.1.2.1 dX1_join_21 rfl (lv_at hl 4 rfl) ?_
  refine lv_iload X.1.1 X.1.2.1 dX1_join_22 (lv_at hl 0 rfl) ?_
  refine sx_cvI (As := [.int (nI (orow)), .int (nI 2)]) (rest := .int (w6 (2 + 4 * row)) :: .int (nI 2) :: .int (nI (row)) :: rf G (ci) :: []) X (mX1_number l (ci := ck) (cj := cl) (L := M) (row := orow) (t := 2) (by omega) (by omega) (by omega) (by omega) (by omega) hck hcl) gX1_join_X1_number rfl yv_X1_number ⟨Nat.le_of_ble_eq_true rfl, Nat.le_of_ble_eq_true rfl⟩ hck (by omega) rfl rfl hl.1 rfl (Nat.le_of_ble_eq_true rfl) dX1_join_24 ⟨Nat.le_of_ble_eq_true rfl, Nat.le_of_ble_eq_true rfl⟩ hs rfl hP (fun r8 F8 H8 l8 hp hP => ?_)
  obtain ⟨rfl, rfl⟩ := hp
  rw [show h (4 * orow + 2) = h (2 + 4 * orow) from congrArg _ (by omega)]
  refine sx_max X hl.1 lk_X1_join_methodLink_RX1_9_Lib_Math_max_name lk_X1_join_static_Lib_Math_max_name lk_X1_join_initialized_java_lang_Math lk_X1_join_code_Lib_Math_max_name_Lib_Math_max_code_2_some_int (Nat.le_of_ble_eq_true rfl) (Nat.le_of_ble_eq_true rfl) (Nat.le_of_ble_eq_true rfl) (Nat.le_of_ble_eq_true rfl) dX1_join_27 ?_
  refine sx_cvV (As := [.int (nI (row)), .int (nI 2), .int (if (w6 (2 + 4 * row)) < (h (2 + 4 * orow)) then (h (2 + 4 * orow)) else (w6 (2 + 4 * row)))]) (rest := []) X (mX1_set l (ci := ci) (cj := cj) (L := L) (row := row) (t := 2) (v := (if (w6 (2 + 4 * row)) < (h (2 + 4 * orow)) then (h (2 + 4 * orow)) else (w6 (2 + 4 * row)))) (by omega) (by omega) (by omega) (by omega) (by omega) hci hcj) gX1_join_X1_set rfl yv_X1_set ⟨Nat.le_of_ble_eq_true rfl, Nat.le_of_ble_eq_true rfl⟩ hci (by omega) rfl rfl hl.1 rfl (Nat.le_of_ble_eq_true rfl) dX1_join_30 ⟨Nat.le_of_ble_eq_true rfl, Nat.le_of_ble_eq_true rfl⟩ hs rfl hP (fun F9 H9 l9 hp hP => ?_)
  obtain ⟨e9, o9⟩ := hp
  rw [show 4 * row + 2 = 2 + 4 * row by omega] at e9
  obtain ⟨w9, hw9⟩ : ∃ z, z = upd w6 (2 + 4 * row) (if (w6 (2 + 4 * row)) < (h (2 + 4 * orow)) then (h (2 + 4 * orow)) else (w6 (2 + 4 * row))) := ⟨_, rfl⟩
  rw [← hw9] at e9
  have hcj : F9 (cj) = rI G (L) (w9) := e9
  have hci := (o9 (ci) (by omega)).trans hci
  have hck := (o9 (ck) (by omega)).trans hck
  have hcl := (o9 (cl) (by omega)).trans hcl
  have hO : ∀ j, j ≠ cj → F9 j = F j := fun j hj => (o9 j (by omega)).trans (hO j hj)
  refine lv_iinc (v := (nI (3))) (lv' := [(4, .int (nI 3)), (0, rf G (ci)), (1, .int (nI (row))), (2, rf G (ck)), (3, .int (nI (orow)))]) X.1.1 X.1.2.1 dX1_join_33 hl (k := 0) rfl (by decide) (by decide) rfl (fun ls hl => ?_)
  refine lv_goto (tgt := 3) X.1.1 X.1.2.1 dX1_join_36 (by decide) ?_
  refine lv_iload X.1.1 X.1.2.1 dX1_join_3 (lv_at hl 0 rfl) ?_
  refine lv_iconst (v := nI 4) X.1.1 X.1.2.1 dX1_join_5 (by decide) ?_
  refine sx_icmp_ge X (by decide) (by decide) (tgt := 39) dX1_join_6 (by decide) (fun h => absurd h (by decide)) (fun _ => ?_)
  refine lv_aload_n X.1.1 X.1.2.1 dX1_join_9 rfl (lv_at hl 1 rfl) ?_
  refine lv_iload_n X.1.1 X.1.2.1 dX1_join_10 rfl (lv_at hl 2 rfl) ?_
  refine lv_iload X.1.1 X.1.2.1 dX1_join_11 (lv_at hl 0 rfl) ?_
  refine lv_aload_n X.1.1 X.1.2.1 dX1_join_13 rfl (lv_at hl 1 rfl) ?_
  refine lv_iload_n X.1.1 X.1.2.1 dX1_join_14 rfl (lv_at hl 2 rfl) ?_
  refine lv_iload X.1.1 X.1.2.1 dX1_join_15 (lv_at hl 0 rfl) ?_
  refine sx_cvI (As := [.int (nI (row)), .int (nI 3)]) (rest := .int (nI 3) :: .int (nI (row)) :: rf G (ci) :: []) X (mX1_number l (ci := ci) (cj := cj) (L := L) (row := row) (t := 3) (by omega) (by omega) (by omega) (by omega) (by omega) hci hcj) gX1_join_X1_number rfl yv_X1_number ⟨Nat.le_of_ble_eq_true rfl, Nat.le_of_ble_eq_true rfl⟩ hci (by omega) rfl rfl hl.1 rfl (Nat.le_of_ble_eq_true rfl) dX1_join_17 ⟨Nat.le_of_ble_eq_true rfl, Nat.le_of_ble_eq_true rfl⟩ hs rfl hP (fun r10 F10 H10 l10 hp hP => ?_)
  obtain ⟨rfl, rfl⟩ := hp
  rw [show w9 (4 * row + 3) = w9 (3 + 4 * row) from congrArg _ (by omega)]
  refine lv_aload_n X.1.1 X.1.2.1 dX1_join_20 rfl (lv_at hl 3 rfl) ?_
  refine lv_iload_n X.1.1 X.1.2.1 dX1_join_21 rfl (lv_at hl 4 rfl) ?_
  refine lv_iload X.1.1 X.1.2.1 dX1_join_22 (lv_at hl 0 rfl) ?_
  refine sx_cvI (As := [.int (nI (orow)), .int (nI 3)]) (rest := .int (w9 (3 + 4 * row)) :: .int (nI 3) :: .int (nI (row)) :: rf G (ci) :: []) X (mX1_number l (ci := ck) (cj := cl) (L := M) (row := orow) (t := 3) (by omega) (by omega) (by omega) (by omega) (by omega) hck hcl) gX1_join_X1_number rfl yv_X1_number ⟨Nat.le_of_ble_eq_true rfl, Nat.le_of_ble_eq_true rfl⟩ hck (by omega) rfl rfl hl.1 rfl (Nat.le_of_ble_eq_true rfl) dX1_join_24 ⟨Nat.le_of_ble_eq_true rfl, Nat.le_of_ble_eq_true rfl⟩ hs rfl hP (fun r11 F11 H11 l11 hp hP => ?_)
  obtain ⟨rfl, rfl⟩ := hp
  rw [show h (4 * orow + 3) = h (3 + 4 * orow) from congrArg _ (by omega)]
  refine sx_max X hl.1 lk_X1_join_methodLink_RX1_9_Lib_Math_max_name lk_X1_join_static_Lib_Math_max_name lk_X1_join_initialized_java_lang_Math lk_X1_join_code_Lib_Math_max_name_Lib_Math_max_code_2_some_int (Nat.le_of_ble_eq_true rfl) (Nat.le_of_ble_eq_true rfl) (Nat.le_of_ble_eq_true rfl) (Nat.le_of_ble_eq_true rfl) dX1_join_27 ?_
  refine sx_cvV (As := [.int (nI (row)), .int (nI 3), .int (if (w9 (3 + 4 * row)) < (h (3 + 4 * orow)) then (h (3 + 4 * orow)) else (w9 (3 + 4 * row)))]) (rest := []) X (mX1_set l (ci := ci) (cj := cj) (L := L) (row := row) (t := 3) (v := (if (w9 (3 + 4 * row)) < (h (3 + 4 * orow)) then (h (3 + 4 * orow)) else (w9 (3 + 4 * row)))) (by omega) (by omega) (by omega) (by omega) (by omega) hci hcj) gX1_join_X1_set rfl yv_X1_set ⟨Nat.le_of_ble_eq_true rfl, Nat.le_of_ble_eq_true rfl⟩ hci (by omega) rfl rfl hl.1 rfl (Nat.le_of_ble_eq_true rfl) dX1_join_30 ⟨Nat.le_of_ble_eq_true rfl, Nat.le_of_ble_eq_true rfl⟩ hs rfl hP (fun F12 H12 l12 hp hP => ?_)
  obtain ⟨e12, o12⟩ := hp
  rw [show 4 * row + 3 = 3 + 4 * row by omega] at e12
  obtain ⟨w12, hw12⟩ : ∃ z, z = upd w9 (3 + 4 * row) (if (w9 (3 + 4 * row)) < (h (3 + 4 * orow)) then (h (3 + 4 * orow)) else (w9 (3 + 4 * row))) := ⟨_, rfl⟩
  rw [← hw12] at e12
  have hcj : F12 (cj) = rI G (L) (w12) := e12
  have hci := (o12 (ci) (by omega)).trans hci
  have hck := (o12 (ck) (by omega)).trans hck
  have hcl := (o12 (cl) (by omega)).trans hcl
  have hO : ∀ j, j ≠ cj → F12 j = F j := fun j hj => (o12 j (by omega)).trans (hO j hj)
  refine lv_iinc (v := (nI (4))) (lv' := [(4, .int (nI 4)), (0, rf G (ci)), (1, .int (nI (row))), (2, rf G (ck)), (3, .int (nI (orow)))]) X.1.1 X.1.2.1 dX1_join_33 hl (k := 0) rfl (by decide) (by decide) rfl (fun ls hl => ?_)
  refine lv_goto (tgt := 3) X.1.1 X.1.2.1 dX1_join_36 (by decide) ?_
  refine lv_iload X.1.1 X.1.2.1 dX1_join_3 (lv_at hl 0 rfl) ?_
  refine lv_iconst (v := nI 4) X.1.1 X.1.2.1 dX1_join_5 (by decide) ?_
  refine sx_icmp_ge X (by decide) (by decide) (tgt := 39) dX1_join_6 (by decide) (fun _ => ?_) (fun h => absurd h (by decide))
  rw [hQ]
  exact sx_vret X rfl hs rfl hP dX1_join_39 (⟨hcj.trans (by rw [hw12, hw9, hw6, hw3]; rfl), hO⟩)
set_option maxHeartbeats 800000 in
set_option maxRecDepth 100000 in
theorem mX1_joinA {G : sx_G} (l : Launch) {F : Nat → va_E} {n ci cj L row orow : Nat} {rr : Value} {g : Nat → Int32}  (lci : ci < n) (lcj : cj < n) (lL : L < 2 ^ 31) (nij : ci ≠ cj) (hx : 4 * row + 3 < L) (hy : 4 * orow + 3 < L) (hci : F (ci) = ob 1 ([rr, rf G (cj)])) (hcj : F (cj) = rI G (L) (g)) : sx_V G l yX1_join wsX1_join rmX1_join [rf G (ci), .int (nI (row)), rf G (ci), .int (nI (orow))] (n) F (n) (fun F1 => F1 cj = rI G L (joinA g (4 * row) (4 * orow)) ∧ ∀ j, j ≠ cj → F1 j = F j) := by
  refine sx_enter (cc := cX1_join) (maxL := 5) (ret := none) (own := RX1) (nm := "join") (by decide) rfl rfl rfl (Nat.le_of_ble_eq_true rfl) ?_
  intro pp ee ss mm args below meth kc ls Q hQ X hs hP hl
  have hl : lv_has ls 5 [(0, rf G (ci)), (1, .int (nI (row))), (2, rf G (ci)), (3, .int (nI (orow)))] := hl
  have hO : ∀ j, j ≠ cj → F j = F j := fun _ _ => rfl
  refine lv_iconst (v := nI 0) X.1.1 X.1.2.1 dX1_join_0 (by decide) ?_
  refine lv_istore (lv' := [(4, .int (nI 0)), (0, rf G (ci)), (1, .int (nI (row))), (2, rf G (ci)), (3, .int (nI (orow)))]) X.1.1 X.1.2.1 dX1_join_1 hl (by decide) rfl (fun ls hl => ?_)
  refine lv_iload X.1.1 X.1.2.1 dX1_join_3 (lv_at hl 0 rfl) ?_
  refine lv_iconst (v := nI 4) X.1.1 X.1.2.1 dX1_join_5 (by decide) ?_
  refine sx_icmp_ge X (by decide) (by decide) (tgt := 39) dX1_join_6 (by decide) (fun h => absurd h (by decide)) (fun _ => ?_)
  refine lv_aload_n X.1.1 X.1.2.1 dX1_join_9 rfl (lv_at hl 1 rfl) ?_
  refine lv_iload_n X.1.1 X.1.2.1 dX1_join_10 rfl (lv_at hl 2 rfl) ?_
  refine lv_iload X.1.1 X.1.2.1 dX1_join_11 (lv_at hl 0 rfl) ?_
  refine lv_aload_n X.1.1 X.1.2.1 dX1_join_13 rfl (lv_at hl 1 rfl) ?_
  refine lv_iload_n X.1.1 X.1.2.1 dX1_join_14 rfl (lv_at hl 2 rfl) ?_
  refine lv_iload X.1.1 X.1.2.1 dX1_join_15 (lv_at hl 0 rfl) ?_
  refine sx_cvI (As := [.int (nI (row)), .int (nI 0)]) (rest := .int (nI 0) :: .int (nI (row)) :: rf G (ci) :: []) X (mX1_number l (ci := ci) (cj := cj) (L := L) (row := row) (t := 0) (by omega) (by omega) (by omega) (by omega) (by omega) hci hcj) gX1_join_X1_number rfl yv_X1_number ⟨Nat.le_of_ble_eq_true rfl, Nat.le_of_ble_eq_true rfl⟩ hci (by omega) rfl rfl hl.1 rfl (Nat.le_of_ble_eq_true rfl) dX1_join_17 ⟨Nat.le_of_ble_eq_true rfl, Nat.le_of_ble_eq_true rfl⟩ hs rfl hP (fun r1 F1 H1 l1 hp hP => ?_)
  obtain ⟨rfl, rfl⟩ := hp
  rw [show g (4 * row + 0) = g (4 * row) from congrArg _ (by omega)]
  refine lv_aload_n X.1.1 X.1.2.1 dX1_join_20 rfl (lv_at hl 3 rfl) ?_
  refine lv_iload_n X.1.1 X.1.2.1 dX1_join_21 rfl (lv_at hl 4 rfl) ?_
  refine lv_iload X.1.1 X.1.2.1 dX1_join_22 (lv_at hl 0 rfl) ?_
  refine sx_cvI (As := [.int (nI (orow)), .int (nI 0)]) (rest := .int (g (4 * row)) :: .int (nI 0) :: .int (nI (row)) :: rf G (ci) :: []) X (mX1_number l (ci := ci) (cj := cj) (L := L) (row := orow) (t := 0) (by omega) (by omega) (by omega) (by omega) (by omega) hci hcj) gX1_join_X1_number rfl yv_X1_number ⟨Nat.le_of_ble_eq_true rfl, Nat.le_of_ble_eq_true rfl⟩ hci (by omega) rfl rfl hl.1 rfl (Nat.le_of_ble_eq_true rfl) dX1_join_24 ⟨Nat.le_of_ble_eq_true rfl, Nat.le_of_ble_eq_true rfl⟩ hs rfl hP (fun r2 F2 H2 l2 hp hP => ?_)
  obtain ⟨rfl, rfl⟩ := hp
  rw [show g (4 * orow + 0) = g (4 * orow) from congrArg _ (by omega)]
  refine sx_max X hl.1 lk_X1_join_methodLink_RX1_9_Lib_Math_max_name lk_X1_join_static_Lib_Math_max_name lk_X1_join_initialized_java_lang_Math lk_X1_join_code_Lib_Math_max_name_Lib_Math_max_code_2_some_int (Nat.le_of_ble_eq_true rfl) (Nat.le_of_ble_eq_true rfl) (Nat.le_of_ble_eq_true rfl) (Nat.le_of_ble_eq_true rfl) dX1_join_27 ?_
  refine sx_cvV (As := [.int (nI (row)), .int (nI 0), .int (if (g (4 * row)) < (g (4 * orow)) then (g (4 * orow)) else (g (4 * row)))]) (rest := []) X (mX1_set l (ci := ci) (cj := cj) (L := L) (row := row) (t := 0) (v := (if (g (4 * row)) < (g (4 * orow)) then (g (4 * orow)) else (g (4 * row)))) (by omega) (by omega) (by omega) (by omega) (by omega) hci hcj) gX1_join_X1_set rfl yv_X1_set ⟨Nat.le_of_ble_eq_true rfl, Nat.le_of_ble_eq_true rfl⟩ hci (by omega) rfl rfl hl.1 rfl (Nat.le_of_ble_eq_true rfl) dX1_join_30 ⟨Nat.le_of_ble_eq_true rfl, Nat.le_of_ble_eq_true rfl⟩ hs rfl hP (fun F3 H3 l3 hp hP => ?_)
  obtain ⟨e3, o3⟩ := hp
  rw [show 4 * row + 0 = 4 * row by omega] at e3
  obtain ⟨w3, hw3⟩ : ∃ z, z = upd g (4 * row) (if (g (4 * row)) < (g (4 * orow)) then (g (4 * orow)) else (g (4 * row))) := ⟨_, rfl⟩
  rw [← hw3] at e3
  have hcj : F3 (cj) = rI G (L) (w3) := e3
  have hci := (o3 (ci) (by omega)).trans hci
  have hO : ∀ j, j ≠ cj → F3 j = F j := fun j hj => (o3 j (by omega)).trans (hO j hj)
  refine lv_iinc (v := (nI (1))) (lv' := [(4, .int (nI 1)), (0, rf G (ci)), (1, .int (nI (row))), (2, rf G (ci)), (3, .int (nI (orow)))]) X.1.1 X.1.2.1 dX1_join_33 hl (k := 0) rfl (by decide) (by decide) rfl (fun ls hl => ?_)
  refine lv_goto (tgt := 3) X.1.1 X.1.2.1 dX1_join_36 (by decide) ?_
  refine lv_iload X.1.1 X.1.2.1 dX1_join_3 (lv_at hl 0 rfl) ?_
  refine lv_iconst (v := nI 4) X.1.1 X.1.2.1 dX1_join_5 (by decide) ?_
  refine sx_icmp_ge X (by decide) (by decide) (tgt := 39) dX1_join_6 (by decide) (fun h => absurd h (by decide)) (fun _ => ?_)
  refine lv_aload_n X.1.1 X.1.2.1 dX1_join_9 rfl (lv_at hl 1 rfl) ?_
  refine lv_iload_n X.1.1 X.1.2.1 dX1_join_10 rfl (lv_at hl 2 rfl) ?_
  refine lv_iload X.1.1 X.1.2.1 dX1_join_11 (lv_at hl 0 rfl) ?_
  refine lv_aload_n X.1.1 X.1.2.1 dX1_join_13 rfl (lv_at hl 1 rfl) ?_
  refine lv_iload_n X.1.1 X.1.2.1 dX1_join_14 rfl (lv_at hl 2 rfl) ?_
  refine lv_iload X.1.1 X.1.2.1 dX1_join_15 (lv_at hl 0 rfl) ?_
  refine sx_cvI (As := [.int (nI (row)), .int (nI 1)]) (rest := .int (nI 1) :: .int (nI (row)) :: rf G (ci) :: []) X (mX1_number l (ci := ci) (cj := cj) (L := L) (row := row) (t := 1) (by omega) (by omega) (by omega) (by omega) (by omega) hci hcj) gX1_join_X1_number rfl yv_X1_number ⟨Nat.le_of_ble_eq_true rfl, Nat.le_of_ble_eq_true rfl⟩ hci (by omega) rfl rfl hl.1 rfl (Nat.le_of_ble_eq_true rfl) dX1_join_17 ⟨Nat.le_of_ble_eq_true rfl, Nat.le_of_ble_eq_true rfl⟩ hs rfl hP (fun r4 F4 H4 l4 hp hP => ?_)
  obtain ⟨rfl, rfl⟩ := hp
  rw [show w3 (4 * row + 1) = w3 (1 + 4 * row) from congrArg _ (by omega)]
  refine lv_aload_n X.1.1 X.1.2.1 dX1_join_20 rfl (lv_at hl 3 rfl) ?_
  refine lv_iload_n X.1.1 X.1.2.1 dX1_join_21 rfl (lv_at hl 4 rfl) ?_
  refine lv_iload X.1.1 X.1.2.1 dX1_join_22 (lv_at hl 0 rfl) ?_
  refine sx_cvI (As := [.int (nI (orow)), .int (nI 1)]) (rest := .int (w3 (1 + 4 * row)) :: .int (nI 1) :: .int (nI (row)) :: rf G (ci) :: []) X (mX1_number l (ci := ci) (cj := cj) (L := L) (row := orow) (t := 1) (by omega) (by omega) (by omega) (by omega) (by omega) hci hcj) gX1_join_X1_number rfl yv_X1_number ⟨Nat.le_of_ble_eq_true rfl, Nat.le_of_ble_eq_true rfl⟩ hci (by omega) rfl rfl hl.1 rfl (Nat.le_of_ble_eq_true rfl) dX1_join_24 ⟨Nat.le_of_ble_eq_true rfl, Nat.le_of_ble_eq_true rfl⟩ hs rfl hP (fun r5 F5 H5 l5 hp hP => ?_)
  obtain ⟨rfl, rfl⟩ := hp
  rw [show w3 (4 * orow + 1) = w3 (1 + 4 * orow) from congrArg _ (by omega)]
  refine sx_max X hl.1 lk_X1_join_methodLink_RX1_9_Lib_Math_max_name lk_X1_join_static_Lib_Math_max_name lk_X1_join_initialized_java_lang_Math lk_X1_join_code_Lib_Math_max_name_Lib_Math_max_code_2_some_int (Nat.le_of_ble_eq_true rfl) (Nat.le_of_ble_eq_true rfl) (Nat.le_of_ble_eq_true rfl) (Nat.le_of_ble_eq_true rfl) dX1_join_27 ?_
  refine sx_cvV (As := [.int (nI (row)), .int (nI 1), .int (if (w3 (1 + 4 * row)) < (w3 (1 + 4 * orow)) then (w3 (1 + 4 * orow)) else (w3 (1 + 4 * row)))]) (rest := []) X (mX1_set l (ci := ci) (cj := cj) (L := L) (row := row) (t := 1) (v := (if (w3 (1 + 4 * row)) < (w3 (1 + 4 * orow)) then (w3 (1 + 4 * orow)) else (w3 (1 + 4 * row)))) (by omega) (by omega) (by omega) (by omega) (by omega) hci hcj) gX1_join_X1_set rfl yv_X1_set ⟨Nat.le_of_ble_eq_true rfl, Nat.le_of_ble_eq_true rfl⟩ hci (by omega) rfl rfl hl.1 rfl (Nat.le_of_ble_eq_true rfl) dX1_join_30 ⟨Nat.le_of_ble_eq_true rfl, Nat.le_of_ble_eq_true rfl⟩ hs rfl hP (fun F6 H6 l6 hp hP => ?_)
  obtain ⟨e6, o6⟩ := hp
  rw [show 4 * row + 1 = 1 + 4 * row by omega] at e6
  obtain ⟨w6, hw6⟩ : ∃ z, z = upd w3 (1 + 4 * row) (if (w3 (1 + 4 * row)) < (w3 (1 + 4 * orow)) then (w3 (1 + 4 * orow)) else (w3 (1 + 4 * row))) := ⟨_, rfl⟩
  rw [← hw6] at e6
  have hcj : F6 (cj) = rI G (L) (w6) := e6
  have hci := (o6 (ci) (by omega)).trans hci
  have hO : ∀ j, j ≠ cj → F6 j = F j := fun j hj => (o6 j (by omega)).trans (hO j hj)
  refine lv_iinc (v := (nI (2))) (lv' := [(4, .int (nI 2)), (0, rf G (ci)), (1, .int (nI (row))), (2, rf G (ci)), (3, .int (nI (orow)))]) X.1.1 X.1.2.1 dX1_join_33 hl (k := 0) rfl (by decide) (by decide) rfl (fun ls hl => ?_)
  refine lv_goto (tgt := 3) X.1.1 X.1.2.1 dX1_join_36 (by decide) ?_
  refine lv_iload X.1.1 X.1.2.1 dX1_join_3 (lv_at hl 0 rfl) ?_
  refine lv_iconst (v := nI 4) X.1.1 X.1.2.1 dX1_join_5 (by decide) ?_
  refine sx_icmp_ge X (by decide) (by decide) (tgt := 39) dX1_join_6 (by decide) (fun h => absurd h (by decide)) (fun _ => ?_)
  refine lv_aload_n X.1.1 X.1.2.1 dX1_join_9 rfl (lv_at hl 1 rfl) ?_
  refine lv_iload_n X.1.1 X.1.2.1 dX1_join_10 rfl (lv_at hl 2 rfl) ?_
  refine lv_iload X.1.1 X.1.2.1 dX1_join_11 (lv_at hl 0 rfl) ?_
  refine lv_aload_n X.1.1 X.1.2.1 dX1_join_13 rfl (lv_at hl 1 rfl) ?_
  refine lv_iload_n X.1.1 X.1.2.1 dX1_join_14 rfl (lv_at hl 2 rfl) ?_
  refine lv_iload X.1.1 X.1.2.1 dX1_join_15 (lv_at hl 0 rfl) ?_
  refine sx_cvI (As := [.int (nI (row)), .int (nI 2)]) (rest := .int (nI 2) :: .int (nI (row)) :: rf G (ci) :: []) X (mX1_number l (ci := ci) (cj := cj) (L := L) (row := row) (t := 2) (by omega) (by omega) (by omega) (by omega) (by omega) hci hcj) gX1_join_X1_number rfl yv_X1_number ⟨Nat.le_of_ble_eq_true rfl, Nat.le_of_ble_eq_true rfl⟩ hci (by omega) rfl rfl hl.1 rfl (Nat.le_of_ble_eq_true rfl) dX1_join_17 ⟨Nat.le_of_ble_eq_true rfl, Nat.le_of_ble_eq_true rfl⟩ hs rfl hP (fun r7 F7 H7 l7 hp hP => ?_)
  obtain ⟨rfl, rfl⟩ := hp
  rw [show w6 (4 * row + 2) = w6 (2 + 4 * row) from congrArg _ (by omega)]
  refine lv_aload_n X.1.1 X.1.2.1 dX1_join_20 rfl (lv_at hl 3 rfl) ?_
  refine lv_iload_n X.1.1 X.1.2.1 dX1_join_21 rfl (lv_at hl 4 rfl) ?_
  refine lv_iload X.1.1 X.1.2.1 dX1_join_22 (lv_at hl 0 rfl) ?_
  refine sx_cvI (As := [.int (nI (orow)), .int (nI 2)]) (rest := .int (w6 (2 + 4 * row)) :: .int (nI 2) :: .int (nI (row)) :: rf G (ci) :: []) X (mX1_number l (ci := ci) (cj := cj) (L := L) (row := orow) (t := 2) (by omega) (by omega) (by omega) (by omega) (by omega) hci hcj) gX1_join_X1_number rfl yv_X1_number ⟨Nat.le_of_ble_eq_true rfl, Nat.le_of_ble_eq_true rfl⟩ hci (by omega) rfl rfl hl.1 rfl (Nat.le_of_ble_eq_true rfl) dX1_join_24 ⟨Nat.le_of_ble_eq_true rfl, Nat.le_of_ble_eq_true rfl⟩ hs rfl hP (fun r8 F8 H8 l8 hp hP => ?_)
  obtain ⟨rfl, rfl⟩ := hp
  rw [show w6 (4 * orow + 2) = w6 (2 + 4 * orow) from congrArg _ (by omega)]
  refine sx_max X hl.1 lk_X1_join_methodLink_RX1_9_Lib_Math_max_name lk_X1_join_static_Lib_Math_max_name lk_X1_join_initialized_java_lang_Math lk_X1_join_code_Lib_Math_max_name_Lib_Math_max_code_2_some_int (Nat.le_of_ble_eq_true rfl) (Nat.le_of_ble_eq_true rfl) (Nat.le_of_ble_eq_true rfl) (Nat.le_of_ble_eq_true rfl) dX1_join_27 ?_
  refine sx_cvV (As := [.int (nI (row)), .int (nI 2), .int (if (w6 (2 + 4 * row)) < (w6 (2 + 4 * orow)) then (w6 (2 + 4 * orow)) else (w6 (2 + 4 * row)))]) (rest := []) X (mX1_set l (ci := ci) (cj := cj) (L := L) (row := row) (t := 2) (v := (if (w6 (2 + 4 * row)) < (w6 (2 + 4 * orow)) then (w6 (2 + 4 * orow)) else (w6 (2 + 4 * row)))) (by omega) (by omega) (by omega) (by omega) (by omega) hci hcj) gX1_join_X1_set rfl yv_X1_set ⟨Nat.le_of_ble_eq_true rfl, Nat.le_of_ble_eq_true rfl⟩ hci (by omega) rfl rfl hl.1 rfl (Nat.le_of_ble_eq_true rfl) dX1_join_30 ⟨Nat.le_of_ble_eq_true rfl, Nat.le_of_ble_eq_true rfl⟩ hs rfl hP (fun F9 H9 l9 hp hP => ?_)
  obtain ⟨e9, o9⟩ := hp
  rw [show 4 * row + 2 = 2 + 4 * row by omega] at e9
  obtain ⟨w9, hw9⟩ : ∃ z, z = upd w6 (2 + 4 * row) (if (w6 (2 + 4 * row)) < (w6 (2 + 4 * orow)) then (w6 (2 + 4 * orow)) else (w6 (2 + 4 * row))) := ⟨_, rfl⟩
  rw [← hw9] at e9
  have hcj : F9 (cj) = rI G (L) (w9) := e9
  have hci := (o9 (ci) (by omega)).trans hci
  have hO : ∀ j, j ≠ cj → F9 j = F j := fun j hj => (o9 j (by omega)).trans (hO j hj)
  refine lv_iinc (v := (nI (3))) (lv' := [(4, .int (nI 3)), (0, rf G (ci)), (1, .int (nI (row))), (2, rf G (ci)), (3, .int (nI (orow)))]) X.1.1 X.1.2.1 dX1_join_33 hl (k := 0) rfl (by decide) (by decide) rfl (fun ls hl => ?_)
  refine lv_goto (tgt := 3) X.1.1 X.1.2.1 dX1_join_36 (by decide) ?_
  refine lv_iload X.1.1 X.1.2.1 dX1_join_3 (lv_at hl 0 rfl) ?_
  refine lv_iconst (v := nI 4) X.1.1 X.1.2.1 dX1_join_5 (by decide) ?_
  refine sx_icmp_ge X (by decide) (by decide) (tgt := 39) dX1_join_6 (by decide) (fun h => absurd h (by decide)) (fun _ => ?_)
  refine lv_aload_n X.1.1 X.1.2.1 dX1_join_9 rfl (lv_at hl 1 rfl) ?_
  refine lv_iload_n X.1.1 X.1.2.1 dX1_join_10 rfl (lv_at hl 2 rfl) ?_
  refine lv_iload X.1.1 X.1.2.1 dX1_join_11 (lv_at hl 0 rfl) ?_
  refine lv_aload_n X.1.1 X.1.2.1 dX1_join_13 rfl (lv_at hl 1 rfl) ?_
  refine lv_iload_n X.1.1 X.1.2.1 dX1_join_14 rfl (lv_at hl 2 rfl) ?_
  refine lv_iload X.1.1 X.1.2.1 dX1_join_15 (lv_at hl 0 rfl) ?_
  refine sx_cvI (As := [.int (nI (row)), .int (nI 3)]) (rest := .int (nI 3) :: .int (nI (row)) :: rf G (ci) :: []) X (mX1_number l (ci := ci) (cj := cj) (L := L) (row := row) (t := 3) (by omega) (by omega) (by omega) (by omega) (by omega) hci hcj) gX1_join_X1_number rfl yv_X1_number ⟨Nat.le_of_ble_eq_true rfl, Nat.le_of_ble_eq_true rfl⟩ hci (by omega) rfl rfl hl.1 rfl (Nat.le_of_ble_eq_true rfl) dX1_join_17 ⟨Nat.le_of_ble_eq_true rfl, Nat.le_of_ble_eq_true rfl⟩ hs rfl hP (fun r10 F10 H10 l10 hp hP => ?_)
  obtain ⟨rfl, rfl⟩ := hp
  rw [show w9 (4 * row + 3) = w9 (3 + 4 * row) from congrArg _ (by omega)]
  refine lv_aload_n X.1.1 X.1.2.1 dX1_join_20 rfl (lv_at hl 3 rfl) ?_
  refine lv_iload_n X.1.1 X.1.2.1 dX1_join_21 rfl (lv_at hl 4 rfl) ?_
  refine lv_iload X.1.1 X.1.2.1 dX1_join_22 (lv_at hl 0 rfl) ?_
  refine sx_cvI (As := [.int (nI (orow)), .int (nI 3)]) (rest := .int (w9 (3 + 4 * row)) :: .int (nI 3) :: .int (nI (row)) :: rf G (ci) :: []) X (mX1_number l (ci := ci) (cj := cj) (L := L) (row := orow) (t := 3) (by omega) (by omega) (by omega) (by omega) (by omega) hci hcj) gX1_join_X1_number rfl yv_X1_number ⟨Nat.le_of_ble_eq_true rfl, Nat.le_of_ble_eq_true rfl⟩ hci (by omega) rfl rfl hl.1 rfl (Nat.le_of_ble_eq_true rfl) dX1_join_24 ⟨Nat.le_of_ble_eq_true rfl, Nat.le_of_ble_eq_true rfl⟩ hs rfl hP (fun r11 F11 H11 l11 hp hP => ?_)
  obtain ⟨rfl, rfl⟩ := hp
  rw [show w9 (4 * orow + 3) = w9 (3 + 4 * orow) from congrArg _ (by omega)]
  refine sx_max X hl.1 lk_X1_join_methodLink_RX1_9_Lib_Math_max_name lk_X1_join_static_Lib_Math_max_name lk_X1_join_initialized_java_lang_Math lk_X1_join_code_Lib_Math_max_name_Lib_Math_max_code_2_some_int (Nat.le_of_ble_eq_true rfl) (Nat.le_of_ble_eq_true rfl) (Nat.le_of_ble_eq_true rfl) (Nat.le_of_ble_eq_true rfl) dX1_join_27 ?_
  refine sx_cvV (As := [.int (nI (row)), .int (nI 3), .int (if (w9 (3 + 4 * row)) < (w9 (3 + 4 * orow)) then (w9 (3 + 4 * orow)) else (w9 (3 + 4 * row)))]) (rest := []) X (mX1_set l (ci := ci) (cj := cj) (L := L) (row := row) (t := 3) (v := (if (w9 (3 + 4 * row)) < (w9 (3 + 4 * orow)) then (w9 (3 + 4 * orow)) else (w9 (3 + 4 * row)))) (by omega) (by omega) (by omega) (by omega) (by omega) hci hcj) gX1_join_X1_set rfl yv_X1_set ⟨Nat.le_of_ble_eq_true rfl, Nat.le_of_ble_eq_true rfl⟩ hci (by omega) rfl rfl hl.1 rfl (Nat.le_of_ble_eq_true rfl) dX1_join_30 ⟨Nat.le_of_ble_eq_true rfl, Nat.le_of_ble_eq_true rfl⟩ hs rfl hP (fun F12 H12 l12 hp hP => ?_)
  obtain ⟨e12, o12⟩ := hp
  rw [show 4 * row + 3 = 3 + 4 * row by omega] at e12
  obtain ⟨w12, hw12⟩ : ∃ z, z = upd w9 (3 + 4 * row) (if (w9 (3 + 4 * row)) < (w9 (3 + 4 * orow)) then (w9 (3 + 4 * orow)) else (w9 (3 + 4 * row))) := ⟨_, rfl⟩
  rw [← hw12] at e12
  have hcj : F12 (cj) = rI G (L) (w12) := e12
  have hci := (o12 (ci) (by omega)).trans hci
  have hO : ∀ j, j ≠ cj → F12 j = F j := fun j hj => (o12 j (by omega)).trans (hO j hj)
  refine lv_iinc (v := (nI (4))) (lv' := [(4, .int (nI 4)), (0, rf G (ci)), (1, .int (nI (row))), (2, rf G (ci)), (3, .int (nI (orow)))]) X.1.1 X.1.2.1 dX1_join_33 hl (k := 0) rfl (by decide) (by decide) rfl (fun ls hl => ?_)
  refine lv_goto (tgt := 3) X.1.1 X.1.2.1 dX1_join_36 (by decide) ?_
  refine lv_iload X.1.1 X.1.2.1 dX1_join_3 (lv_at hl 0 rfl) ?_
  refine lv_iconst (v := nI 4) X.1.1 X.1.2.1 dX1_join_5 (by decide) ?_
  refine sx_icmp_ge X (by decide) (by decide) (tgt := 39) dX1_join_6 (by decide) (fun _ => ?_) (fun h => absurd h (by decide))
  rw [hQ]
  exact sx_vret X rfl hs rfl hP dX1_join_39 (⟨hcj.trans (by rw [hw12, hw9, hw6, hw3]; rfl), hO⟩)
theorem ys_X1_copyRow : yX1_copyRow.cls ≠ "java/lang/invoke/MethodHandle" ∧ yX1_copyRow.cls ≠ "java/lang/invoke/VarHandle" ∧ (parseMethodDescriptor yX1_copyRow.desc).map (fun d => d.parameters.length) = some 3 := by decide +kernel
theorem yv_X1_copyRow : yX1_copyRow.cls = RX1 ∧ yX1_copyRow.cls ≠ "java/lang/invoke/MethodHandle" ∧ yX1_copyRow.cls ≠ "java/lang/invoke/VarHandle" ∧ (parseMethodDescriptor yX1_copyRow.desc).map (fun d => d.parameters.length) = some 3 := ⟨rfl, ys_X1_copyRow⟩
theorem in_X1_copyRow_X1 : ∀ w ∈ wsX10, w ∈ wsX1_copyRow := fun _ h => List.mem_cons_of_mem _ (List.mem_append_right _ (h))
theorem lk_X1_copyRow_fieldLink_RX1_21_RaceWatch_Clocks_numbers_I : (.fieldLink RX1 21 "RaceWatch$Clocks" "numbers" "[I" : Cond) ∈ wsX1_copyRow := List.mem_cons_of_mem _ (List.mem_append_left _ (List.mem_of_getElem? (i := 0) rfl))
theorem lk_X1_copyRow_methodLink_RX1_32_arraycopyName : (.methodLink RX1 32 arraycopyName : Cond) ∈ wsX1_copyRow := List.mem_cons_of_mem _ (List.mem_append_left _ (List.mem_of_getElem? (i := 1) rfl))
theorem lk_X1_copyRow_native_arraycopyName : (.native arraycopyName : Cond) ∈ wsX1_copyRow := List.mem_cons_of_mem _ (List.mem_append_left _ (List.mem_of_getElem? (i := 2) rfl))
theorem lk_X1_copyRow_static_arraycopyName : (.static arraycopyName : Cond) ∈ wsX1_copyRow := List.mem_cons_of_mem _ (List.mem_append_left _ (List.mem_of_getElem? (i := 3) rfl))
theorem lk_X1_copyRow_initialized_java_lang_System : (.initialized "java/lang/System" : Cond) ∈ wsX1_copyRow := List.mem_cons_of_mem _ (List.mem_append_left _ (List.mem_of_getElem? (i := 4) rfl))
abbrev rmX1_copyRow : Room := { frames := 1, cells := 0, slots := 0, locals := 60 }
set_option maxHeartbeats 800000 in
set_option maxRecDepth 100000 in
theorem mX1_copyRow {G : sx_G} (l : Launch) {F : Nat → va_E} {n ci cj ck cl L M row orow : Nat} {rr r2 : Value} {g h : Nat → Int32}  (lci : ci < n) (lcj : cj < n) (lck : ck < n) (lcl : cl < n) (lL : L < 2 ^ 31) (lM : M < 2 ^ 31) (n1 : ci ≠ cj) (n2 : ck ≠ cj) (n3 : cl ≠ cj) (n4 : ck ≠ cl) (hx : 4 * row + 3 < L) (hy : 4 * orow + 3 < M) (hci : F (ci) = ob 1 ([rr, rf G (cj)])) (hcj : F (cj) = rI G (L) (g)) (hck : F (ck) = ob 1 ([r2, rf G (cl)])) (hcl : F (cl) = rI G (M) (h)) : sx_V G l yX1_copyRow wsX1_copyRow rmX1_copyRow [rf G (ci), .int (nI (row)), rf G (ck), .int (nI (orow))] (n) F (n) (fun F1 => F1 cj = rI G L (va_cpy h g (4 * orow) (4 * row) 4) ∧ ∀ j, j ≠ cj → F1 j = F j) := by
  refine sx_enter (cc := cX1_copyRow) (maxL := 4) (ret := none) (own := RX1) (nm := "copyRow") (by decide) rfl rfl rfl (Nat.le_of_ble_eq_true rfl) ?_
  intro pp ee ss mm args below meth kc ls Q hQ X hs hP hl
  have hl : lv_has ls 4 [(0, rf G (ci)), (1, .int (nI (row))), (2, rf G (ck)), (3, .int (nI (orow)))] := hl
  have hO : ∀ j, j ≠ cj → F j = F j := fun _ _ => rfl
  refine lv_aload_n X.1.1 X.1.2.1 dX1_copyRow_0 rfl (lv_at hl 2 rfl) ?_
  refine sx_get X hP in_X1_copyRow_X1 hck (by omega) rfl 1 (by decide) lk_X1_copyRow_fieldLink_RX1_21_RaceWatch_Clocks_numbers_I rfl dX1_copyRow_1 ?_
  refine lv_iload_n X.1.1 X.1.2.1 dX1_copyRow_4 rfl (lv_at hl 3 rfl) ?_
  refine lv_iconst (v := nI 4) X.1.1 X.1.2.1 dX1_copyRow_5 (by decide) ?_
  refine sx_mulN X (4 * orow) (by omega) dX1_copyRow_6 ?_
  refine lv_aload_n X.1.1 X.1.2.1 dX1_copyRow_7 rfl (lv_at hl 0 rfl) ?_
  refine sx_get X hP in_X1_copyRow_X1 hci (by omega) rfl 1 (by decide) lk_X1_copyRow_fieldLink_RX1_21_RaceWatch_Clocks_numbers_I rfl dX1_copyRow_8 ?_
  refine lv_iload_n X.1.1 X.1.2.1 dX1_copyRow_11 rfl (lv_at hl 1 rfl) ?_
  refine lv_iconst (v := nI 4) X.1.1 X.1.2.1 dX1_copyRow_12 (by decide) ?_
  refine sx_mulN X (4 * row) (by omega) dX1_copyRow_13 ?_
  refine lv_iconst (v := nI 4) X.1.1 X.1.2.1 dX1_copyRow_14 (by decide) ?_
  refine sx_copy X hP hl.1 lk_X1_copyRow_methodLink_RX1_32_arraycopyName lk_X1_copyRow_native_arraycopyName lk_X1_copyRow_static_arraycopyName lk_X1_copyRow_initialized_java_lang_System hcl hcj (by omega) (by omega) (4 * orow) (4 * row) (4) (by omega) (by omega) (by omega) (by omega) (Nat.le_of_ble_eq_true rfl) (Nat.le_of_ble_eq_true rfl) dX1_copyRow_15 (fun F1 H1 l1 e1 o1 hP => ?_)
  obtain ⟨w1, hw1⟩ : ∃ z, z = va_cpy h g (4 * orow) (4 * row) (4) := ⟨_, rfl⟩
  rw [← hw1] at e1
  have hcj : F1 (cj) = rI G (L) (w1) := e1
  have hci := (o1 (ci) (by omega)).trans hci
  have hck := (o1 (ck) (by omega)).trans hck
  have hcl := (o1 (cl) (by omega)).trans hcl
  have hO : ∀ j, j ≠ cj → F1 j = F j := fun j hj => (o1 j (by omega)).trans (hO j hj)
  rw [hQ]
  exact sx_vret X rfl hs rfl hP dX1_copyRow_18 (⟨hcj.trans (by rw [hw1]), hO⟩)
theorem ys_X1_copyRows : yX1_copyRows.cls ≠ "java/lang/invoke/MethodHandle" ∧ yX1_copyRows.cls ≠ "java/lang/invoke/VarHandle" ∧ (parseMethodDescriptor yX1_copyRows.desc).map (fun d => d.parameters.length) = some 2 := by decide +kernel
theorem yv_X1_copyRows : yX1_copyRows.cls = RX1 ∧ yX1_copyRows.cls ≠ "java/lang/invoke/MethodHandle" ∧ yX1_copyRows.cls ≠ "java/lang/invoke/VarHandle" ∧ (parseMethodDescriptor yX1_copyRows.desc).map (fun d => d.parameters.length) = some 2 := ⟨rfl, ys_X1_copyRows⟩
theorem in_X1_copyRows_X1 : ∀ w ∈ wsX10, w ∈ wsX1_copyRows := fun _ h => List.mem_cons_of_mem _ (List.mem_append_right _ (h))
theorem lk_X1_copyRows_fieldLink_RX1_21_RaceWatch_Clocks_numbers_I : (.fieldLink RX1 21 "RaceWatch$Clocks" "numbers" "[I" : Cond) ∈ wsX1_copyRows := List.mem_cons_of_mem _ (List.mem_append_left _ (List.mem_of_getElem? (i := 0) rfl))
theorem lk_X1_copyRows_methodLink_RX1_32_arraycopyName : (.methodLink RX1 32 arraycopyName : Cond) ∈ wsX1_copyRows := List.mem_cons_of_mem _ (List.mem_append_left _ (List.mem_of_getElem? (i := 1) rfl))
theorem lk_X1_copyRows_native_arraycopyName : (.native arraycopyName : Cond) ∈ wsX1_copyRows := List.mem_cons_of_mem _ (List.mem_append_left _ (List.mem_of_getElem? (i := 2) rfl))
theorem lk_X1_copyRows_static_arraycopyName : (.static arraycopyName : Cond) ∈ wsX1_copyRows := List.mem_cons_of_mem _ (List.mem_append_left _ (List.mem_of_getElem? (i := 3) rfl))
theorem lk_X1_copyRows_initialized_java_lang_System : (.initialized "java/lang/System" : Cond) ∈ wsX1_copyRows := List.mem_cons_of_mem _ (List.mem_append_left _ (List.mem_of_getElem? (i := 4) rfl))
abbrev rmX1_copyRows : Room := { frames := 1, cells := 0, slots := 0, locals := 60 }
set_option maxHeartbeats 800000 in
set_option maxRecDepth 100000 in
theorem mX1_copyRows {G : sx_G} (l : Launch) {F : Nat → va_E} {n ci cj ck cl L M cnt : Nat} {rr r2 : Value} {g h : Nat → Int32}  (lci : ci < n) (lcj : cj < n) (lck : ck < n) (lcl : cl < n) (lL : L < 2 ^ 31) (lM : M < 2 ^ 31) (n1 : ci ≠ cj) (n2 : ck ≠ cj) (n3 : cl ≠ cj) (n4 : ck ≠ cl) (hx : 4 * cnt ≤ L) (hy : 4 * cnt ≤ M) (hci : F (ci) = ob 1 ([rr, rf G (cj)])) (hcj : F (cj) = rI G (L) (g)) (hck : F (ck) = ob 1 ([r2, rf G (cl)])) (hcl : F (cl) = rI G (M) (h)) : sx_V G l yX1_copyRows wsX1_copyRows rmX1_copyRows [rf G (ci), rf G (ck), .int (nI (cnt))] (n) F (n) (fun F1 => F1 cj = rI G L (va_cpy h g 0 0 (4 * cnt)) ∧ ∀ j, j ≠ cj → F1 j = F j) := by
  refine sx_enter (cc := cX1_copyRows) (maxL := 3) (ret := none) (own := RX1) (nm := "copyRows") (by decide) rfl rfl rfl (Nat.le_of_ble_eq_true rfl) ?_
  intro pp ee ss mm args below meth kc ls Q hQ X hs hP hl
  have hl : lv_has ls 3 [(0, rf G (ci)), (1, rf G (ck)), (2, .int (nI (cnt)))] := hl
  have hO : ∀ j, j ≠ cj → F j = F j := fun _ _ => rfl
  refine lv_aload_n X.1.1 X.1.2.1 dX1_copyRows_0 rfl (lv_at hl 1 rfl) ?_
  refine sx_get X hP in_X1_copyRows_X1 hck (by omega) rfl 1 (by decide) lk_X1_copyRows_fieldLink_RX1_21_RaceWatch_Clocks_numbers_I rfl dX1_copyRows_1 ?_
  refine lv_iconst (v := nI 0) X.1.1 X.1.2.1 dX1_copyRows_4 (by decide) ?_
  refine lv_aload_n X.1.1 X.1.2.1 dX1_copyRows_5 rfl (lv_at hl 0 rfl) ?_
  refine sx_get X hP in_X1_copyRows_X1 hci (by omega) rfl 1 (by decide) lk_X1_copyRows_fieldLink_RX1_21_RaceWatch_Clocks_numbers_I rfl dX1_copyRows_6 ?_
  refine lv_iconst (v := nI 0) X.1.1 X.1.2.1 dX1_copyRows_9 (by decide) ?_
  refine lv_iload_n X.1.1 X.1.2.1 dX1_copyRows_10 rfl (lv_at hl 2 rfl) ?_
  refine lv_iconst (v := nI 4) X.1.1 X.1.2.1 dX1_copyRows_11 (by decide) ?_
  refine sx_mulN X (4 * cnt) (by omega) dX1_copyRows_12 ?_
  refine sx_copy X hP hl.1 lk_X1_copyRows_methodLink_RX1_32_arraycopyName lk_X1_copyRows_native_arraycopyName lk_X1_copyRows_static_arraycopyName lk_X1_copyRows_initialized_java_lang_System hcl hcj (by omega) (by omega) (0) (0) (4 * cnt) (by omega) (by omega) (by omega) (by omega) (Nat.le_of_ble_eq_true rfl) (Nat.le_of_ble_eq_true rfl) dX1_copyRows_13 (fun F1 H1 l1 e1 o1 hP => ?_)
  obtain ⟨w1, hw1⟩ : ∃ z, z = va_cpy h g (0) (0) (4 * cnt) := ⟨_, rfl⟩
  rw [← hw1] at e1
  have hcj : F1 (cj) = rI G (L) (w1) := e1
  have hci := (o1 (ci) (by omega)).trans hci
  have hck := (o1 (ck) (by omega)).trans hck
  have hcl := (o1 (cl) (by omega)).trans hcl
  have hO : ∀ j, j ≠ cj → F1 j = F j := fun j hj => (o1 j (by omega)).trans (hO j hj)
  rw [hQ]
  exact sx_vret X rfl hs rfl hP dX1_copyRows_16 (⟨hcj.trans (by rw [hw1]), hO⟩)
theorem ys_X1_clear : yX1_clear.cls ≠ "java/lang/invoke/MethodHandle" ∧ yX1_clear.cls ≠ "java/lang/invoke/VarHandle" ∧ (parseMethodDescriptor yX1_clear.desc).map (fun d => d.parameters.length) = some 0 := by decide +kernel
theorem yv_X1_clear : yX1_clear.cls = RX1 ∧ yX1_clear.cls ≠ "java/lang/invoke/MethodHandle" ∧ yX1_clear.cls ≠ "java/lang/invoke/VarHandle" ∧ (parseMethodDescriptor yX1_clear.desc).map (fun d => d.parameters.length) = some 0 := ⟨rfl, ys_X1_clear⟩
theorem in_X1_clear_X1 : ∀ w ∈ wsX10, w ∈ wsX1_clear := fun _ h => List.mem_cons_of_mem _ (List.mem_append_right _ (h))
theorem lk_X1_clear_fieldLink_RX1_21_RaceWatch_Clocks_numbers_I : (.fieldLink RX1 21 "RaceWatch$Clocks" "numbers" "[I" : Cond) ∈ wsX1_clear := List.mem_cons_of_mem _ (List.mem_append_left _ (List.mem_of_getElem? (i := 0) rfl))
abbrev rmX1_clear : Room := { frames := 1, cells := 0, slots := 0, locals := 23 }
set_option maxHeartbeats 800000 in
set_option maxRecDepth 100000 in
theorem mX1_clear {G : sx_G} (l : Launch) {F : Nat → va_E} {n ci cj L : Nat} {rr : Value} {g : Nat → Int32}  (lci : ci < n) (lcj : cj < n) (lL : L < 2 ^ 31) (nij : ci ≠ cj) (hci : F (ci) = ob 1 ([rr, rf G (cj)])) (hcj : F (cj) = rI G (L) (g)) : sx_V G l yX1_clear wsX1_clear rmX1_clear [rf G (ci)] (n) F (n) (fun F1 => ∃ g1, F1 cj = rI G L g1 ∧ (∀ k, k < L → g1 k = nI 0) ∧ ∀ j, j ≠ cj → F1 j = F j) := by
  refine sx_enter (cc := cX1_clear) (maxL := 1) (ret := none) (own := RX1) (nm := "clear") (by decide) rfl rfl rfl (Nat.le_of_ble_eq_true rfl) ?_
  intro pp ee ss mm args below meth kc ls Q hQ X hs hP hl
  have hl : lv_has ls 1 [(0, rf G (ci))] := hl
  have hO : ∀ j, j ≠ cj → F j = F j := fun _ _ => rfl
  refine lv_aload_n X.1.1 X.1.2.1 dX1_clear_0 rfl (lv_at hl 0 rfl) ?_
  refine sx_get X hP in_X1_clear_X1 hci (by omega) rfl 1 (by decide) lk_X1_clear_fieldLink_RX1_21_RaceWatch_Clocks_numbers_I rfl dX1_clear_1 ?_
  refine lv_iconst (v := nI 0) X.1.1 X.1.2.1 dX1_clear_4 (by decide) ?_
  refine sx_csV (As := [rf G (cj), .int (nI 0)]) (rest := []) X (mJ7_fill_53178 l (cj := cj) (L := L) (v := (nI (0))) (by omega) (by omega) hcj) gX1_clear_J7_fill_53178 rfl ys_J7_fill_53178 ⟨Nat.le_of_ble_eq_true rfl, Nat.le_of_ble_eq_true rfl⟩ hl.1 rfl (Nat.le_of_ble_eq_true rfl) dX1_clear_5 ⟨Nat.le_of_ble_eq_true rfl, Nat.le_of_ble_eq_true rfl⟩ hs rfl hP (fun F1 H1 l1 hp hP => ?_)
  obtain ⟨w1, e1, hz1, o1⟩ := hp
  have hcj : F1 (cj) = rI G (L) (w1) := e1
  have hci := (o1 (ci) (by omega)).trans hci
  have hO : ∀ j, j ≠ cj → F1 j = F j := fun j hj => (o1 j (by omega)).trans (hO j hj)
  rw [hQ]
  exact sx_vret X rfl hs rfl hP dX1_clear_8 (⟨_, hcj, hz1, hO⟩)
