theorem wrF_flds {w : Nat → Int32} {t c : Nat} (ht : t < 4) : wrF w t c (43 + 12 * c) = nI t ∧ wrF w t c (44 + 12 * c) = w (4 + 5 * t) ∧ wrF w t c (45 + 12 * c) = -1 ∧ wrF w t c (46 + 12 * c) = nI 0 ∧ wrF w t c (47 + 12 * c) = nI 0 ∧ wrF w t c (52 + 12 * c) = w (52 + 12 * c) ∧ wrF w t c (53 + 12 * c) = w (53 + 12 * c) ∧ wrF w t c (54 + 12 * c) = w (54 + 12 * c) ∧ ∀ k, k < 4 → wrF w t c (48 + 12 * c + k) = nI 0 := by
  unfold wrF
  refine ⟨?_, ?_, ?_, ?_, ?_, ?_, ?_, ?_, ?_⟩
  · rw [pk_un (by omega), pk_un (by omega), pk_un (by omega), pk_un (by omega), pk_un (by omega), pk_un (by omega), pk_un (by omega), pk_un (by omega), pk_us]
  · rw [pk_un (by omega), pk_un (by omega), pk_un (by omega), pk_un (by omega), pk_un (by omega), pk_un (by omega), pk_un (by omega), pk_us, pk_un (by omega)]
  · rw [pk_un (by omega), pk_un (by omega), pk_un (by omega), pk_un (by omega), pk_un (by omega), pk_un (by omega), pk_us]
  · rw [pk_un (by omega), pk_un (by omega), pk_un (by omega), pk_un (by omega), pk_un (by omega), pk_us]
  · rw [pk_un (by omega), pk_un (by omega), pk_un (by omega), pk_un (by omega), pk_us]
  · rw [pk_un (by omega), pk_un (by omega), pk_un (by omega), pk_un (by omega), pk_un (by omega), pk_un (by omega), pk_un (by omega), pk_un (by omega), pk_un (by omega)]
  · rw [pk_un (by omega), pk_un (by omega), pk_un (by omega), pk_un (by omega), pk_un (by omega), pk_un (by omega), pk_un (by omega), pk_un (by omega), pk_un (by omega)]
  · rw [pk_un (by omega), pk_un (by omega), pk_un (by omega), pk_un (by omega), pk_un (by omega), pk_un (by omega), pk_un (by omega), pk_un (by omega), pk_un (by omega)]
  · intro k hk
    rcases (show k = 0 ∨ k = 1 ∨ k = 2 ∨ k = 3 by omega) with rfl | rfl | rfl | rfl
    · rw [show 48 + 12 * c + 0 = 48 + 12 * c by omega, pk_un (by omega), pk_un (by omega), pk_un (by omega), pk_us]
    · rw [show 48 + 12 * c + 1 = 49 + 12 * c by omega, pk_un (by omega), pk_un (by omega), pk_us]
    · rw [show 48 + 12 * c + 2 = 50 + 12 * c by omega, pk_un (by omega), pk_us]
    · rw [show 48 + 12 * c + 3 = 51 + 12 * c by omega, pk_us]
theorem ys_X2_access : yX2_access.cls ≠ "java/lang/invoke/MethodHandle" ∧ yX2_access.cls ≠ "java/lang/invoke/VarHandle" ∧ (parseMethodDescriptor yX2_access.desc).map (fun d => d.parameters.length) = some 5 := by decide +kernel
theorem yv_X2_access : yX2_access.cls = RX2 ∧ yX2_access.cls ≠ "java/lang/invoke/MethodHandle" ∧ yX2_access.cls ≠ "java/lang/invoke/VarHandle" ∧ (parseMethodDescriptor yX2_access.desc).map (fun d => d.parameters.length) = some 5 := ⟨rfl, ys_X2_access⟩
theorem in_X2_access_X2 : ∀ w ∈ wsX20, w ∈ wsX2_access := fun _ h => List.mem_cons_of_mem _ (List.mem_append_left _ (List.mem_append_right _ (h)))
theorem lk_X2_access_fieldLink_RX2_34_RaceWatch_Kept_guards_I : (.fieldLink RX2 34 "RaceWatch$Kept" "guards" "I" : Cond) ∈ wsX2_access := List.mem_cons_of_mem _ (List.mem_append_left _ (List.mem_append_left _ (List.mem_append_left _ (List.mem_of_getElem? (i := 2) rfl))))
theorem lk_X2_access_fieldLink_RX2_28_RaceWatch_Kept_firstEvent_I : (.fieldLink RX2 28 "RaceWatch$Kept" "firstEvent" "I" : Cond) ∈ wsX2_access := List.mem_cons_of_mem _ (List.mem_append_left _ (List.mem_append_left _ (List.mem_append_left _ (List.mem_of_getElem? (i := 0) rfl))))
theorem lk_X2_access_fieldLink_RX2_31_RaceWatch_Kept_firstKind_I : (.fieldLink RX2 31 "RaceWatch$Kept" "firstKind" "I" : Cond) ∈ wsX2_access := List.mem_cons_of_mem _ (List.mem_append_left _ (List.mem_append_left _ (List.mem_append_left _ (List.mem_of_getElem? (i := 1) rfl))))
theorem lk_X2_access_fieldLink_RX2_15_RaceWatch_Kept_writer_I : (.fieldLink RX2 15 "RaceWatch$Kept" "writer" "I" : Cond) ∈ wsX2_access := List.mem_cons_of_mem _ (List.mem_append_left _ (List.mem_append_left _ (List.mem_append_left _ (List.mem_of_getElem? (i := 3) rfl))))
theorem lk_X2_access_fieldLink_RX2_19_RaceWatch_Kept_writeNumber_I : (.fieldLink RX2 19 "RaceWatch$Kept" "writeNumber" "I" : Cond) ∈ wsX2_access := List.mem_cons_of_mem _ (List.mem_append_left _ (List.mem_append_left _ (List.mem_append_left _ (List.mem_of_getElem? (i := 4) rfl))))
abbrev rmX2_access : Room := { frames := 3, cells := 0, slots := 0, locals := 69 }
set_option maxHeartbeats 800000 in
set_option maxRecDepth 100000 in
theorem mX2_access {G : sx_G} (l : Launch) {F : Nat → va_E} {n ki kj ci cj t c : Nat} {rr : Value} {w nr g : Nat → Int32} {gd : Int32} {wr m : Nat} {lk : Int32}  (lki : ki < n) (lkj : kj < n) (lci : ci < n) (lcj : cj < n) (m1 : ki ≠ kj) (m2 : ci ≠ ki) (m3 : ci ≠ kj) (m4 : cj ≠ ki) (m5 : cj ≠ kj) (m6 : ci ≠ cj) (ht : t < 4) (hc : c < 4) (hok : okC w c) (hnr : ∀ k, k < 4 → nr k = w (48 + 12 * c + k)) (hg : ∀ k, k < 16 → g k = w (4 + k)) (hwr : wr < 2) (h91m : w 91 = nI m) (hki : F (ki) = ob 2 ([.int (w (43 + 12 * c)), .int (w (44 + 12 * c)), .int (w (45 + 12 * c)), .int (w (46 + 12 * c)), .int (w (47 + 12 * c)), rf G (kj), .int (w (52 + 12 * c)), .int (w (53 + 12 * c)), .int (w (54 + 12 * c)), .int (gd)])) (hkj : F (kj) = rI G (4) (nr)) (hci : F (ci) = ob 1 ([rr, rf G (cj)])) (hcj : F (cj) = rI G (16) (g)) : sx_V G l yX2_access wsX2_access rmX2_access [rf G (ki), .int (nI (wr)), rf G (ci), .int (nI (t)), .int (nI (m)), .int (lk)] (n) F (n) (fun F1 => F1 ki = ob 2 ([.int (accF w t c wr (43 + 12 * c)), .int (accF w t c wr (44 + 12 * c)), .int (accF w t c wr (45 + 12 * c)), .int (accF w t c wr (46 + 12 * c)), .int (accF w t c wr (47 + 12 * c)), rf G (kj), .int (accF w t c wr (52 + 12 * c)), .int (accF w t c wr (53 + 12 * c)), .int (accF w t c wr (54 + 12 * c)), .int (gd &&& lk)]) ∧ (∃ n1, F1 kj = rI G 4 n1 ∧ ∀ k, k < 4 → n1 k = accF w t c wr (48 + 12 * c + k)) ∧ ∀ j, j ≠ ki ∧ j ≠ kj → F1 j = F j) := by
  refine sx_enter (cc := cX2_access) (maxL := 7) (ret := none) (own := RX2) (nm := "access") (by decide) rfl rfl rfl (Nat.le_of_ble_eq_true rfl) ?_
  intro pp ee ss mm args below meth kc ls Q hQ X hs hP hl
  have hl : lv_has ls 7 [(0, rf G (ki)), (1, .int (nI (wr))), (2, rf G (ci)), (3, .int (nI (t))), (4, .int (nI (m))), (5, .int (lk))] := hl
  have hO : ∀ j, j ≠ ki ∧ j ≠ kj → F j = F j := fun _ _ => rfl
  rcases (show wr = 0 ∨ wr = 1 by omega) with rfl | rfl
  · refine lv_aload_n X.1.1 X.1.2.1 dX2_access_0 rfl (lv_at hl 0 rfl) ?_
    refine lv_iload_n X.1.1 X.1.2.1 dX2_access_1 rfl (lv_at hl 1 rfl) ?_
    refine lv_aload_n X.1.1 X.1.2.1 dX2_access_2 rfl (lv_at hl 2 rfl) ?_
    refine lv_iload_n X.1.1 X.1.2.1 dX2_access_3 rfl (lv_at hl 3 rfl) ?_
    refine sx_cvI (As := [.int (nI 0), rf G (ci), .int (nI (t))]) (rest := []) X (mX2_kindOf l (ki := ki) (kj := kj) (ci := ci) (cj := cj) (t := t) (c := c) lki lkj lci lcj m1 m2 m3 m4 m5 m6 ht hc hok hnr hg (wr := 0) (by omega) hki hkj hci hcj) gX2_access_X2_kindOf rfl yv_X2_kindOf ⟨Nat.le_of_ble_eq_true rfl, Nat.le_of_ble_eq_true rfl⟩ hki (by omega) rfl rfl hl.1 rfl (Nat.le_of_ble_eq_true rfl) dX2_access_4 ⟨Nat.le_of_ble_eq_true rfl, Nat.le_of_ble_eq_true rfl⟩ hs rfl hP (fun r1 F1 H1 l1 hp hP => ?_)
    obtain ⟨rfl, rfl⟩ := hp
    refine lv_istore (lv' := [(6, .int (kindF w t c 0)), (0, rf G (ki)), (1, .int (nI 0)), (2, rf G (ci)), (3, .int (nI (t))), (4, .int (nI (m))), (5, .int (lk))]) X.1.1 X.1.2.1 dX2_access_7 hl (by decide) rfl (fun ls hl => ?_)
    refine lv_iload X.1.1 X.1.2.1 dX2_access_9 (lv_at hl 0 rfl) ?_
    refine lv_iconst (v := (-1)) X.1.1 X.1.2.1 dX2_access_11 (by decide) ?_
    refine lv_icmp_eq X.1.1 X.1.2.1 (tgt := 35) dX2_access_12 (by decide) (fun c12 => ?_) (fun c12 => ?_)
    · refine lv_aload_n X.1.1 X.1.2.1 dX2_access_35 rfl (lv_at hl 1 rfl) ?_
      refine lv_dup X.1.1 X.1.2.1 dX2_access_36 rfl ?_
      refine sx_get X hP in_X2_access_X2 hki (by omega) rfl 9 (by decide) lk_X2_access_fieldLink_RX2_34_RaceWatch_Kept_guards_I rfl dX2_access_37 ?_
      refine lv_iload X.1.1 X.1.2.1 dX2_access_40 (lv_at hl 6 rfl) ?_
      refine lv_iand X.1.1 X.1.2.1 dX2_access_42 ?_
      refine sx_put X hP in_X2_access_X2 tyX2 tyX2_ok nmX2 hki (by omega) rfl 9 (by decide) lk_X2_access_fieldLink_RX2_34_RaceWatch_Kept_guards_I rfl rfl rfl (Nat.le_of_ble_eq_true rfl) dX2_access_43 (fun F2 H2 l2 e2 o2 hP => ?_)
      have hki : F2 (ki) = ob 2 ([.int (w (43 + 12 * c)), .int (w (44 + 12 * c)), .int (w (45 + 12 * c)), .int (w (46 + 12 * c)), .int (w (47 + 12 * c)), rf G (kj), .int (w (52 + 12 * c)), .int (w (53 + 12 * c)), .int (w (54 + 12 * c)), .int ((gd) &&& (lk))]) := e2
      have hkj := (o2 (kj) (by omega)).trans hkj
      have hci := (o2 (ci) (by omega)).trans hci
      have hcj := (o2 (cj) (by omega)).trans hcj
      have hO : ∀ j, j ≠ ki ∧ j ≠ kj → F2 j = F j := fun j hj => (o2 j (by omega)).trans (hO j hj)
      refine lv_iload_n X.1.1 X.1.2.1 dX2_access_46 rfl (lv_at hl 2 rfl) ?_
      refine sx_if_eq X (by decide) (tgt := 72) dX2_access_47 (by decide) (fun _ => ?_) (fun h => absurd h (by decide))
      refine lv_aload_n X.1.1 X.1.2.1 dX2_access_72 rfl (lv_at hl 1 rfl) ?_
      refine lv_aload_n X.1.1 X.1.2.1 dX2_access_73 rfl (lv_at hl 3 rfl) ?_
      refine lv_iload_n X.1.1 X.1.2.1 dX2_access_74 rfl (lv_at hl 4 rfl) ?_
      obtain ⟨w1, hw1⟩ : ∃ z, z = w := ⟨_, rfl⟩
      have hE1 : firstF w c (kindF w t c 0) = w1 := by rw [hw1]; unfold firstF; rw [cif_f (fun q => q.1 c12)]
      have hki : F2 ki = ob 2 ([.int (w1 (43 + 12 * c)), .int (w1 (44 + 12 * c)), .int (w1 (45 + 12 * c)), .int (w1 (46 + 12 * c)), .int (w1 (47 + 12 * c)), rf G (kj), .int (w1 (52 + 12 * c)), .int (w1 (53 + 12 * c)), .int (w1 (54 + 12 * c)), .int ((gd) &&& (lk))]) := hki.trans (by rw [hw1])
      have hok1 : okC w1 c := by rw [hw1]; exact hok
      have hnr1 : ∀ k, k < 4 → nr k = w1 (48 + 12 * c + k) := fun k hk => by rw [hw1]; exact hnr k hk
      have hg1 : ∀ k, k < 16 → g k = w1 (4 + k) := fun k hk => by rw [hw1]; exact hg k hk
      refine sx_cvV (As := [rf G (ci), .int (nI (t))]) (rest := []) X (mX2_keepRead l (ki := ki) (kj := kj) (ci := ci) (cj := cj) (t := t) (c := c) lki lkj lci lcj m1 m2 m3 m4 m5 m6 ht hc hok1 hnr1 hg1 hki hkj hci hcj) gX2_access_X2_keepRead rfl yv_X2_keepRead ⟨Nat.le_of_ble_eq_true rfl, Nat.le_of_ble_eq_true rfl⟩ hki (by omega) rfl rfl hl.1 rfl (Nat.le_of_ble_eq_true rfl) dX2_access_75 ⟨Nat.le_of_ble_eq_true rfl, Nat.le_of_ble_eq_true rfl⟩ hs rfl hP (fun F3 H3 l3 hp hP => ?_)
      obtain ⟨e3, ⟨n3, f3, hz3⟩, o3⟩ := hp
      have hki : F3 (ki) = ob 2 ([.int (readF w1 t c (43 + 12 * c)), .int (readF w1 t c (44 + 12 * c)), .int (readF w1 t c (45 + 12 * c)), .int (readF w1 t c (46 + 12 * c)), .int (readF w1 t c (47 + 12 * c)), rf G (kj), .int (readF w1 t c (52 + 12 * c)), .int (readF w1 t c (53 + 12 * c)), .int (readF w1 t c (54 + 12 * c)), .int ((gd) &&& (lk))]) := e3
      have hkj : F3 (kj) = rI G (4) (n3) := f3
      have hci := (o3 (ci) (by omega)).trans hci
      have hcj := (o3 (cj) (by omega)).trans hcj
      have hO : ∀ j, j ≠ ki ∧ j ≠ kj → F3 j = F j := fun j hj => (o3 j (by omega)).trans (hO j hj)
      have hE : accF w t c 0 = readF w1 t c := by unfold accF; rw [cif_t (show (0 : Nat) = 0 from rfl), hE1]
      rw [hQ]
      exact sx_vret X rfl hs rfl hP dX2_access_78 (⟨by rw [hE]; exact hki, ⟨_, hkj, fun k hk => by rw [hE]; exact hz3 k hk⟩, hO⟩)
    · refine lv_aload_n X.1.1 X.1.2.1 dX2_access_15 rfl (lv_at hl 1 rfl) ?_
      refine sx_get X hP in_X2_access_X2 hki (by omega) rfl 7 (by decide) lk_X2_access_fieldLink_RX2_28_RaceWatch_Kept_firstEvent_I rfl dX2_access_16 ?_
      refine lv_iconst (v := (-1)) X.1.1 X.1.2.1 dX2_access_19 (by decide) ?_
      refine lv_icmp_ne X.1.1 X.1.2.1 (tgt := 35) dX2_access_20 (by decide) (fun c20 => ?_) (fun c20 => ?_)
      · refine lv_aload_n X.1.1 X.1.2.1 dX2_access_35 rfl (lv_at hl 1 rfl) ?_
        refine lv_dup X.1.1 X.1.2.1 dX2_access_36 rfl ?_
        refine sx_get X hP in_X2_access_X2 hki (by omega) rfl 9 (by decide) lk_X2_access_fieldLink_RX2_34_RaceWatch_Kept_guards_I rfl dX2_access_37 ?_
        refine lv_iload X.1.1 X.1.2.1 dX2_access_40 (lv_at hl 6 rfl) ?_
        refine lv_iand X.1.1 X.1.2.1 dX2_access_42 ?_
        refine sx_put X hP in_X2_access_X2 tyX2 tyX2_ok nmX2 hki (by omega) rfl 9 (by decide) lk_X2_access_fieldLink_RX2_34_RaceWatch_Kept_guards_I rfl rfl rfl (Nat.le_of_ble_eq_true rfl) dX2_access_43 (fun F4 H4 l4 e4 o4 hP => ?_)
        have hki : F4 (ki) = ob 2 ([.int (w (43 + 12 * c)), .int (w (44 + 12 * c)), .int (w (45 + 12 * c)), .int (w (46 + 12 * c)), .int (w (47 + 12 * c)), rf G (kj), .int (w (52 + 12 * c)), .int (w (53 + 12 * c)), .int (w (54 + 12 * c)), .int ((gd) &&& (lk))]) := e4
        have hkj := (o4 (kj) (by omega)).trans hkj
        have hci := (o4 (ci) (by omega)).trans hci
        have hcj := (o4 (cj) (by omega)).trans hcj
        have hO : ∀ j, j ≠ ki ∧ j ≠ kj → F4 j = F j := fun j hj => (o4 j (by omega)).trans (hO j hj)
        refine lv_iload_n X.1.1 X.1.2.1 dX2_access_46 rfl (lv_at hl 2 rfl) ?_
        refine sx_if_eq X (by decide) (tgt := 72) dX2_access_47 (by decide) (fun _ => ?_) (fun h => absurd h (by decide))
        refine lv_aload_n X.1.1 X.1.2.1 dX2_access_72 rfl (lv_at hl 1 rfl) ?_
        refine lv_aload_n X.1.1 X.1.2.1 dX2_access_73 rfl (lv_at hl 3 rfl) ?_
        refine lv_iload_n X.1.1 X.1.2.1 dX2_access_74 rfl (lv_at hl 4 rfl) ?_
        obtain ⟨w1, hw1⟩ : ∃ z, z = w := ⟨_, rfl⟩
        have hE1 : firstF w c (kindF w t c 0) = w1 := by rw [hw1]; unfold firstF; rw [cif_f (fun q => c20 q.2)]
        have hki : F4 ki = ob 2 ([.int (w1 (43 + 12 * c)), .int (w1 (44 + 12 * c)), .int (w1 (45 + 12 * c)), .int (w1 (46 + 12 * c)), .int (w1 (47 + 12 * c)), rf G (kj), .int (w1 (52 + 12 * c)), .int (w1 (53 + 12 * c)), .int (w1 (54 + 12 * c)), .int ((gd) &&& (lk))]) := hki.trans (by rw [hw1])
        have hok1 : okC w1 c := by rw [hw1]; exact hok
        have hnr1 : ∀ k, k < 4 → nr k = w1 (48 + 12 * c + k) := fun k hk => by rw [hw1]; exact hnr k hk
        have hg1 : ∀ k, k < 16 → g k = w1 (4 + k) := fun k hk => by rw [hw1]; exact hg k hk
        refine sx_cvV (As := [rf G (ci), .int (nI (t))]) (rest := []) X (mX2_keepRead l (ki := ki) (kj := kj) (ci := ci) (cj := cj) (t := t) (c := c) lki lkj lci lcj m1 m2 m3 m4 m5 m6 ht hc hok1 hnr1 hg1 hki hkj hci hcj) gX2_access_X2_keepRead rfl yv_X2_keepRead ⟨Nat.le_of_ble_eq_true rfl, Nat.le_of_ble_eq_true rfl⟩ hki (by omega) rfl rfl hl.1 rfl (Nat.le_of_ble_eq_true rfl) dX2_access_75 ⟨Nat.le_of_ble_eq_true rfl, Nat.le_of_ble_eq_true rfl⟩ hs rfl hP (fun F5 H5 l5 hp hP => ?_)
        obtain ⟨e5, ⟨n5, f5, hz5⟩, o5⟩ := hp
        have hki : F5 (ki) = ob 2 ([.int (readF w1 t c (43 + 12 * c)), .int (readF w1 t c (44 + 12 * c)), .int (readF w1 t c (45 + 12 * c)), .int (readF w1 t c (46 + 12 * c)), .int (readF w1 t c (47 + 12 * c)), rf G (kj), .int (readF w1 t c (52 + 12 * c)), .int (readF w1 t c (53 + 12 * c)), .int (readF w1 t c (54 + 12 * c)), .int ((gd) &&& (lk))]) := e5
        have hkj : F5 (kj) = rI G (4) (n5) := f5
        have hci := (o5 (ci) (by omega)).trans hci
        have hcj := (o5 (cj) (by omega)).trans hcj
        have hO : ∀ j, j ≠ ki ∧ j ≠ kj → F5 j = F j := fun j hj => (o5 j (by omega)).trans (hO j hj)
        have hE : accF w t c 0 = readF w1 t c := by unfold accF; rw [cif_t (show (0 : Nat) = 0 from rfl), hE1]
        rw [hQ]
        exact sx_vret X rfl hs rfl hP dX2_access_78 (⟨by rw [hE]; exact hki, ⟨_, hkj, fun k hk => by rw [hE]; exact hz5 k hk⟩, hO⟩)
      · refine lv_aload_n X.1.1 X.1.2.1 dX2_access_23 rfl (lv_at hl 1 rfl) ?_
        refine lv_iload X.1.1 X.1.2.1 dX2_access_24 (lv_at hl 5 rfl) ?_
        refine sx_put X hP in_X2_access_X2 tyX2 tyX2_ok nmX2 hki (by omega) rfl 7 (by decide) lk_X2_access_fieldLink_RX2_28_RaceWatch_Kept_firstEvent_I rfl rfl rfl (Nat.le_of_ble_eq_true rfl) dX2_access_26 (fun F6 H6 l6 e6 o6 hP => ?_)
        have hki : F6 (ki) = ob 2 ([.int (w (43 + 12 * c)), .int (w (44 + 12 * c)), .int (w (45 + 12 * c)), .int (w (46 + 12 * c)), .int (w (47 + 12 * c)), rf G (kj), .int (w (52 + 12 * c)), .int (nI (m)), .int (w (54 + 12 * c)), .int (gd)]) := e6
        have hkj := (o6 (kj) (by omega)).trans hkj
        have hci := (o6 (ci) (by omega)).trans hci
        have hcj := (o6 (cj) (by omega)).trans hcj
        have hO : ∀ j, j ≠ ki ∧ j ≠ kj → F6 j = F j := fun j hj => (o6 j (by omega)).trans (hO j hj)
        refine lv_aload_n X.1.1 X.1.2.1 dX2_access_29 rfl (lv_at hl 1 rfl) ?_
        refine lv_iload X.1.1 X.1.2.1 dX2_access_30 (lv_at hl 0 rfl) ?_
        refine sx_put X hP in_X2_access_X2 tyX2 tyX2_ok nmX2 hki (by omega) rfl 8 (by decide) lk_X2_access_fieldLink_RX2_31_RaceWatch_Kept_firstKind_I rfl rfl rfl (Nat.le_of_ble_eq_true rfl) dX2_access_32 (fun F7 H7 l7 e7 o7 hP => ?_)
        have hki : F7 (ki) = ob 2 ([.int (w (43 + 12 * c)), .int (w (44 + 12 * c)), .int (w (45 + 12 * c)), .int (w (46 + 12 * c)), .int (w (47 + 12 * c)), rf G (kj), .int (w (52 + 12 * c)), .int (nI (m)), .int (kindF w t c 0), .int (gd)]) := e7
        have hkj := (o7 (kj) (by omega)).trans hkj
        have hci := (o7 (ci) (by omega)).trans hci
        have hcj := (o7 (cj) (by omega)).trans hcj
        have hO : ∀ j, j ≠ ki ∧ j ≠ kj → F7 j = F j := fun j hj => (o7 j (by omega)).trans (hO j hj)
        refine lv_aload_n X.1.1 X.1.2.1 dX2_access_35 rfl (lv_at hl 1 rfl) ?_
        refine lv_dup X.1.1 X.1.2.1 dX2_access_36 rfl ?_
        refine sx_get X hP in_X2_access_X2 hki (by omega) rfl 9 (by decide) lk_X2_access_fieldLink_RX2_34_RaceWatch_Kept_guards_I rfl dX2_access_37 ?_
        refine lv_iload X.1.1 X.1.2.1 dX2_access_40 (lv_at hl 6 rfl) ?_
        refine lv_iand X.1.1 X.1.2.1 dX2_access_42 ?_
        refine sx_put X hP in_X2_access_X2 tyX2 tyX2_ok nmX2 hki (by omega) rfl 9 (by decide) lk_X2_access_fieldLink_RX2_34_RaceWatch_Kept_guards_I rfl rfl rfl (Nat.le_of_ble_eq_true rfl) dX2_access_43 (fun F8 H8 l8 e8 o8 hP => ?_)
        have hki : F8 (ki) = ob 2 ([.int (w (43 + 12 * c)), .int (w (44 + 12 * c)), .int (w (45 + 12 * c)), .int (w (46 + 12 * c)), .int (w (47 + 12 * c)), rf G (kj), .int (w (52 + 12 * c)), .int (nI (m)), .int (kindF w t c 0), .int ((gd) &&& (lk))]) := e8
        have hkj := (o8 (kj) (by omega)).trans hkj
        have hci := (o8 (ci) (by omega)).trans hci
        have hcj := (o8 (cj) (by omega)).trans hcj
        have hO : ∀ j, j ≠ ki ∧ j ≠ kj → F8 j = F j := fun j hj => (o8 j (by omega)).trans (hO j hj)
        refine lv_iload_n X.1.1 X.1.2.1 dX2_access_46 rfl (lv_at hl 2 rfl) ?_
        refine sx_if_eq X (by decide) (tgt := 72) dX2_access_47 (by decide) (fun _ => ?_) (fun h => absurd h (by decide))
        refine lv_aload_n X.1.1 X.1.2.1 dX2_access_72 rfl (lv_at hl 1 rfl) ?_
        refine lv_aload_n X.1.1 X.1.2.1 dX2_access_73 rfl (lv_at hl 3 rfl) ?_
        refine lv_iload_n X.1.1 X.1.2.1 dX2_access_74 rfl (lv_at hl 4 rfl) ?_
        obtain ⟨w1, hw1⟩ : ∃ z, z = upd (upd w (53 + 12 * c) (nI m)) (54 + 12 * c) (kindF w t c 0) := ⟨_, rfl⟩
        have hE1 : firstF w c (kindF w t c 0) = w1 := by rw [hw1]; unfold firstF; rw [cif_t ⟨c12, c20⟩, h91m]
        have hki : F8 ki = ob 2 ([.int (w1 (43 + 12 * c)), .int (w1 (44 + 12 * c)), .int (w1 (45 + 12 * c)), .int (w1 (46 + 12 * c)), .int (w1 (47 + 12 * c)), rf G (kj), .int (w1 (52 + 12 * c)), .int (w1 (53 + 12 * c)), .int (w1 (54 + 12 * c)), .int ((gd) &&& (lk))]) := hki.trans (by rw [hw1]; rw [pk_un (j := 43 + 12 * c) (by omega), pk_un (j := 43 + 12 * c) (by omega), pk_un (j := 44 + 12 * c) (by omega), pk_un (j := 44 + 12 * c) (by omega), pk_un (j := 45 + 12 * c) (by omega), pk_un (j := 45 + 12 * c) (by omega), pk_un (j := 46 + 12 * c) (by omega), pk_un (j := 46 + 12 * c) (by omega), pk_un (j := 47 + 12 * c) (by omega), pk_un (j := 47 + 12 * c) (by omega), pk_un (j := 52 + 12 * c) (by omega), pk_un (j := 52 + 12 * c) (by omega), pk_un (j := 53 + 12 * c) (by omega), pk_us, pk_us])
        have hok1 : okC w1 c := by rw [hw1]; exact okC_upd (okC_upd hok (by omega) (by omega) (by omega)) (by omega) (by omega) (by omega)
        have hnr1 : ∀ k, k < 4 → nr k = w1 (48 + 12 * c + k) := fun k hk => by rw [hw1]; rw [pk_un (by omega), pk_un (by omega)]; exact hnr k hk
        have hg1 : ∀ k, k < 16 → g k = w1 (4 + k) := fun k hk => by rw [hw1]; rw [pk_un (by omega), pk_un (by omega)]; exact hg k hk
        refine sx_cvV (As := [rf G (ci), .int (nI (t))]) (rest := []) X (mX2_keepRead l (ki := ki) (kj := kj) (ci := ci) (cj := cj) (t := t) (c := c) lki lkj lci lcj m1 m2 m3 m4 m5 m6 ht hc hok1 hnr1 hg1 hki hkj hci hcj) gX2_access_X2_keepRead rfl yv_X2_keepRead ⟨Nat.le_of_ble_eq_true rfl, Nat.le_of_ble_eq_true rfl⟩ hki (by omega) rfl rfl hl.1 rfl (Nat.le_of_ble_eq_true rfl) dX2_access_75 ⟨Nat.le_of_ble_eq_true rfl, Nat.le_of_ble_eq_true rfl⟩ hs rfl hP (fun F9 H9 l9 hp hP => ?_)
        obtain ⟨e9, ⟨n9, f9, hz9⟩, o9⟩ := hp
        have hki : F9 (ki) = ob 2 ([.int (readF w1 t c (43 + 12 * c)), .int (readF w1 t c (44 + 12 * c)), .int (readF w1 t c (45 + 12 * c)), .int (readF w1 t c (46 + 12 * c)), .int (readF w1 t c (47 + 12 * c)), rf G (kj), .int (readF w1 t c (52 + 12 * c)), .int (readF w1 t c (53 + 12 * c)), .int (readF w1 t c (54 + 12 * c)), .int ((gd) &&& (lk))]) := e9
        have hkj : F9 (kj) = rI G (4) (n9) := f9
        have hci := (o9 (ci) (by omega)).trans hci
        have hcj := (o9 (cj) (by omega)).trans hcj
        have hO : ∀ j, j ≠ ki ∧ j ≠ kj → F9 j = F j := fun j hj => (o9 j (by omega)).trans (hO j hj)
        have hE : accF w t c 0 = readF w1 t c := by unfold accF; rw [cif_t (show (0 : Nat) = 0 from rfl), hE1]
        rw [hQ]
        exact sx_vret X rfl hs rfl hP dX2_access_78 (⟨by rw [hE]; exact hki, ⟨_, hkj, fun k hk => by rw [hE]; exact hz9 k hk⟩, hO⟩)
  · refine lv_aload_n X.1.1 X.1.2.1 dX2_access_0 rfl (lv_at hl 0 rfl) ?_
    refine lv_iload_n X.1.1 X.1.2.1 dX2_access_1 rfl (lv_at hl 1 rfl) ?_
    refine lv_aload_n X.1.1 X.1.2.1 dX2_access_2 rfl (lv_at hl 2 rfl) ?_
    refine lv_iload_n X.1.1 X.1.2.1 dX2_access_3 rfl (lv_at hl 3 rfl) ?_
    refine sx_cvI (As := [.int (nI 1), rf G (ci), .int (nI (t))]) (rest := []) X (mX2_kindOf l (ki := ki) (kj := kj) (ci := ci) (cj := cj) (t := t) (c := c) lki lkj lci lcj m1 m2 m3 m4 m5 m6 ht hc hok hnr hg (wr := 1) (by omega) hki hkj hci hcj) gX2_access_X2_kindOf rfl yv_X2_kindOf ⟨Nat.le_of_ble_eq_true rfl, Nat.le_of_ble_eq_true rfl⟩ hki (by omega) rfl rfl hl.1 rfl (Nat.le_of_ble_eq_true rfl) dX2_access_4 ⟨Nat.le_of_ble_eq_true rfl, Nat.le_of_ble_eq_true rfl⟩ hs rfl hP (fun r10 F10 H10 l10 hp hP => ?_)
    obtain ⟨rfl, rfl⟩ := hp
    refine lv_istore (lv' := [(6, .int (kindF w t c 1)), (0, rf G (ki)), (1, .int (nI 1)), (2, rf G (ci)), (3, .int (nI (t))), (4, .int (nI (m))), (5, .int (lk))]) X.1.1 X.1.2.1 dX2_access_7 hl (by decide) rfl (fun ls hl => ?_)
    refine lv_iload X.1.1 X.1.2.1 dX2_access_9 (lv_at hl 0 rfl) ?_
    refine lv_iconst (v := (-1)) X.1.1 X.1.2.1 dX2_access_11 (by decide) ?_
    refine lv_icmp_eq X.1.1 X.1.2.1 (tgt := 35) dX2_access_12 (by decide) (fun c12 => ?_) (fun c12 => ?_)
    · refine lv_aload_n X.1.1 X.1.2.1 dX2_access_35 rfl (lv_at hl 1 rfl) ?_
      refine lv_dup X.1.1 X.1.2.1 dX2_access_36 rfl ?_
      refine sx_get X hP in_X2_access_X2 hki (by omega) rfl 9 (by decide) lk_X2_access_fieldLink_RX2_34_RaceWatch_Kept_guards_I rfl dX2_access_37 ?_
      refine lv_iload X.1.1 X.1.2.1 dX2_access_40 (lv_at hl 6 rfl) ?_
      refine lv_iand X.1.1 X.1.2.1 dX2_access_42 ?_
      refine sx_put X hP in_X2_access_X2 tyX2 tyX2_ok nmX2 hki (by omega) rfl 9 (by decide) lk_X2_access_fieldLink_RX2_34_RaceWatch_Kept_guards_I rfl rfl rfl (Nat.le_of_ble_eq_true rfl) dX2_access_43 (fun F11 H11 l11 e11 o11 hP => ?_)
      have hki : F11 (ki) = ob 2 ([.int (w (43 + 12 * c)), .int (w (44 + 12 * c)), .int (w (45 + 12 * c)), .int (w (46 + 12 * c)), .int (w (47 + 12 * c)), rf G (kj), .int (w (52 + 12 * c)), .int (w (53 + 12 * c)), .int (w (54 + 12 * c)), .int ((gd) &&& (lk))]) := e11
      have hkj := (o11 (kj) (by omega)).trans hkj
      have hci := (o11 (ci) (by omega)).trans hci
      have hcj := (o11 (cj) (by omega)).trans hcj
      have hO : ∀ j, j ≠ ki ∧ j ≠ kj → F11 j = F j := fun j hj => (o11 j (by omega)).trans (hO j hj)
      refine lv_iload_n X.1.1 X.1.2.1 dX2_access_46 rfl (lv_at hl 2 rfl) ?_
      refine sx_if_eq X (by decide) (tgt := 72) dX2_access_47 (by decide) (fun h => absurd h (by decide)) (fun _ => ?_)
      refine lv_aload_n X.1.1 X.1.2.1 dX2_access_50 rfl (lv_at hl 1 rfl) ?_
      refine lv_iload_n X.1.1 X.1.2.1 dX2_access_51 rfl (lv_at hl 4 rfl) ?_
      refine sx_put X hP in_X2_access_X2 tyX2 tyX2_ok nmX2 hki (by omega) rfl 0 (by decide) lk_X2_access_fieldLink_RX2_15_RaceWatch_Kept_writer_I rfl rfl rfl (Nat.le_of_ble_eq_true rfl) dX2_access_52 (fun F12 H12 l12 e12 o12 hP => ?_)
      have hki : F12 (ki) = ob 2 ([.int (nI (t)), .int (w (44 + 12 * c)), .int (w (45 + 12 * c)), .int (w (46 + 12 * c)), .int (w (47 + 12 * c)), rf G (kj), .int (w (52 + 12 * c)), .int (w (53 + 12 * c)), .int (w (54 + 12 * c)), .int ((gd) &&& (lk))]) := e12
      have hkj := (o12 (kj) (by omega)).trans hkj
      have hci := (o12 (ci) (by omega)).trans hci
      have hcj := (o12 (cj) (by omega)).trans hcj
      have hO : ∀ j, j ≠ ki ∧ j ≠ kj → F12 j = F j := fun j hj => (o12 j (by omega)).trans (hO j hj)
      refine lv_aload_n X.1.1 X.1.2.1 dX2_access_55 rfl (lv_at hl 1 rfl) ?_
      refine lv_aload_n X.1.1 X.1.2.1 dX2_access_56 rfl (lv_at hl 3 rfl) ?_
      refine lv_iload_n X.1.1 X.1.2.1 dX2_access_57 rfl (lv_at hl 4 rfl) ?_
      refine lv_iload_n X.1.1 X.1.2.1 dX2_access_58 rfl (lv_at hl 4 rfl) ?_
      refine sx_cvI (As := [.int (nI (t)), .int (nI (t))]) (rest := rf G (ki) :: []) X (mX1_number l (ci := ci) (cj := cj) (L := 16) (row := t) (t := t) (by omega) (by omega) (by decide) (by omega) (by omega) hci hcj) gX2_access_X1_number rfl yv_X1_number ⟨Nat.le_of_ble_eq_true rfl, Nat.le_of_ble_eq_true rfl⟩ hci (by omega) rfl rfl hl.1 rfl (Nat.le_of_ble_eq_true rfl) dX2_access_59 ⟨Nat.le_of_ble_eq_true rfl, Nat.le_of_ble_eq_true rfl⟩ hs rfl hP (fun r13 F13 H13 l13 hp hP => ?_)
      obtain ⟨rfl, rfl⟩ := hp
      rw [show g (4 * t + t) = w (4 + 5 * t) from (hg _ (by omega)).trans (congrArg w (by omega))]
      refine sx_put X hP in_X2_access_X2 tyX2 tyX2_ok nmX2 hki (by omega) rfl 1 (by decide) lk_X2_access_fieldLink_RX2_19_RaceWatch_Kept_writeNumber_I rfl rfl rfl (Nat.le_of_ble_eq_true rfl) dX2_access_62 (fun F14 H14 l14 e14 o14 hP => ?_)
      have hki : F14 (ki) = ob 2 ([.int (nI (t)), .int (w (4 + 5 * t)), .int (w (45 + 12 * c)), .int (w (46 + 12 * c)), .int (w (47 + 12 * c)), rf G (kj), .int (w (52 + 12 * c)), .int (w (53 + 12 * c)), .int (w (54 + 12 * c)), .int ((gd) &&& (lk))]) := e14
      have hkj := (o14 (kj) (by omega)).trans hkj
      have hci := (o14 (ci) (by omega)).trans hci
      have hcj := (o14 (cj) (by omega)).trans hcj
      have hO : ∀ j, j ≠ ki ∧ j ≠ kj → F14 j = F j := fun j hj => (o14 j (by omega)).trans (hO j hj)
      refine lv_aload_n X.1.1 X.1.2.1 dX2_access_65 rfl (lv_at hl 1 rfl) ?_
      refine sx_cvV (As := []) (rest := []) X (mX2_forgetReads l (ki := ki) (kj := kj) (by omega) (by omega) (by omega) hki hkj) gX2_access_X2_forgetReads rfl yv_X2_forgetReads ⟨Nat.le_of_ble_eq_true rfl, Nat.le_of_ble_eq_true rfl⟩ hki (by omega) rfl rfl hl.1 rfl (Nat.le_of_ble_eq_true rfl) dX2_access_66 ⟨Nat.le_of_ble_eq_true rfl, Nat.le_of_ble_eq_true rfl⟩ hs rfl hP (fun F15 H15 l15 hp hP => ?_)
      obtain ⟨e15, ⟨w15, f15, hz15⟩, o15⟩ := hp
      have hki : F15 (ki) = ob 2 ([.int (nI (t)), .int (w (4 + 5 * t)), .int (-1), .int (nI 0), .int (nI 0), rf G (kj), .int (w (52 + 12 * c)), .int (w (53 + 12 * c)), .int (w (54 + 12 * c)), .int ((gd) &&& (lk))]) := e15
      have hkj : F15 (kj) = rI G (4) (w15) := f15
      have hci := (o15 (ci) (by omega)).trans hci
      have hcj := (o15 (cj) (by omega)).trans hcj
      have hO : ∀ j, j ≠ ki ∧ j ≠ kj → F15 j = F j := fun j hj => (o15 j (by omega)).trans (hO j hj)
      refine lv_goto (tgt := 78) X.1.1 X.1.2.1 dX2_access_69 (by decide) ?_
      have hE : accF w t c 1 = wrF (w) t c := by unfold accF firstF; rw [cif_f (show ¬ (1 : Nat) = 0 by decide), cif_f (fun q => q.1 c12)]
      have hE2 := hE
      obtain ⟨p1, p2, p3, p4, p5, p6, p7, p8, p9⟩ := wrF_flds (w := w) (t := t) (c := c) (by omega)
      rw [hQ]
      exact sx_vret X rfl hs rfl hP dX2_access_78 (⟨hki.trans (by rw [hE, p1, p2, p3, p4, p5, p6, p7, p8]), ⟨_, hkj, fun k hk => by rw [hz15 k hk, hE, p9 k hk]⟩, hO⟩)
    · refine lv_aload_n X.1.1 X.1.2.1 dX2_access_15 rfl (lv_at hl 1 rfl) ?_
      refine sx_get X hP in_X2_access_X2 hki (by omega) rfl 7 (by decide) lk_X2_access_fieldLink_RX2_28_RaceWatch_Kept_firstEvent_I rfl dX2_access_16 ?_
      refine lv_iconst (v := (-1)) X.1.1 X.1.2.1 dX2_access_19 (by decide) ?_
      refine lv_icmp_ne X.1.1 X.1.2.1 (tgt := 35) dX2_access_20 (by decide) (fun c20 => ?_) (fun c20 => ?_)
      · refine lv_aload_n X.1.1 X.1.2.1 dX2_access_35 rfl (lv_at hl 1 rfl) ?_
        refine lv_dup X.1.1 X.1.2.1 dX2_access_36 rfl ?_
        refine sx_get X hP in_X2_access_X2 hki (by omega) rfl 9 (by decide) lk_X2_access_fieldLink_RX2_34_RaceWatch_Kept_guards_I rfl dX2_access_37 ?_
        refine lv_iload X.1.1 X.1.2.1 dX2_access_40 (lv_at hl 6 rfl) ?_
        refine lv_iand X.1.1 X.1.2.1 dX2_access_42 ?_
        refine sx_put X hP in_X2_access_X2 tyX2 tyX2_ok nmX2 hki (by omega) rfl 9 (by decide) lk_X2_access_fieldLink_RX2_34_RaceWatch_Kept_guards_I rfl rfl rfl (Nat.le_of_ble_eq_true rfl) dX2_access_43 (fun F16 H16 l16 e16 o16 hP => ?_)
        have hki : F16 (ki) = ob 2 ([.int (w (43 + 12 * c)), .int (w (44 + 12 * c)), .int (w (45 + 12 * c)), .int (w (46 + 12 * c)), .int (w (47 + 12 * c)), rf G (kj), .int (w (52 + 12 * c)), .int (w (53 + 12 * c)), .int (w (54 + 12 * c)), .int ((gd) &&& (lk))]) := e16
        have hkj := (o16 (kj) (by omega)).trans hkj
        have hci := (o16 (ci) (by omega)).trans hci
        have hcj := (o16 (cj) (by omega)).trans hcj
        have hO : ∀ j, j ≠ ki ∧ j ≠ kj → F16 j = F j := fun j hj => (o16 j (by omega)).trans (hO j hj)
        refine lv_iload_n X.1.1 X.1.2.1 dX2_access_46 rfl (lv_at hl 2 rfl) ?_
        refine sx_if_eq X (by decide) (tgt := 72) dX2_access_47 (by decide) (fun h => absurd h (by decide)) (fun _ => ?_)
        refine lv_aload_n X.1.1 X.1.2.1 dX2_access_50 rfl (lv_at hl 1 rfl) ?_
        refine lv_iload_n X.1.1 X.1.2.1 dX2_access_51 rfl (lv_at hl 4 rfl) ?_
        refine sx_put X hP in_X2_access_X2 tyX2 tyX2_ok nmX2 hki (by omega) rfl 0 (by decide) lk_X2_access_fieldLink_RX2_15_RaceWatch_Kept_writer_I rfl rfl rfl (Nat.le_of_ble_eq_true rfl) dX2_access_52 (fun F17 H17 l17 e17 o17 hP => ?_)
        have hki : F17 (ki) = ob 2 ([.int (nI (t)), .int (w (44 + 12 * c)), .int (w (45 + 12 * c)), .int (w (46 + 12 * c)), .int (w (47 + 12 * c)), rf G (kj), .int (w (52 + 12 * c)), .int (w (53 + 12 * c)), .int (w (54 + 12 * c)), .int ((gd) &&& (lk))]) := e17
        have hkj := (o17 (kj) (by omega)).trans hkj
        have hci := (o17 (ci) (by omega)).trans hci
        have hcj := (o17 (cj) (by omega)).trans hcj
        have hO : ∀ j, j ≠ ki ∧ j ≠ kj → F17 j = F j := fun j hj => (o17 j (by omega)).trans (hO j hj)
        refine lv_aload_n X.1.1 X.1.2.1 dX2_access_55 rfl (lv_at hl 1 rfl) ?_
        refine lv_aload_n X.1.1 X.1.2.1 dX2_access_56 rfl (lv_at hl 3 rfl) ?_
        refine lv_iload_n X.1.1 X.1.2.1 dX2_access_57 rfl (lv_at hl 4 rfl) ?_
        refine lv_iload_n X.1.1 X.1.2.1 dX2_access_58 rfl (lv_at hl 4 rfl) ?_
        refine sx_cvI (As := [.int (nI (t)), .int (nI (t))]) (rest := rf G (ki) :: []) X (mX1_number l (ci := ci) (cj := cj) (L := 16) (row := t) (t := t) (by omega) (by omega) (by decide) (by omega) (by omega) hci hcj) gX2_access_X1_number rfl yv_X1_number ⟨Nat.le_of_ble_eq_true rfl, Nat.le_of_ble_eq_true rfl⟩ hci (by omega) rfl rfl hl.1 rfl (Nat.le_of_ble_eq_true rfl) dX2_access_59 ⟨Nat.le_of_ble_eq_true rfl, Nat.le_of_ble_eq_true rfl⟩ hs rfl hP (fun r18 F18 H18 l18 hp hP => ?_)
        obtain ⟨rfl, rfl⟩ := hp
        rw [show g (4 * t + t) = w (4 + 5 * t) from (hg _ (by omega)).trans (congrArg w (by omega))]
        refine sx_put X hP in_X2_access_X2 tyX2 tyX2_ok nmX2 hki (by omega) rfl 1 (by decide) lk_X2_access_fieldLink_RX2_19_RaceWatch_Kept_writeNumber_I rfl rfl rfl (Nat.le_of_ble_eq_true rfl) dX2_access_62 (fun F19 H19 l19 e19 o19 hP => ?_)
        have hki : F19 (ki) = ob 2 ([.int (nI (t)), .int (w (4 + 5 * t)), .int (w (45 + 12 * c)), .int (w (46 + 12 * c)), .int (w (47 + 12 * c)), rf G (kj), .int (w (52 + 12 * c)), .int (w (53 + 12 * c)), .int (w (54 + 12 * c)), .int ((gd) &&& (lk))]) := e19
        have hkj := (o19 (kj) (by omega)).trans hkj
        have hci := (o19 (ci) (by omega)).trans hci
        have hcj := (o19 (cj) (by omega)).trans hcj
        have hO : ∀ j, j ≠ ki ∧ j ≠ kj → F19 j = F j := fun j hj => (o19 j (by omega)).trans (hO j hj)
        refine lv_aload_n X.1.1 X.1.2.1 dX2_access_65 rfl (lv_at hl 1 rfl) ?_
        refine sx_cvV (As := []) (rest := []) X (mX2_forgetReads l (ki := ki) (kj := kj) (by omega) (by omega) (by omega) hki hkj) gX2_access_X2_forgetReads rfl yv_X2_forgetReads ⟨Nat.le_of_ble_eq_true rfl, Nat.le_of_ble_eq_true rfl⟩ hki (by omega) rfl rfl hl.1 rfl (Nat.le_of_ble_eq_true rfl) dX2_access_66 ⟨Nat.le_of_ble_eq_true rfl, Nat.le_of_ble_eq_true rfl⟩ hs rfl hP (fun F20 H20 l20 hp hP => ?_)
        obtain ⟨e20, ⟨w20, f20, hz20⟩, o20⟩ := hp
        have hki : F20 (ki) = ob 2 ([.int (nI (t)), .int (w (4 + 5 * t)), .int (-1), .int (nI 0), .int (nI 0), rf G (kj), .int (w (52 + 12 * c)), .int (w (53 + 12 * c)), .int (w (54 + 12 * c)), .int ((gd) &&& (lk))]) := e20
        have hkj : F20 (kj) = rI G (4) (w20) := f20
        have hci := (o20 (ci) (by omega)).trans hci
        have hcj := (o20 (cj) (by omega)).trans hcj
        have hO : ∀ j, j ≠ ki ∧ j ≠ kj → F20 j = F j := fun j hj => (o20 j (by omega)).trans (hO j hj)
        refine lv_goto (tgt := 78) X.1.1 X.1.2.1 dX2_access_69 (by decide) ?_
        have hE : accF w t c 1 = wrF (w) t c := by unfold accF firstF; rw [cif_f (show ¬ (1 : Nat) = 0 by decide), cif_f (fun q => c20 q.2)]
        have hE2 := hE
        obtain ⟨p1, p2, p3, p4, p5, p6, p7, p8, p9⟩ := wrF_flds (w := w) (t := t) (c := c) (by omega)
        rw [hQ]
        exact sx_vret X rfl hs rfl hP dX2_access_78 (⟨hki.trans (by rw [hE, p1, p2, p3, p4, p5, p6, p7, p8]), ⟨_, hkj, fun k hk => by rw [hz20 k hk, hE, p9 k hk]⟩, hO⟩)
      · refine lv_aload_n X.1.1 X.1.2.1 dX2_access_23 rfl (lv_at hl 1 rfl) ?_
        refine lv_iload X.1.1 X.1.2.1 dX2_access_24 (lv_at hl 5 rfl) ?_
        refine sx_put X hP in_X2_access_X2 tyX2 tyX2_ok nmX2 hki (by omega) rfl 7 (by decide) lk_X2_access_fieldLink_RX2_28_RaceWatch_Kept_firstEvent_I rfl rfl rfl (Nat.le_of_ble_eq_true rfl) dX2_access_26 (fun F21 H21 l21 e21 o21 hP => ?_)
        have hki : F21 (ki) = ob 2 ([.int (w (43 + 12 * c)), .int (w (44 + 12 * c)), .int (w (45 + 12 * c)), .int (w (46 + 12 * c)), .int (w (47 + 12 * c)), rf G (kj), .int (w (52 + 12 * c)), .int (nI (m)), .int (w (54 + 12 * c)), .int (gd)]) := e21
        have hkj := (o21 (kj) (by omega)).trans hkj
        have hci := (o21 (ci) (by omega)).trans hci
        have hcj := (o21 (cj) (by omega)).trans hcj
        have hO : ∀ j, j ≠ ki ∧ j ≠ kj → F21 j = F j := fun j hj => (o21 j (by omega)).trans (hO j hj)
        refine lv_aload_n X.1.1 X.1.2.1 dX2_access_29 rfl (lv_at hl 1 rfl) ?_
        refine lv_iload X.1.1 X.1.2.1 dX2_access_30 (lv_at hl 0 rfl) ?_
        refine sx_put X hP in_X2_access_X2 tyX2 tyX2_ok nmX2 hki (by omega) rfl 8 (by decide) lk_X2_access_fieldLink_RX2_31_RaceWatch_Kept_firstKind_I rfl rfl rfl (Nat.le_of_ble_eq_true rfl) dX2_access_32 (fun F22 H22 l22 e22 o22 hP => ?_)
        have hki : F22 (ki) = ob 2 ([.int (w (43 + 12 * c)), .int (w (44 + 12 * c)), .int (w (45 + 12 * c)), .int (w (46 + 12 * c)), .int (w (47 + 12 * c)), rf G (kj), .int (w (52 + 12 * c)), .int (nI (m)), .int (kindF w t c 1), .int (gd)]) := e22
        have hkj := (o22 (kj) (by omega)).trans hkj
        have hci := (o22 (ci) (by omega)).trans hci
        have hcj := (o22 (cj) (by omega)).trans hcj
        have hO : ∀ j, j ≠ ki ∧ j ≠ kj → F22 j = F j := fun j hj => (o22 j (by omega)).trans (hO j hj)
        refine lv_aload_n X.1.1 X.1.2.1 dX2_access_35 rfl (lv_at hl 1 rfl) ?_
        refine lv_dup X.1.1 X.1.2.1 dX2_access_36 rfl ?_
        refine sx_get X hP in_X2_access_X2 hki (by omega) rfl 9 (by decide) lk_X2_access_fieldLink_RX2_34_RaceWatch_Kept_guards_I rfl dX2_access_37 ?_
        refine lv_iload X.1.1 X.1.2.1 dX2_access_40 (lv_at hl 6 rfl) ?_
        refine lv_iand X.1.1 X.1.2.1 dX2_access_42 ?_
        refine sx_put X hP in_X2_access_X2 tyX2 tyX2_ok nmX2 hki (by omega) rfl 9 (by decide) lk_X2_access_fieldLink_RX2_34_RaceWatch_Kept_guards_I rfl rfl rfl (Nat.le_of_ble_eq_true rfl) dX2_access_43 (fun F23 H23 l23 e23 o23 hP => ?_)
        have hki : F23 (ki) = ob 2 ([.int (w (43 + 12 * c)), .int (w (44 + 12 * c)), .int (w (45 + 12 * c)), .int (w (46 + 12 * c)), .int (w (47 + 12 * c)), rf G (kj), .int (w (52 + 12 * c)), .int (nI (m)), .int (kindF w t c 1), .int ((gd) &&& (lk))]) := e23
        have hkj := (o23 (kj) (by omega)).trans hkj
        have hci := (o23 (ci) (by omega)).trans hci
        have hcj := (o23 (cj) (by omega)).trans hcj
        have hO : ∀ j, j ≠ ki ∧ j ≠ kj → F23 j = F j := fun j hj => (o23 j (by omega)).trans (hO j hj)
        refine lv_iload_n X.1.1 X.1.2.1 dX2_access_46 rfl (lv_at hl 2 rfl) ?_
        refine sx_if_eq X (by decide) (tgt := 72) dX2_access_47 (by decide) (fun h => absurd h (by decide)) (fun _ => ?_)
        refine lv_aload_n X.1.1 X.1.2.1 dX2_access_50 rfl (lv_at hl 1 rfl) ?_
        refine lv_iload_n X.1.1 X.1.2.1 dX2_access_51 rfl (lv_at hl 4 rfl) ?_
        refine sx_put X hP in_X2_access_X2 tyX2 tyX2_ok nmX2 hki (by omega) rfl 0 (by decide) lk_X2_access_fieldLink_RX2_15_RaceWatch_Kept_writer_I rfl rfl rfl (Nat.le_of_ble_eq_true rfl) dX2_access_52 (fun F24 H24 l24 e24 o24 hP => ?_)
        have hki : F24 (ki) = ob 2 ([.int (nI (t)), .int (w (44 + 12 * c)), .int (w (45 + 12 * c)), .int (w (46 + 12 * c)), .int (w (47 + 12 * c)), rf G (kj), .int (w (52 + 12 * c)), .int (nI (m)), .int (kindF w t c 1), .int ((gd) &&& (lk))]) := e24
        have hkj := (o24 (kj) (by omega)).trans hkj
        have hci := (o24 (ci) (by omega)).trans hci
        have hcj := (o24 (cj) (by omega)).trans hcj
        have hO : ∀ j, j ≠ ki ∧ j ≠ kj → F24 j = F j := fun j hj => (o24 j (by omega)).trans (hO j hj)
        refine lv_aload_n X.1.1 X.1.2.1 dX2_access_55 rfl (lv_at hl 1 rfl) ?_
        refine lv_aload_n X.1.1 X.1.2.1 dX2_access_56 rfl (lv_at hl 3 rfl) ?_
        refine lv_iload_n X.1.1 X.1.2.1 dX2_access_57 rfl (lv_at hl 4 rfl) ?_
        refine lv_iload_n X.1.1 X.1.2.1 dX2_access_58 rfl (lv_at hl 4 rfl) ?_
        refine sx_cvI (As := [.int (nI (t)), .int (nI (t))]) (rest := rf G (ki) :: []) X (mX1_number l (ci := ci) (cj := cj) (L := 16) (row := t) (t := t) (by omega) (by omega) (by decide) (by omega) (by omega) hci hcj) gX2_access_X1_number rfl yv_X1_number ⟨Nat.le_of_ble_eq_true rfl, Nat.le_of_ble_eq_true rfl⟩ hci (by omega) rfl rfl hl.1 rfl (Nat.le_of_ble_eq_true rfl) dX2_access_59 ⟨Nat.le_of_ble_eq_true rfl, Nat.le_of_ble_eq_true rfl⟩ hs rfl hP (fun r25 F25 H25 l25 hp hP => ?_)
        obtain ⟨rfl, rfl⟩ := hp
        rw [show g (4 * t + t) = w (4 + 5 * t) from (hg _ (by omega)).trans (congrArg w (by omega))]
        refine sx_put X hP in_X2_access_X2 tyX2 tyX2_ok nmX2 hki (by omega) rfl 1 (by decide) lk_X2_access_fieldLink_RX2_19_RaceWatch_Kept_writeNumber_I rfl rfl rfl (Nat.le_of_ble_eq_true rfl) dX2_access_62 (fun F26 H26 l26 e26 o26 hP => ?_)
        have hki : F26 (ki) = ob 2 ([.int (nI (t)), .int (w (4 + 5 * t)), .int (w (45 + 12 * c)), .int (w (46 + 12 * c)), .int (w (47 + 12 * c)), rf G (kj), .int (w (52 + 12 * c)), .int (nI (m)), .int (kindF w t c 1), .int ((gd) &&& (lk))]) := e26
        have hkj := (o26 (kj) (by omega)).trans hkj
        have hci := (o26 (ci) (by omega)).trans hci
        have hcj := (o26 (cj) (by omega)).trans hcj
        have hO : ∀ j, j ≠ ki ∧ j ≠ kj → F26 j = F j := fun j hj => (o26 j (by omega)).trans (hO j hj)
        refine lv_aload_n X.1.1 X.1.2.1 dX2_access_65 rfl (lv_at hl 1 rfl) ?_
        refine sx_cvV (As := []) (rest := []) X (mX2_forgetReads l (ki := ki) (kj := kj) (by omega) (by omega) (by omega) hki hkj) gX2_access_X2_forgetReads rfl yv_X2_forgetReads ⟨Nat.le_of_ble_eq_true rfl, Nat.le_of_ble_eq_true rfl⟩ hki (by omega) rfl rfl hl.1 rfl (Nat.le_of_ble_eq_true rfl) dX2_access_66 ⟨Nat.le_of_ble_eq_true rfl, Nat.le_of_ble_eq_true rfl⟩ hs rfl hP (fun F27 H27 l27 hp hP => ?_)
        obtain ⟨e27, ⟨w27, f27, hz27⟩, o27⟩ := hp
        have hki : F27 (ki) = ob 2 ([.int (nI (t)), .int (w (4 + 5 * t)), .int (-1), .int (nI 0), .int (nI 0), rf G (kj), .int (w (52 + 12 * c)), .int (nI (m)), .int (kindF w t c 1), .int ((gd) &&& (lk))]) := e27
        have hkj : F27 (kj) = rI G (4) (w27) := f27
        have hci := (o27 (ci) (by omega)).trans hci
        have hcj := (o27 (cj) (by omega)).trans hcj
        have hO : ∀ j, j ≠ ki ∧ j ≠ kj → F27 j = F j := fun j hj => (o27 j (by omega)).trans (hO j hj)
        refine lv_goto (tgt := 78) X.1.1 X.1.2.1 dX2_access_69 (by decide) ?_
        have hE : accF w t c 1 = wrF (upd (upd w (53 + 12 * c) (nI m)) (54 + 12 * c) (kindF w t c 1)) t c := by unfold accF firstF; rw [cif_f (show ¬ (1 : Nat) = 0 by decide), cif_t ⟨c12, c20⟩, h91m]
        have hE2 := hE
        obtain ⟨p1, p2, p3, p4, p5, p6, p7, p8, p9⟩ := wrF_flds (w := upd (upd w (53 + 12 * c) (nI m)) (54 + 12 * c) (kindF w t c 1)) (t := t) (c := c) (by omega)
        rw [hQ]
        exact sx_vret X rfl hs rfl hP dX2_access_78 (⟨hki.trans (by rw [hE, p1, p2, p3, p4, p5, p6, p7, p8, pk_un (j := 4 + 5 * t) (by omega), pk_un (j := 4 + 5 * t) (by omega), pk_un (j := 52 + 12 * c) (by omega), pk_un (j := 52 + 12 * c) (by omega), pk_un (j := 53 + 12 * c) (by omega), pk_us, pk_us]), ⟨_, hkj, fun k hk => by rw [hz27 k hk, hE, p9 k hk]⟩, hO⟩)
theorem ys_X2_copy : yX2_copy.cls ≠ "java/lang/invoke/MethodHandle" ∧ yX2_copy.cls ≠ "java/lang/invoke/VarHandle" ∧ (parseMethodDescriptor yX2_copy.desc).map (fun d => d.parameters.length) = some 1 := by decide +kernel
theorem yv_X2_copy : yX2_copy.cls = RX2 ∧ yX2_copy.cls ≠ "java/lang/invoke/MethodHandle" ∧ yX2_copy.cls ≠ "java/lang/invoke/VarHandle" ∧ (parseMethodDescriptor yX2_copy.desc).map (fun d => d.parameters.length) = some 1 := ⟨rfl, ys_X2_copy⟩
theorem in_X2_copy_X2 : ∀ w ∈ wsX20, w ∈ wsX2_copy := fun _ h => List.mem_cons_of_mem _ (List.mem_append_right _ (h))
theorem lk_X2_copy_fieldLink_RX2_15_RaceWatch_Kept_writer_I : (.fieldLink RX2 15 "RaceWatch$Kept" "writer" "I" : Cond) ∈ wsX2_copy := List.mem_cons_of_mem _ (List.mem_append_left _ (List.mem_of_getElem? (i := 0) rfl))
theorem lk_X2_copy_fieldLink_RX2_19_RaceWatch_Kept_writeNumber_I : (.fieldLink RX2 19 "RaceWatch$Kept" "writeNumber" "I" : Cond) ∈ wsX2_copy := List.mem_cons_of_mem _ (List.mem_append_left _ (List.mem_of_getElem? (i := 1) rfl))
theorem lk_X2_copy_fieldLink_RX2_37_RaceWatch_Kept_reader_I : (.fieldLink RX2 37 "RaceWatch$Kept" "reader" "I" : Cond) ∈ wsX2_copy := List.mem_cons_of_mem _ (List.mem_append_left _ (List.mem_of_getElem? (i := 2) rfl))
theorem lk_X2_copy_fieldLink_RX2_40_RaceWatch_Kept_readNumber_I : (.fieldLink RX2 40 "RaceWatch$Kept" "readNumber" "I" : Cond) ∈ wsX2_copy := List.mem_cons_of_mem _ (List.mem_append_left _ (List.mem_of_getElem? (i := 3) rfl))
theorem lk_X2_copy_fieldLink_RX2_43_RaceWatch_Kept_isShared_Z : (.fieldLink RX2 43 "RaceWatch$Kept" "isShared" "Z" : Cond) ∈ wsX2_copy := List.mem_cons_of_mem _ (List.mem_append_left _ (List.mem_of_getElem? (i := 4) rfl))
theorem lk_X2_copy_fieldLink_RX2_9_RaceWatch_Kept_readNumbers_I : (.fieldLink RX2 9 "RaceWatch$Kept" "readNumbers" "[I" : Cond) ∈ wsX2_copy := List.mem_cons_of_mem _ (List.mem_append_left _ (List.mem_of_getElem? (i := 5) rfl))
theorem lk_X2_copy_methodLink_RX2_47_arraycopyName : (.methodLink RX2 47 arraycopyName : Cond) ∈ wsX2_copy := List.mem_cons_of_mem _ (List.mem_append_left _ (List.mem_of_getElem? (i := 6) rfl))
theorem lk_X2_copy_native_arraycopyName : (.native arraycopyName : Cond) ∈ wsX2_copy := List.mem_cons_of_mem _ (List.mem_append_left _ (List.mem_of_getElem? (i := 7) rfl))
theorem lk_X2_copy_static_arraycopyName : (.static arraycopyName : Cond) ∈ wsX2_copy := List.mem_cons_of_mem _ (List.mem_append_left _ (List.mem_of_getElem? (i := 8) rfl))
theorem lk_X2_copy_initialized_java_lang_System : (.initialized "java/lang/System" : Cond) ∈ wsX2_copy := List.mem_cons_of_mem _ (List.mem_append_left _ (List.mem_of_getElem? (i := 9) rfl))
theorem lk_X2_copy_fieldLink_RX2_25_RaceWatch_Kept_promotions_I : (.fieldLink RX2 25 "RaceWatch$Kept" "promotions" "I" : Cond) ∈ wsX2_copy := List.mem_cons_of_mem _ (List.mem_append_left _ (List.mem_of_getElem? (i := 10) rfl))
theorem lk_X2_copy_fieldLink_RX2_28_RaceWatch_Kept_firstEvent_I : (.fieldLink RX2 28 "RaceWatch$Kept" "firstEvent" "I" : Cond) ∈ wsX2_copy := List.mem_cons_of_mem _ (List.mem_append_left _ (List.mem_of_getElem? (i := 11) rfl))
theorem lk_X2_copy_fieldLink_RX2_31_RaceWatch_Kept_firstKind_I : (.fieldLink RX2 31 "RaceWatch$Kept" "firstKind" "I" : Cond) ∈ wsX2_copy := List.mem_cons_of_mem _ (List.mem_append_left _ (List.mem_of_getElem? (i := 12) rfl))
theorem lk_X2_copy_fieldLink_RX2_34_RaceWatch_Kept_guards_I : (.fieldLink RX2 34 "RaceWatch$Kept" "guards" "I" : Cond) ∈ wsX2_copy := List.mem_cons_of_mem _ (List.mem_append_left _ (List.mem_of_getElem? (i := 13) rfl))
abbrev rmX2_copy : Room := { frames := 1, cells := 0, slots := 0, locals := 60 }
set_option maxHeartbeats 800000 in
set_option maxRecDepth 100000 in
theorem mX2_copy {G : sx_G} (l : Launch) {F : Nat → va_E} {n ki kj pi pj : Nat} {a0 a1 a2 a3 a4 a6 a7 a8 a9 b0 b1 b2 b3 b4 b6 b7 b8 b9 : Int32} {nr g : Nat → Int32}  (lki : ki < n) (lkj : kj < n) (m1 : ki ≠ kj) (lpi : pi < n) (lpj : pj < n) (q1 : pi ≠ ki) (q2 : pi ≠ kj) (q3 : pj ≠ ki) (q4 : pj ≠ kj) (q5 : pi ≠ pj) (hb4 : narrow .boolean (.int b4) = .int b4) (hf4 : fits (tyX2 4) (.int b4) = true) (hki : F (ki) = ob 2 ([.int (a0), .int (a1), .int (a2), .int (a3), .int (a4), rf G (kj), .int (a6), .int (a7), .int (a8), .int (a9)])) (hkj : F (kj) = rI G (4) (nr)) (hpi : F (pi) = ob 2 ([.int (b0), .int (b1), .int (b2), .int (b3), .int (b4), rf G (pj), .int (b6), .int (b7), .int (b8), .int (b9)])) (hpj : F (pj) = rI G (4) (g)) : sx_V G l yX2_copy wsX2_copy rmX2_copy [rf G (ki), rf G (pi)] (n) F (n) (fun F1 => F1 ki = ob 2 ([.int (b0), .int (b1), .int (b2), .int (b3), .int (b4), rf G (kj), .int (b6), .int (b7), .int (b8), .int (b9)]) ∧ (∃ n1, F1 kj = rI G 4 n1 ∧ ∀ k, k < 4 → n1 k = g k) ∧ ∀ j, j ≠ ki ∧ j ≠ kj → F1 j = F j) := by
  refine sx_enter (cc := cX2_copy) (maxL := 2) (ret := none) (own := RX2) (nm := "copy") (by decide) rfl rfl rfl (Nat.le_of_ble_eq_true rfl) ?_
  intro pp ee ss mm args below meth kc ls Q hQ X hs hP hl
  have hl : lv_has ls 2 [(0, rf G (ki)), (1, rf G (pi))] := hl
  have hO : ∀ j, j ≠ ki ∧ j ≠ kj → F j = F j := fun _ _ => rfl
  refine lv_aload_n X.1.1 X.1.2.1 dX2_copy_0 rfl (lv_at hl 0 rfl) ?_
  refine lv_aload_n X.1.1 X.1.2.1 dX2_copy_1 rfl (lv_at hl 1 rfl) ?_
  refine sx_get X hP in_X2_copy_X2 hpi (by omega) rfl 0 (by decide) lk_X2_copy_fieldLink_RX2_15_RaceWatch_Kept_writer_I rfl dX2_copy_2 ?_
  refine sx_put X hP in_X2_copy_X2 tyX2 tyX2_ok nmX2 hki (by omega) rfl 0 (by decide) lk_X2_copy_fieldLink_RX2_15_RaceWatch_Kept_writer_I rfl rfl rfl (Nat.le_of_ble_eq_true rfl) dX2_copy_5 (fun F1 H1 l1 e1 o1 hP => ?_)
  have hki : F1 (ki) = ob 2 ([.int (b0), .int (a1), .int (a2), .int (a3), .int (a4), rf G (kj), .int (a6), .int (a7), .int (a8), .int (a9)]) := e1
  have hkj := (o1 (kj) (by omega)).trans hkj
  have hpi := (o1 (pi) (by omega)).trans hpi
  have hpj := (o1 (pj) (by omega)).trans hpj
  have hO : ∀ j, j ≠ ki ∧ j ≠ kj → F1 j = F j := fun j hj => (o1 j (by omega)).trans (hO j hj)
  refine lv_aload_n X.1.1 X.1.2.1 dX2_copy_8 rfl (lv_at hl 0 rfl) ?_
  refine lv_aload_n X.1.1 X.1.2.1 dX2_copy_9 rfl (lv_at hl 1 rfl) ?_
  refine sx_get X hP in_X2_copy_X2 hpi (by omega) rfl 1 (by decide) lk_X2_copy_fieldLink_RX2_19_RaceWatch_Kept_writeNumber_I rfl dX2_copy_10 ?_
  refine sx_put X hP in_X2_copy_X2 tyX2 tyX2_ok nmX2 hki (by omega) rfl 1 (by decide) lk_X2_copy_fieldLink_RX2_19_RaceWatch_Kept_writeNumber_I rfl rfl rfl (Nat.le_of_ble_eq_true rfl) dX2_copy_13 (fun F2 H2 l2 e2 o2 hP => ?_)
  have hki : F2 (ki) = ob 2 ([.int (b0), .int (b1), .int (a2), .int (a3), .int (a4), rf G (kj), .int (a6), .int (a7), .int (a8), .int (a9)]) := e2
  have hkj := (o2 (kj) (by omega)).trans hkj
  have hpi := (o2 (pi) (by omega)).trans hpi
  have hpj := (o2 (pj) (by omega)).trans hpj
  have hO : ∀ j, j ≠ ki ∧ j ≠ kj → F2 j = F j := fun j hj => (o2 j (by omega)).trans (hO j hj)
  refine lv_aload_n X.1.1 X.1.2.1 dX2_copy_16 rfl (lv_at hl 0 rfl) ?_
  refine lv_aload_n X.1.1 X.1.2.1 dX2_copy_17 rfl (lv_at hl 1 rfl) ?_
  refine sx_get X hP in_X2_copy_X2 hpi (by omega) rfl 2 (by decide) lk_X2_copy_fieldLink_RX2_37_RaceWatch_Kept_reader_I rfl dX2_copy_18 ?_
  refine sx_put X hP in_X2_copy_X2 tyX2 tyX2_ok nmX2 hki (by omega) rfl 2 (by decide) lk_X2_copy_fieldLink_RX2_37_RaceWatch_Kept_reader_I rfl rfl rfl (Nat.le_of_ble_eq_true rfl) dX2_copy_21 (fun F3 H3 l3 e3 o3 hP => ?_)
  have hki : F3 (ki) = ob 2 ([.int (b0), .int (b1), .int (b2), .int (a3), .int (a4), rf G (kj), .int (a6), .int (a7), .int (a8), .int (a9)]) := e3
  have hkj := (o3 (kj) (by omega)).trans hkj
  have hpi := (o3 (pi) (by omega)).trans hpi
  have hpj := (o3 (pj) (by omega)).trans hpj
  have hO : ∀ j, j ≠ ki ∧ j ≠ kj → F3 j = F j := fun j hj => (o3 j (by omega)).trans (hO j hj)
  refine lv_aload_n X.1.1 X.1.2.1 dX2_copy_24 rfl (lv_at hl 0 rfl) ?_
  refine lv_aload_n X.1.1 X.1.2.1 dX2_copy_25 rfl (lv_at hl 1 rfl) ?_
  refine sx_get X hP in_X2_copy_X2 hpi (by omega) rfl 3 (by decide) lk_X2_copy_fieldLink_RX2_40_RaceWatch_Kept_readNumber_I rfl dX2_copy_26 ?_
  refine sx_put X hP in_X2_copy_X2 tyX2 tyX2_ok nmX2 hki (by omega) rfl 3 (by decide) lk_X2_copy_fieldLink_RX2_40_RaceWatch_Kept_readNumber_I rfl rfl rfl (Nat.le_of_ble_eq_true rfl) dX2_copy_29 (fun F4 H4 l4 e4 o4 hP => ?_)
  have hki : F4 (ki) = ob 2 ([.int (b0), .int (b1), .int (b2), .int (b3), .int (a4), rf G (kj), .int (a6), .int (a7), .int (a8), .int (a9)]) := e4
  have hkj := (o4 (kj) (by omega)).trans hkj
  have hpi := (o4 (pi) (by omega)).trans hpi
  have hpj := (o4 (pj) (by omega)).trans hpj
  have hO : ∀ j, j ≠ ki ∧ j ≠ kj → F4 j = F j := fun j hj => (o4 j (by omega)).trans (hO j hj)
  refine lv_aload_n X.1.1 X.1.2.1 dX2_copy_32 rfl (lv_at hl 0 rfl) ?_
  refine lv_aload_n X.1.1 X.1.2.1 dX2_copy_33 rfl (lv_at hl 1 rfl) ?_
  refine sx_get X hP in_X2_copy_X2 hpi (by omega) rfl 4 (by decide) lk_X2_copy_fieldLink_RX2_43_RaceWatch_Kept_isShared_Z rfl dX2_copy_34 ?_
  refine sx_put X hP in_X2_copy_X2 tyX2 tyX2_ok nmX2 hki (by omega) rfl 4 (by decide) lk_X2_copy_fieldLink_RX2_43_RaceWatch_Kept_isShared_Z rfl hb4 hf4 (Nat.le_of_ble_eq_true rfl) dX2_copy_37 (fun F5 H5 l5 e5 o5 hP => ?_)
  have hki : F5 (ki) = ob 2 ([.int (b0), .int (b1), .int (b2), .int (b3), .int (b4), rf G (kj), .int (a6), .int (a7), .int (a8), .int (a9)]) := e5
  have hkj := (o5 (kj) (by omega)).trans hkj
  have hpi := (o5 (pi) (by omega)).trans hpi
  have hpj := (o5 (pj) (by omega)).trans hpj
  have hO : ∀ j, j ≠ ki ∧ j ≠ kj → F5 j = F j := fun j hj => (o5 j (by omega)).trans (hO j hj)
  refine lv_aload_n X.1.1 X.1.2.1 dX2_copy_40 rfl (lv_at hl 1 rfl) ?_
  refine sx_get X hP in_X2_copy_X2 hpi (by omega) rfl 5 (by decide) lk_X2_copy_fieldLink_RX2_9_RaceWatch_Kept_readNumbers_I rfl dX2_copy_41 ?_
  refine lv_iconst (v := nI 0) X.1.1 X.1.2.1 dX2_copy_44 (by decide) ?_
  refine lv_aload_n X.1.1 X.1.2.1 dX2_copy_45 rfl (lv_at hl 0 rfl) ?_
  refine sx_get X hP in_X2_copy_X2 hki (by omega) rfl 5 (by decide) lk_X2_copy_fieldLink_RX2_9_RaceWatch_Kept_readNumbers_I rfl dX2_copy_46 ?_
  refine lv_iconst (v := nI 0) X.1.1 X.1.2.1 dX2_copy_49 (by decide) ?_
  refine lv_iconst (v := nI 4) X.1.1 X.1.2.1 dX2_copy_50 (by decide) ?_
  refine sx_copy X hP hl.1 lk_X2_copy_methodLink_RX2_47_arraycopyName lk_X2_copy_native_arraycopyName lk_X2_copy_static_arraycopyName lk_X2_copy_initialized_java_lang_System hpj hkj (by omega) (by omega) (0) (0) (4) (by decide) (by decide) (by decide) (by decide) (Nat.le_of_ble_eq_true rfl) (Nat.le_of_ble_eq_true rfl) dX2_copy_51 (fun F6 H6 l6 e6 o6 hP => ?_)
  obtain ⟨w6, hw6⟩ : ∃ z, z = va_cpy g nr (0) (0) (4) := ⟨_, rfl⟩
  rw [← hw6] at e6
  have hkj : F6 (kj) = rI G (4) (w6) := e6
  have hki := (o6 (ki) (by omega)).trans hki
  have hpi := (o6 (pi) (by omega)).trans hpi
  have hpj := (o6 (pj) (by omega)).trans hpj
  have hO : ∀ j, j ≠ ki ∧ j ≠ kj → F6 j = F j := fun j hj => (o6 j (by omega)).trans (hO j hj)
  refine lv_aload_n X.1.1 X.1.2.1 dX2_copy_54 rfl (lv_at hl 0 rfl) ?_
  refine lv_aload_n X.1.1 X.1.2.1 dX2_copy_55 rfl (lv_at hl 1 rfl) ?_
  refine sx_get X hP in_X2_copy_X2 hpi (by omega) rfl 6 (by decide) lk_X2_copy_fieldLink_RX2_25_RaceWatch_Kept_promotions_I rfl dX2_copy_56 ?_
  refine sx_put X hP in_X2_copy_X2 tyX2 tyX2_ok nmX2 hki (by omega) rfl 6 (by decide) lk_X2_copy_fieldLink_RX2_25_RaceWatch_Kept_promotions_I rfl rfl rfl (Nat.le_of_ble_eq_true rfl) dX2_copy_59 (fun F7 H7 l7 e7 o7 hP => ?_)
  have hki : F7 (ki) = ob 2 ([.int (b0), .int (b1), .int (b2), .int (b3), .int (b4), rf G (kj), .int (b6), .int (a7), .int (a8), .int (a9)]) := e7
  have hkj := (o7 (kj) (by omega)).trans hkj
  have hpi := (o7 (pi) (by omega)).trans hpi
  have hpj := (o7 (pj) (by omega)).trans hpj
  have hO : ∀ j, j ≠ ki ∧ j ≠ kj → F7 j = F j := fun j hj => (o7 j (by omega)).trans (hO j hj)
  refine lv_aload_n X.1.1 X.1.2.1 dX2_copy_62 rfl (lv_at hl 0 rfl) ?_
  refine lv_aload_n X.1.1 X.1.2.1 dX2_copy_63 rfl (lv_at hl 1 rfl) ?_
  refine sx_get X hP in_X2_copy_X2 hpi (by omega) rfl 7 (by decide) lk_X2_copy_fieldLink_RX2_28_RaceWatch_Kept_firstEvent_I rfl dX2_copy_64 ?_
  refine sx_put X hP in_X2_copy_X2 tyX2 tyX2_ok nmX2 hki (by omega) rfl 7 (by decide) lk_X2_copy_fieldLink_RX2_28_RaceWatch_Kept_firstEvent_I rfl rfl rfl (Nat.le_of_ble_eq_true rfl) dX2_copy_67 (fun F8 H8 l8 e8 o8 hP => ?_)
  have hki : F8 (ki) = ob 2 ([.int (b0), .int (b1), .int (b2), .int (b3), .int (b4), rf G (kj), .int (b6), .int (b7), .int (a8), .int (a9)]) := e8
  have hkj := (o8 (kj) (by omega)).trans hkj
  have hpi := (o8 (pi) (by omega)).trans hpi
  have hpj := (o8 (pj) (by omega)).trans hpj
  have hO : ∀ j, j ≠ ki ∧ j ≠ kj → F8 j = F j := fun j hj => (o8 j (by omega)).trans (hO j hj)
  refine lv_aload_n X.1.1 X.1.2.1 dX2_copy_70 rfl (lv_at hl 0 rfl) ?_
  refine lv_aload_n X.1.1 X.1.2.1 dX2_copy_71 rfl (lv_at hl 1 rfl) ?_
  refine sx_get X hP in_X2_copy_X2 hpi (by omega) rfl 8 (by decide) lk_X2_copy_fieldLink_RX2_31_RaceWatch_Kept_firstKind_I rfl dX2_copy_72 ?_
  refine sx_put X hP in_X2_copy_X2 tyX2 tyX2_ok nmX2 hki (by omega) rfl 8 (by decide) lk_X2_copy_fieldLink_RX2_31_RaceWatch_Kept_firstKind_I rfl rfl rfl (Nat.le_of_ble_eq_true rfl) dX2_copy_75 (fun F9 H9 l9 e9 o9 hP => ?_)
  have hki : F9 (ki) = ob 2 ([.int (b0), .int (b1), .int (b2), .int (b3), .int (b4), rf G (kj), .int (b6), .int (b7), .int (b8), .int (a9)]) := e9
  have hkj := (o9 (kj) (by omega)).trans hkj
  have hpi := (o9 (pi) (by omega)).trans hpi
  have hpj := (o9 (pj) (by omega)).trans hpj
  have hO : ∀ j, j ≠ ki ∧ j ≠ kj → F9 j = F j := fun j hj => (o9 j (by omega)).trans (hO j hj)
  refine lv_aload_n X.1.1 X.1.2.1 dX2_copy_78 rfl (lv_at hl 0 rfl) ?_
  refine lv_aload_n X.1.1 X.1.2.1 dX2_copy_79 rfl (lv_at hl 1 rfl) ?_
  refine sx_get X hP in_X2_copy_X2 hpi (by omega) rfl 9 (by decide) lk_X2_copy_fieldLink_RX2_34_RaceWatch_Kept_guards_I rfl dX2_copy_80 ?_
  refine sx_put X hP in_X2_copy_X2 tyX2 tyX2_ok nmX2 hki (by omega) rfl 9 (by decide) lk_X2_copy_fieldLink_RX2_34_RaceWatch_Kept_guards_I rfl rfl rfl (Nat.le_of_ble_eq_true rfl) dX2_copy_83 (fun F10 H10 l10 e10 o10 hP => ?_)
  have hki : F10 (ki) = ob 2 ([.int (b0), .int (b1), .int (b2), .int (b3), .int (b4), rf G (kj), .int (b6), .int (b7), .int (b8), .int (b9)]) := e10
  have hkj := (o10 (kj) (by omega)).trans hkj
  have hpi := (o10 (pi) (by omega)).trans hpi
  have hpj := (o10 (pj) (by omega)).trans hpj
  have hO : ∀ j, j ≠ ki ∧ j ≠ kj → F10 j = F j := fun j hj => (o10 j (by omega)).trans (hO j hj)
  rw [hQ]
  exact sx_vret X rfl hs rfl hP dX2_copy_86 (⟨hki, ⟨_, hkj, fun k hk => by rw [hw6]; exact (pk_cpy_in (by omega) (by omega)).trans (congrArg g (by omega))⟩, hO⟩)
