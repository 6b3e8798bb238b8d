theorem ys_X7_shuts : yX7_shuts.cls ≠ "java/lang/invoke/MethodHandle" ∧ yX7_shuts.cls ≠ "java/lang/invoke/VarHandle" ∧ (parseMethodDescriptor yX7_shuts.desc).map (fun d => d.parameters.length) = some 0 := by decide +kernel
theorem yv_X7_shuts : yX7_shuts.cls = RX7 ∧ yX7_shuts.cls ≠ "java/lang/invoke/MethodHandle" ∧ yX7_shuts.cls ≠ "java/lang/invoke/VarHandle" ∧ (parseMethodDescriptor yX7_shuts.desc).map (fun d => d.parameters.length) = some 0 := ⟨rfl, ys_X7_shuts⟩
theorem in_X7_shuts_X7 : ∀ w ∈ wsX70, w ∈ wsX7_shuts := fun _ h => List.mem_cons_of_mem _ (List.mem_append_right _ (h))
theorem lk_X7_shuts_fieldLink_RX7_162_RaceWatchModel_open_I : (.fieldLink RX7 162 "RaceWatchModel" "open" "I" : Cond) ∈ wsX7_shuts := List.mem_cons_of_mem _ (List.mem_append_left _ (List.mem_append_left _ (List.mem_of_getElem? (i := 0) rfl)))
theorem lk_X7_shuts_fieldLink_RX7_20_RaceWatchModel_openLock_I : (.fieldLink RX7 20 "RaceWatchModel" "openLock" "[I" : Cond) ∈ wsX7_shuts := List.mem_cons_of_mem _ (List.mem_append_left _ (List.mem_append_left _ (List.mem_of_getElem? (i := 1) rfl)))
theorem lk_X7_shuts_fieldLink_RX7_23_RaceWatchModel_openThread_I : (.fieldLink RX7 23 "RaceWatchModel" "openThread" "[I" : Cond) ∈ wsX7_shuts := List.mem_cons_of_mem _ (List.mem_append_left _ (List.mem_append_left _ (List.mem_of_getElem? (i := 2) rfl)))
theorem lk_X7_shuts_fieldLink_RX7_159_RaceWatchModel_who_I : (.fieldLink RX7 159 "RaceWatchModel" "who" "I" : Cond) ∈ wsX7_shuts := List.mem_cons_of_mem _ (List.mem_append_left _ (List.mem_append_left _ (List.mem_of_getElem? (i := 3) rfl)))
theorem lk_X7_shuts_fieldLink_RX7_156_RaceWatchModel_regions_I : (.fieldLink RX7 156 "RaceWatchModel" "regions" "I" : Cond) ∈ wsX7_shuts := List.mem_cons_of_mem _ (List.mem_append_left _ (List.mem_append_left _ (List.mem_of_getElem? (i := 4) rfl)))
abbrev rmX7_shuts : Room := { frames := 4, cells := 0, slots := 0, locals := 101 }
set_option maxHeartbeats 800000 in
set_option maxRecDepth 100000 in
theorem mX7_shuts {G : sx_G} (l : Launch) {F : Nat → va_E} {a1 xl : Value} {w jo ol ot : Nat → Int32} {A : Nat → Nat} {i len n en it who d : Nat} {fig fa fat : Int32} {due : Nat} (hIT : IT A len i (w, n, en, jo, due, it, who, d, ol, ot)) (hd : 0 < d) (hi : i ≤ len) (h91 : F (91) = ob 7 ([rf G 92, a1, .int (nI (en)), rf G 94, xl, .int (nI (i)), .int (fig), .int (fa), .int (fat), .int (nI (who)), .int (nI (d)), .int (nI (rgF ol d)), rf G 95, rf G 96])) (h92 : F (92) = rI G (4358) (w)) (h94 : F (94) = rI G (24) (jo)) (h95 : F (95) = rI G (240) (ol)) (h96 : F (96) = rI G (240) (ot)) : sx_V G l yX7_shuts wsX7_shuts rmX7_shuts [rf G 91] (97) F (97) (fun F1 => RS G F1 a1 xl i fig fa fat (shutT (w, n, en, jo, due, it, who, d, ol, ot)) ∧ ∀ j, j ≠ 91 ∧ j ≠ 92 ∧ j ≠ 94 ∧ j ≠ 95 ∧ j ≠ 96 → F1 j = F j) := by
  refine sx_enter (cc := cX7_shuts) (maxL := 1) (ret := none) (own := RX7) (nm := "shuts") (by decide) rfl rfl rfl (Nat.le_of_ble_eq_true rfl) ?_
  intro pp ee ss mm args below meth kc ls Q hQ X hs hP hl
  have hl : lv_has ls 1 [(0, rf G 91)] := hl
  have hO : ∀ j, j ≠ 91 ∧ j ≠ 92 ∧ j ≠ 94 ∧ j ≠ 95 ∧ j ≠ 96 → F j = F j := fun _ _ => rfl
  obtain ⟨hWF, hrg, hdi, hwho, hen, hjo, hst, ⟨hch1, hch2⟩, hA⟩ := id hIT
  have hn := hWF.2.1
  have h91n := hWF.1
  have hl240 := hA.2.1
  have hrl := rgF_le ol d
  obtain ⟨hlk, t, ht, hth⟩ := hst (d - 1) (by omega)
  rcases hlk with hlk | ⟨x, hx3, hlk⟩
  · have hr2 := rgF_same hd hlk
    refine lv_aload_n X.1.1 X.1.2.1 dX7_shuts_0 rfl (lv_at hl 0 rfl) ?_
    refine lv_dup X.1.1 X.1.2.1 dX7_shuts_1 rfl ?_
    refine sx_get X hP in_X7_shuts_X7 h91 (by decide) rfl 10 (by decide) lk_X7_shuts_fieldLink_RX7_162_RaceWatchModel_open_I rfl dX7_shuts_2 ?_
    refine lv_iconst (v := nI 1) X.1.1 X.1.2.1 dX7_shuts_5 (by decide) ?_
    refine sx_subN X ((d - 1)) (by omega) (by omega) dX7_shuts_6 ?_
    refine sx_put X hP in_X7_shuts_X7 tyX7 tyX7_ok nmX7 h91 (by decide) rfl 10 (by decide) lk_X7_shuts_fieldLink_RX7_162_RaceWatchModel_open_I rfl rfl rfl (Nat.le_of_ble_eq_true rfl) dX7_shuts_7 (fun F1 H1 l1 e1 o1 hP => ?_)
    have h91 : F1 (91) = ob 7 ([rf G 92, a1, .int (nI (en)), rf G 94, xl, .int (nI (i)), .int (fig), .int (fa), .int (fat), .int (nI (who)), .int (nI ((d - 1))), .int (nI (rgF ol d)), rf G 95, rf G 96]) := e1
    have h92 := (o1 (92) (by decide)).trans h92
    have h94 := (o1 (94) (by decide)).trans h94
    have h95 := (o1 (95) (by decide)).trans h95
    have h96 := (o1 (96) (by decide)).trans h96
    have hO : ∀ j, j ≠ 91 ∧ j ≠ 92 ∧ j ≠ 94 ∧ j ≠ 95 ∧ j ≠ 96 → F1 j = F j := fun j hj => (o1 j (by omega)).trans (hO j hj)
    refine lv_aload_n X.1.1 X.1.2.1 dX7_shuts_10 rfl (lv_at hl 0 rfl) ?_
    refine sx_get X hP in_X7_shuts_X7 h91 (by decide) rfl 12 (by decide) lk_X7_shuts_fieldLink_RX7_20_RaceWatchModel_openLock_I rfl dX7_shuts_11 ?_
    refine lv_aload_n X.1.1 X.1.2.1 dX7_shuts_14 rfl (lv_at hl 0 rfl) ?_
    refine sx_get X hP in_X7_shuts_X7 h91 (by decide) rfl 10 (by decide) lk_X7_shuts_fieldLink_RX7_162_RaceWatchModel_open_I rfl dX7_shuts_15 ?_
    refine sx_ald X hP h95 (by decide) ((d - 1)) (by omega) (by decide) dX7_shuts_18 ?_
    rw [hlk]
    refine lv_iconst (v := (-1)) X.1.1 X.1.2.1 dX7_shuts_19 (by decide) ?_
    refine lv_icmp_ne X.1.1 X.1.2.1 (tgt := 39) dX7_shuts_20 (by decide) (fun h => absurd rfl h) (fun _ => ?_)
    refine lv_aload_n X.1.1 X.1.2.1 dX7_shuts_23 rfl (lv_at hl 0 rfl) ?_
    refine lv_aload_n X.1.1 X.1.2.1 dX7_shuts_24 rfl (lv_at hl 0 rfl) ?_
    refine sx_get X hP in_X7_shuts_X7 h91 (by decide) rfl 13 (by decide) lk_X7_shuts_fieldLink_RX7_23_RaceWatchModel_openThread_I rfl dX7_shuts_25 ?_
    refine lv_aload_n X.1.1 X.1.2.1 dX7_shuts_28 rfl (lv_at hl 0 rfl) ?_
    refine sx_get X hP in_X7_shuts_X7 h91 (by decide) rfl 10 (by decide) lk_X7_shuts_fieldLink_RX7_162_RaceWatchModel_open_I rfl dX7_shuts_29 ?_
    refine sx_ald X hP h96 (by decide) ((d - 1)) (by omega) (by decide) dX7_shuts_32 ?_
    rw [hth]
    refine sx_put X hP in_X7_shuts_X7 tyX7 tyX7_ok nmX7 h91 (by decide) rfl 9 (by decide) lk_X7_shuts_fieldLink_RX7_159_RaceWatchModel_who_I rfl rfl rfl (Nat.le_of_ble_eq_true rfl) dX7_shuts_33 (fun F2 H2 l2 e2 o2 hP => ?_)
    have h91 : F2 (91) = ob 7 ([rf G 92, a1, .int (nI (en)), rf G 94, xl, .int (nI (i)), .int (fig), .int (fa), .int (fat), .int (nI (t)), .int (nI ((d - 1))), .int (nI (rgF ol d)), rf G 95, rf G 96]) := e2
    have h92 := (o2 (92) (by decide)).trans h92
    have h94 := (o2 (94) (by decide)).trans h94
    have h95 := (o2 (95) (by decide)).trans h95
    have h96 := (o2 (96) (by decide)).trans h96
    have hO : ∀ j, j ≠ 91 ∧ j ≠ 92 ∧ j ≠ 94 ∧ j ≠ 95 ∧ j ≠ 96 → F2 j = F j := fun j hj => (o2 j (by omega)).trans (hO j hj)
    refine lv_goto (tgt := 86) X.1.1 X.1.2.1 dX7_shuts_36 (by decide) ?_
    rw [hQ]
    exact sx_vret X rfl hs rfl hP dX7_shuts_86 (⟨by rw [shutT_no hlk ht hth]; exact ⟨h91.trans (by rw [hr2]), h92, h94, h95, h96⟩, hO⟩)
  · have hne : ¬ ol (d - 1) = -1 := by rw [hlk]; exact sx_m1 (by omega)
    have hr2 := rgF_pred hd hne
    have hwt : who = t := (nI_eq (by omega) (by omega)).mp ((hch2 hd hne).symm.trans hth)
    refine lv_aload_n X.1.1 X.1.2.1 dX7_shuts_0 rfl (lv_at hl 0 rfl) ?_
    refine lv_dup X.1.1 X.1.2.1 dX7_shuts_1 rfl ?_
    refine sx_get X hP in_X7_shuts_X7 h91 (by decide) rfl 10 (by decide) lk_X7_shuts_fieldLink_RX7_162_RaceWatchModel_open_I rfl dX7_shuts_2 ?_
    refine lv_iconst (v := nI 1) X.1.1 X.1.2.1 dX7_shuts_5 (by decide) ?_
    refine sx_subN X ((d - 1)) (by omega) (by omega) dX7_shuts_6 ?_
    refine sx_put X hP in_X7_shuts_X7 tyX7 tyX7_ok nmX7 h91 (by decide) rfl 10 (by decide) lk_X7_shuts_fieldLink_RX7_162_RaceWatchModel_open_I rfl rfl rfl (Nat.le_of_ble_eq_true rfl) dX7_shuts_7 (fun F3 H3 l3 e3 o3 hP => ?_)
    have h91 : F3 (91) = ob 7 ([rf G 92, a1, .int (nI (en)), rf G 94, xl, .int (nI (i)), .int (fig), .int (fa), .int (fat), .int (nI (who)), .int (nI ((d - 1))), .int (nI (rgF ol d)), rf G 95, rf G 96]) := e3
    have h92 := (o3 (92) (by decide)).trans h92
    have h94 := (o3 (94) (by decide)).trans h94
    have h95 := (o3 (95) (by decide)).trans h95
    have h96 := (o3 (96) (by decide)).trans h96
    have hO : ∀ j, j ≠ 91 ∧ j ≠ 92 ∧ j ≠ 94 ∧ j ≠ 95 ∧ j ≠ 96 → F3 j = F j := fun j hj => (o3 j (by omega)).trans (hO j hj)
    refine lv_aload_n X.1.1 X.1.2.1 dX7_shuts_10 rfl (lv_at hl 0 rfl) ?_
    refine sx_get X hP in_X7_shuts_X7 h91 (by decide) rfl 12 (by decide) lk_X7_shuts_fieldLink_RX7_20_RaceWatchModel_openLock_I rfl dX7_shuts_11 ?_
    refine lv_aload_n X.1.1 X.1.2.1 dX7_shuts_14 rfl (lv_at hl 0 rfl) ?_
    refine sx_get X hP in_X7_shuts_X7 h91 (by decide) rfl 10 (by decide) lk_X7_shuts_fieldLink_RX7_162_RaceWatchModel_open_I rfl dX7_shuts_15 ?_
    refine sx_ald X hP h95 (by decide) ((d - 1)) (by omega) (by decide) dX7_shuts_18 ?_
    rw [hlk]
    refine lv_iconst (v := (-1)) X.1.1 X.1.2.1 dX7_shuts_19 (by decide) ?_
    refine lv_icmp_ne X.1.1 X.1.2.1 (tgt := 39) dX7_shuts_20 (by decide) (fun _ => ?_) (fun h => absurd h (sx_m1 (by omega)))
    refine lv_aload_n X.1.1 X.1.2.1 dX7_shuts_39 rfl (lv_at hl 0 rfl) ?_
    refine lv_aload_n X.1.1 X.1.2.1 dX7_shuts_40 rfl (lv_at hl 0 rfl) ?_
    refine sx_get X hP in_X7_shuts_X7 h91 (by decide) rfl 13 (by decide) lk_X7_shuts_fieldLink_RX7_23_RaceWatchModel_openThread_I rfl dX7_shuts_41 ?_
    refine lv_aload_n X.1.1 X.1.2.1 dX7_shuts_44 rfl (lv_at hl 0 rfl) ?_
    refine sx_get X hP in_X7_shuts_X7 h91 (by decide) rfl 10 (by decide) lk_X7_shuts_fieldLink_RX7_162_RaceWatchModel_open_I rfl dX7_shuts_45 ?_
    refine sx_ald X hP h96 (by decide) ((d - 1)) (by omega) (by decide) dX7_shuts_48 ?_
    rw [hth]
    refine lv_iconst (v := nI 3) X.1.1 X.1.2.1 dX7_shuts_49 (by decide) ?_
    refine lv_aload_n X.1.1 X.1.2.1 dX7_shuts_50 rfl (lv_at hl 0 rfl) ?_
    refine sx_get X hP in_X7_shuts_X7 h91 (by decide) rfl 12 (by decide) lk_X7_shuts_fieldLink_RX7_20_RaceWatchModel_openLock_I rfl dX7_shuts_51 ?_
    refine lv_aload_n X.1.1 X.1.2.1 dX7_shuts_54 rfl (lv_at hl 0 rfl) ?_
    refine sx_get X hP in_X7_shuts_X7 h91 (by decide) rfl 10 (by decide) lk_X7_shuts_fieldLink_RX7_162_RaceWatchModel_open_I rfl dX7_shuts_55 ?_
    refine sx_ald X hP h95 (by decide) ((d - 1)) (by omega) (by decide) dX7_shuts_58 ?_
    rw [hlk]
    refine sx_cvV (As := [.int (nI (t)), .int (nI 3), .int (nI (x))]) (rest := []) X (mX7_comes l (n := n) (t := t) (s := 3) (x := x) (by omega) (by omega) (by omega) (by omega) h91n (fun h => absurd h (by decide)) h91 h92) gX7_shuts_X7_comes rfl yv_X7_comes ⟨Nat.le_of_ble_eq_true rfl, Nat.le_of_ble_eq_true rfl⟩ h91 (by decide) rfl rfl hl.1 rfl (Nat.le_of_ble_eq_true rfl) dX7_shuts_59 ⟨Nat.le_of_ble_eq_true rfl, Nat.le_of_ble_eq_true rfl⟩ hs rfl hP (fun F4 H4 l4 hp hP => ?_)
    obtain ⟨e4, o4⟩ := hp
    obtain ⟨w4, hw4⟩ : ∃ z, z = comeF w (n) (t) (3) (x) := ⟨_, rfl⟩
    rw [← hw4] at e4
    have h92 : F4 (92) = rI G (4358) (w4) := e4
    have h91 := (o4 (91) (by decide)).trans h91
    have h94 := (o4 (94) (by decide)).trans h94
    have h95 := (o4 (95) (by decide)).trans h95
    have h96 := (o4 (96) (by decide)).trans h96
    have hO : ∀ j, j ≠ 91 ∧ j ≠ 92 ∧ j ≠ 94 ∧ j ≠ 95 ∧ j ≠ 96 → F4 j = F j := fun j hj => (o4 j (by omega)).trans (hO j hj)
    have h91n_4 : w4 91 = nI (1 + n) := by rw [hw4]; exact (comeF_91 (by omega)).trans (congrArg nI (by omega))
    refine lv_aload_n X.1.1 X.1.2.1 dX7_shuts_62 rfl (lv_at hl 0 rfl) ?_
    refine lv_aload_n X.1.1 X.1.2.1 dX7_shuts_63 rfl (lv_at hl 0 rfl) ?_
    refine sx_get X hP in_X7_shuts_X7 h91 (by decide) rfl 12 (by decide) lk_X7_shuts_fieldLink_RX7_20_RaceWatchModel_openLock_I rfl dX7_shuts_64 ?_
    refine lv_aload_n X.1.1 X.1.2.1 dX7_shuts_67 rfl (lv_at hl 0 rfl) ?_
    refine sx_get X hP in_X7_shuts_X7 h91 (by decide) rfl 10 (by decide) lk_X7_shuts_fieldLink_RX7_162_RaceWatchModel_open_I rfl dX7_shuts_68 ?_
    refine sx_ald X hP h95 (by decide) ((d - 1)) (by omega) (by decide) dX7_shuts_71 ?_
    rw [hlk]
    refine lv_iconst (v := nI 0) X.1.1 X.1.2.1 dX7_shuts_72 (by decide) ?_
    refine sx_cvV (As := [.int (nI (x)), .int (nI 0)]) (rest := []) X (mX7_notes l (en := en) (x := x) (h := 0) (by omega) (by omega) (by omega) h91 h94) gX7_shuts_X7_notes rfl yv_X7_notes ⟨Nat.le_of_ble_eq_true rfl, Nat.le_of_ble_eq_true rfl⟩ h91 (by decide) rfl rfl hl.1 rfl (Nat.le_of_ble_eq_true rfl) dX7_shuts_73 ⟨Nat.le_of_ble_eq_true rfl, Nat.le_of_ble_eq_true rfl⟩ hs rfl hP (fun F5 H5 l5 hp hP => ?_)
    obtain ⟨e5, f5, o5⟩ := hp
    have h91 : F5 (91) = ob 7 ([rf G 92, a1, .int (nI (jnE en)), rf G 94, xl, .int (nI (i)), .int (fig), .int (fa), .int (fat), .int (nI (who)), .int (nI ((d - 1))), .int (nI (rgF ol d)), rf G 95, rf G 96]) := e5
    have h92 := (o5 (92) (by decide)).trans h92
    have h94 : F5 (94) = rI G (24) (jnR en jo (nI (2 * x + 0))) := f5
    have h95 := (o5 (95) (by decide)).trans h95
    have h96 := (o5 (96) (by decide)).trans h96
    have hO : ∀ j, j ≠ 91 ∧ j ≠ 92 ∧ j ≠ 94 ∧ j ≠ 95 ∧ j ≠ 96 → F5 j = F j := fun j hj => (o5 j (by omega)).trans (hO j hj)
    refine lv_aload_n X.1.1 X.1.2.1 dX7_shuts_76 rfl (lv_at hl 0 rfl) ?_
    refine lv_dup X.1.1 X.1.2.1 dX7_shuts_77 rfl ?_
    refine sx_get X hP in_X7_shuts_X7 h91 (by decide) rfl 11 (by decide) lk_X7_shuts_fieldLink_RX7_156_RaceWatchModel_regions_I rfl dX7_shuts_78 ?_
    refine lv_iconst (v := nI 1) X.1.1 X.1.2.1 dX7_shuts_81 (by decide) ?_
    refine sx_subN X ((rgF ol d - 1)) (by omega) (by omega) dX7_shuts_82 ?_
    refine sx_put X hP in_X7_shuts_X7 tyX7 tyX7_ok nmX7 h91 (by decide) rfl 11 (by decide) lk_X7_shuts_fieldLink_RX7_156_RaceWatchModel_regions_I rfl rfl rfl (Nat.le_of_ble_eq_true rfl) dX7_shuts_83 (fun F6 H6 l6 e6 o6 hP => ?_)
    have h91 : F6 (91) = ob 7 ([rf G 92, a1, .int (nI (jnE en)), rf G 94, xl, .int (nI (i)), .int (fig), .int (fa), .int (fat), .int (nI (who)), .int (nI ((d - 1))), .int (nI ((rgF ol d - 1))), rf G 95, rf G 96]) := e6
    have h92 := (o6 (92) (by decide)).trans h92
    have h94 := (o6 (94) (by decide)).trans h94
    have h95 := (o6 (95) (by decide)).trans h95
    have h96 := (o6 (96) (by decide)).trans h96
    have hO : ∀ j, j ≠ 91 ∧ j ≠ 92 ∧ j ≠ 94 ∧ j ≠ 95 ∧ j ≠ 96 → F6 j = F j := fun j hj => (o6 j (by omega)).trans (hO j hj)
    rw [hQ]
    exact sx_vret X rfl hs rfl hP dX7_shuts_86 (⟨by rw [shutT_lk hx3 hlk ht hth]; exact ⟨h91.trans (by rw [hwt, show rgF ol d - 1 = rgF ol (d - 1) by omega]), h92.trans (by rw [hw4]), h94, h95, h96⟩, hO⟩)
theorem ys_X7_takesRegion : yX7_takesRegion.cls ≠ "java/lang/invoke/MethodHandle" ∧ yX7_takesRegion.cls ≠ "java/lang/invoke/VarHandle" ∧ (parseMethodDescriptor yX7_takesRegion.desc).map (fun d => d.parameters.length) = some 0 := by decide +kernel
theorem yv_X7_takesRegion : yX7_takesRegion.cls = RX7 ∧ yX7_takesRegion.cls ≠ "java/lang/invoke/MethodHandle" ∧ yX7_takesRegion.cls ≠ "java/lang/invoke/VarHandle" ∧ (parseMethodDescriptor yX7_takesRegion.desc).map (fun d => d.parameters.length) = some 0 := ⟨rfl, ys_X7_takesRegion⟩
theorem in_X7_takesRegion_X7 : ∀ w ∈ wsX70, w ∈ wsX7_takesRegion := fun _ h => List.mem_cons_of_mem _ (List.mem_append_right _ (h))
theorem lk_X7_takesRegion_fieldLink_RX7_153_RaceWatchModel_figure_I : (.fieldLink RX7 153 "RaceWatchModel" "figure" "I" : Cond) ∈ wsX7_takesRegion := List.mem_cons_of_mem _ (List.mem_append_left _ (List.mem_append_left _ (List.mem_of_getElem? (i := 0) rfl)))
theorem lk_X7_takesRegion_fieldLink_RX7_156_RaceWatchModel_regions_I : (.fieldLink RX7 156 "RaceWatchModel" "regions" "I" : Cond) ∈ wsX7_takesRegion := List.mem_cons_of_mem _ (List.mem_append_left _ (List.mem_append_left _ (List.mem_of_getElem? (i := 1) rfl)))
theorem lk_X7_takesRegion_fieldLink_RX7_159_RaceWatchModel_who_I : (.fieldLink RX7 159 "RaceWatchModel" "who" "I" : Cond) ∈ wsX7_takesRegion := List.mem_cons_of_mem _ (List.mem_append_left _ (List.mem_append_left _ (List.mem_of_getElem? (i := 2) rfl)))
abbrev rmX7_takesRegion : Room := { frames := 5, cells := 0, slots := 0, locals := 123 }
set_option maxHeartbeats 800000 in
set_option maxRecDepth 100000 in
theorem mX7_takesRegion {G : sx_G} (l : Launch) {F : Nat → va_E} {a1 xl : Value} {w jo ol ot : Nat → Int32} {A : Nat → Nat} {i len n en it who d : Nat} {fig fa fat : Int32}  (hIT : IT A len i (w, n, en, jo, 1, 2, who, d, ol, ot)) (hi : i ≤ len) (h91 : F (91) = ob 7 ([rf G 92, a1, .int (nI (en)), rf G 94, xl, .int (nI (i)), .int (fig), .int (fa), .int (fat), .int (nI (who)), .int (nI (d)), .int (nI (rgF ol d)), rf G 95, rf G 96])) (h92 : F (92) = rI G (4358) (w)) (h94 : F (94) = rI G (24) (jo)) (h95 : F (95) = rI G (240) (ol)) (h96 : F (96) = rI G (240) (ot)) : sx_I G l yX7_takesRegion wsX7_takesRegion rmX7_takesRegion [rf G 91] (97) F (97) (fun r F1 => done G A len i (w, n, en, jo, 1, 2, who, d, ol, ot) a1 xl fa fat r F1 ∧ ∀ j, j ≠ 91 ∧ j ≠ 92 ∧ j ≠ 94 ∧ j ≠ 95 ∧ j ≠ 96 → F1 j = F j) := by
  refine sx_enter (cc := cX7_takesRegion) (maxL := 1) (ret := some .boolean) (own := RX7) (nm := "takesRegion") (by decide) rfl rfl rfl (Nat.le_of_ble_eq_true rfl) ?_
  intro pp ee ss mm args below meth kc ls Q hQ X hs hP hl
  have hl : lv_has ls 1 [(0, rf G 91)] := hl
  have hO : ∀ j, j ≠ 91 ∧ j ≠ 92 ∧ j ≠ 94 ∧ j ≠ 95 ∧ j ≠ 96 → F j = F j := fun _ _ => rfl
  obtain ⟨hWF, hrg, hdi, hwho, hen, hjo, hst, ⟨hch1, hch2⟩, hA⟩ := id hIT
  have hn := hWF.2.1
  have h91n := hWF.1
  have hl240 := hA.2.1
  have hrl := rgF_le ol d
  refine lv_aload_n X.1.1 X.1.2.1 dX7_takesRegion_0 rfl (lv_at hl 0 rfl) ?_
  refine lv_iconst (v := nI 2) X.1.1 X.1.2.1 dX7_takesRegion_1 (by decide) ?_
  refine sx_cvI (As := [.int (nI 2)]) (rest := []) X (mX7_takesFigure l (A := A) (len := len) (i := i) (mo := 2) hA (by omega) hl240 (by decide) h91 h92) gX7_takesRegion_X7_takesFigure rfl yv_X7_takesFigure ⟨Nat.le_of_ble_eq_true rfl, Nat.le_of_ble_eq_true rfl⟩ h91 (by decide) rfl rfl hl.1 rfl (Nat.le_of_ble_eq_true rfl) dX7_takesRegion_2 ⟨Nat.le_of_ble_eq_true rfl, Nat.le_of_ble_eq_true rfl⟩ hs rfl hP (fun r1 F1 H1 l1 hp hP => ?_)
  obtain ⟨i1, sk1, o1, ⟨e1, q1, rfl⟩ | ⟨e1, q1, q2, q3, q4, rfl⟩ | ⟨e1, q1, q2, q3, q4, rfl⟩⟩ := hp
  · have g1a := sk1.1
    have g1b := sk1.2.1
    have h91 : F1 (91) = ob 7 ([rf G 92, a1, .int (nI (en)), rf G 94, xl, .int (nI (i1)), .int (fig), .int (nI 1), .int (nI (i1)), .int (nI (who)), .int (nI (d)), .int (nI (rgF ol d)), rf G 95, rf G 96]) := e1
    have h92 := (o1 (92) (by decide)).trans h92
    have h94 := (o1 (94) (by decide)).trans h94
    have h95 := (o1 (95) (by decide)).trans h95
    have h96 := (o1 (96) (by decide)).trans h96
    have hO : ∀ j, j ≠ 91 ∧ j ≠ 92 ∧ j ≠ 94 ∧ j ≠ 95 ∧ j ≠ 96 → F1 j = F j := fun j hj => (o1 j (by omega)).trans (hO j hj)
    refine sx_if_eq X (by decide) (tgt := 16) dX7_takesRegion_5 (by decide) (fun _ => ?_) (fun h => absurd h (by decide))
    refine lv_iconst (v := nI 0) X.1.1 X.1.2.1 dX7_takesRegion_16 (by decide) ?_
    rw [hQ]
    exact sx_zret X rfl (by decide) hs rfl hP dX7_takesRegion_17 (⟨Or.inr ⟨rfl, (w, n, en, jo, 1, 2, who, d, ol, ot), i1, 1, _, by decide, by decide, by omega, hIT.le (by omega), ⟨h91, h92, h94, h95, h96⟩, num_f1 sk1 q1⟩, hO⟩)
  · have g1a := sk1.1
    have g1b := sk1.2.1
    have h91 : F1 (91) = ob 7 ([rf G 92, a1, .int (nI (en)), rf G 94, xl, .int (nI (i1)), .int (nI ((A i1 - 48))), .int (nI 2), .int (nI (i1)), .int (nI (who)), .int (nI (d)), .int (nI (rgF ol d)), rf G 95, rf G 96]) := e1
    have h92 := (o1 (92) (by decide)).trans h92
    have h94 := (o1 (94) (by decide)).trans h94
    have h95 := (o1 (95) (by decide)).trans h95
    have h96 := (o1 (96) (by decide)).trans h96
    have hO : ∀ j, j ≠ 91 ∧ j ≠ 92 ∧ j ≠ 94 ∧ j ≠ 95 ∧ j ≠ 96 → F1 j = F j := fun j hj => (o1 j (by omega)).trans (hO j hj)
    refine sx_if_eq X (by decide) (tgt := 16) dX7_takesRegion_5 (by decide) (fun _ => ?_) (fun h => absurd h (by decide))
    refine lv_iconst (v := nI 0) X.1.1 X.1.2.1 dX7_takesRegion_16 (by decide) ?_
    rw [hQ]
    exact sx_zret X rfl (by decide) hs rfl hP dX7_takesRegion_17 (⟨Or.inr ⟨rfl, (w, n, en, jo, 1, 2, who, d, ol, ot), i1, 2, _, by decide, by decide, by omega, hIT.le (by omega), ⟨h91, h92, h94, h95, h96⟩, num_f2 sk1 q1 q2 q3 (show boundF 2 ≤ _ from q4)⟩, hO⟩)
  · have g1a := sk1.1
    have g1b := sk1.2.1
    have h91 : F1 (91) = ob 7 ([rf G 92, a1, .int (nI (en)), rf G 94, xl, .int (nI (i1)), .int (nI ((A i1 - 48))), .int (fa), .int (fat), .int (nI (who)), .int (nI (d)), .int (nI (rgF ol d)), rf G 95, rf G 96]) := e1
    have h92 := (o1 (92) (by decide)).trans h92
    have h94 := (o1 (94) (by decide)).trans h94
    have h95 := (o1 (95) (by decide)).trans h95
    have h96 := (o1 (96) (by decide)).trans h96
    have hO : ∀ j, j ≠ 91 ∧ j ≠ 92 ∧ j ≠ 94 ∧ j ≠ 95 ∧ j ≠ 96 → F1 j = F j := fun j hj => (o1 j (by omega)).trans (hO j hj)
    have d1a := q1
    have d1b := q2
    have d1c := q3
    have d1d := q4
    refine sx_if_eq X (by decide) (tgt := 16) dX7_takesRegion_5 (by decide) (fun h => absurd h (by decide)) (fun _ => ?_)
    refine lv_aload_n X.1.1 X.1.2.1 dX7_takesRegion_8 rfl (lv_at hl 0 rfl) ?_
    refine lv_iconst (v := nI 2) X.1.1 X.1.2.1 dX7_takesRegion_9 (by decide) ?_
    refine sx_cvI (As := [.int (nI 2)]) (rest := []) X (mX7_did l (n := n) (t := who) (s := 2) (x := (A i1 - 48)) (g := rgF ol d) (i := i1) hWF hwho (by omega) (show _ < boundF 2 from by show _ < 3; omega) (by omega) (by omega) (by omega) (by omega) h91n h91 h92) gX7_takesRegion_X7_did rfl yv_X7_did ⟨Nat.le_of_ble_eq_true rfl, Nat.le_of_ble_eq_true rfl⟩ h91 (by decide) rfl rfl hl.1 rfl (Nat.le_of_ble_eq_true rfl) dX7_takesRegion_10 ⟨Nat.le_of_ble_eq_true rfl, Nat.le_of_ble_eq_true rfl⟩ hs rfl hP (fun r2 F2 H2 l2 hp hP => ?_)
    obtain ⟨o2, ⟨e2, f2, u1, rfl⟩ | ⟨e2, f2, u1, u2, rfl⟩ | ⟨e2, f2, u1, u2, rfl⟩⟩ := hp
    · have h91 : F2 (91) = ob 7 ([rf G 92, a1, .int (nI (en)), rf G 94, xl, .int (nI (i1)), .int (nI ((A i1 - 48))), .int (nI 3), .int (nI (i1)), .int (nI (who)), .int (nI (d)), .int (nI (rgF ol d)), rf G 95, rf G 96]) := e2
      have h92 : F2 (92) = rI G (4358) (w) := f2
      have h94 := (o2 (94) (by decide)).trans h94
      have h95 := (o2 (95) (by decide)).trans h95
      have h96 := (o2 (96) (by decide)).trans h96
      have hO : ∀ j, j ≠ 91 ∧ j ≠ 92 ∧ j ≠ 94 ∧ j ≠ 95 ∧ j ≠ 96 → F2 j = F j := fun j hj => (o2 j (by omega)).trans (hO j hj)
      refine sx_if_ne X (by decide) (tgt := 18) dX7_takesRegion_13 (by decide) (fun h => absurd h (by decide)) (fun _ => ?_)
      refine lv_iconst (v := nI 0) X.1.1 X.1.2.1 dX7_takesRegion_16 (by decide) ?_
      rw [hQ]
      exact sx_zret X rfl (by decide) hs rfl hP dX7_takesRegion_17 (⟨Or.inr ⟨rfl, (w, n, en, jo, 1, 2, who, d, ol, ot), i1, 3, _, by decide, by decide, by omega, hIT.le (by omega), ⟨h91, h92, h94, h95, h96⟩, num_f3 sk1 d1a d1b d1c (show _ < boundF 2 from Nat.lt_succ_of_le d1d) (by decide) u1⟩, hO⟩)
    · have h91 : F2 (91) = ob 7 ([rf G 92, a1, .int (nI (en)), rf G 94, xl, .int (nI (i1)), .int (nI ((A i1 - 48))), .int (nI 4), .int (nI (i1)), .int (nI (who)), .int (nI (d)), .int (nI (rgF ol d)), rf G 95, rf G 96]) := e2
      have h92 : F2 (92) = rI G (4358) (w) := f2
      have h94 := (o2 (94) (by decide)).trans h94
      have h95 := (o2 (95) (by decide)).trans h95
      have h96 := (o2 (96) (by decide)).trans h96
      have hO : ∀ j, j ≠ 91 ∧ j ≠ 92 ∧ j ≠ 94 ∧ j ≠ 95 ∧ j ≠ 96 → F2 j = F j := fun j hj => (o2 j (by omega)).trans (hO j hj)
      refine sx_if_ne X (by decide) (tgt := 18) dX7_takesRegion_13 (by decide) (fun h => absurd h (by decide)) (fun _ => ?_)
      refine lv_iconst (v := nI 0) X.1.1 X.1.2.1 dX7_takesRegion_16 (by decide) ?_
      rw [hQ]
      exact sx_zret X rfl (by decide) hs rfl hP dX7_takesRegion_17 (⟨Or.inr ⟨rfl, (w, n, en, jo, 1, 2, who, d, ol, ot), i1, 4, _, by decide, by decide, by omega, hIT.le (by omega), ⟨h91, h92, h94, h95, h96⟩, num_f4 sk1 d1a d1b d1c (show _ < boundF 2 from Nat.lt_succ_of_le d1d) (by decide) u1 u2⟩, hO⟩)
    · have h91 : F2 (91) = ob 7 ([rf G 92, a1, .int (nI (en)), rf G 94, xl, .int (nI (1 + i1)), .int (nI ((A i1 - 48))), .int (fa), .int (fat), .int (nI (who)), .int (nI (d)), .int (nI (rgF ol d)), rf G 95, rf G 96]) := e2
      have h92 : F2 (92) = rI G (4358) (comeF w n who (2) ((A i1 - 48))) := f2
      have h94 := (o2 (94) (by decide)).trans h94
      have h95 := (o2 (95) (by decide)).trans h95
      have h96 := (o2 (96) (by decide)).trans h96
      have hO : ∀ j, j ≠ 91 ∧ j ≠ 92 ∧ j ≠ 94 ∧ j ≠ 95 ∧ j ≠ 96 → F2 j = F j := fun j hj => (o2 j (by omega)).trans (hO j hj)
      have hm1 : 1 ≤ moreF (2) := by unfold moreF; split <;> omega
      have hA := lt_come (t := who) (s := 2) (x := (A i1 - 48)) hWF (by omega) hwho (by omega) (show _ < boundF 2 from by show _ < 3; omega) hA
      refine sx_if_ne X (by decide) (tgt := 18) dX7_takesRegion_13 (by decide) (fun _ => ?_) (fun h => absurd h (by decide))
      refine lv_aload_n X.1.1 X.1.2.1 dX7_takesRegion_18 rfl (lv_at hl 0 rfl) ?_
      refine lv_aload_n X.1.1 X.1.2.1 dX7_takesRegion_19 rfl (lv_at hl 0 rfl) ?_
      refine sx_get X hP in_X7_takesRegion_X7 h91 (by decide) rfl 6 (by decide) lk_X7_takesRegion_fieldLink_RX7_153_RaceWatchModel_figure_I rfl dX7_takesRegion_20 ?_
      refine lv_iconst (v := nI 1) X.1.1 X.1.2.1 dX7_takesRegion_23 (by decide) ?_
      refine sx_cvV (As := [.int (nI ((A i1 - 48))), .int (nI 1)]) (rest := []) X (mX7_notes l (en := en) (x := (A i1 - 48)) (h := 1) (by omega) (by omega) (by omega) h91 h94) gX7_takesRegion_X7_notes rfl yv_X7_notes ⟨Nat.le_of_ble_eq_true rfl, Nat.le_of_ble_eq_true rfl⟩ h91 (by decide) rfl rfl hl.1 rfl (Nat.le_of_ble_eq_true rfl) dX7_takesRegion_24 ⟨Nat.le_of_ble_eq_true rfl, Nat.le_of_ble_eq_true rfl⟩ hs rfl hP (fun F3 H3 l3 hp hP => ?_)
      obtain ⟨e3, f3, o3⟩ := hp
      have h91 : F3 (91) = ob 7 ([rf G 92, a1, .int (nI (jnE en)), rf G 94, xl, .int (nI (1 + i1)), .int (nI ((A i1 - 48))), .int (fa), .int (fat), .int (nI (who)), .int (nI (d)), .int (nI (rgF ol d)), rf G 95, rf G 96]) := e3
      have h92 := (o3 (92) (by decide)).trans h92
      have h94 : F3 (94) = rI G (24) (jnR en jo (nI (2 * ((A i1 - 48)) + 1))) := f3
      have h95 := (o3 (95) (by decide)).trans h95
      have h96 := (o3 (96) (by decide)).trans h96
      have hO : ∀ j, j ≠ 91 ∧ j ≠ 92 ∧ j ≠ 94 ∧ j ≠ 95 ∧ j ≠ 96 → F3 j = F j := fun j hj => (o3 j (by omega)).trans (hO j hj)
      refine lv_aload_n X.1.1 X.1.2.1 dX7_takesRegion_27 rfl (lv_at hl 0 rfl) ?_
      refine lv_dup X.1.1 X.1.2.1 dX7_takesRegion_28 rfl ?_
      refine sx_get X hP in_X7_takesRegion_X7 h91 (by decide) rfl 11 (by decide) lk_X7_takesRegion_fieldLink_RX7_156_RaceWatchModel_regions_I rfl dX7_takesRegion_29 ?_
      refine lv_iconst (v := nI 1) X.1.1 X.1.2.1 dX7_takesRegion_32 (by decide) ?_
      refine sx_addN X (1 + rgF ol d) (by omega) dX7_takesRegion_33 ?_
      refine sx_put X hP in_X7_takesRegion_X7 tyX7 tyX7_ok nmX7 h91 (by decide) rfl 11 (by decide) lk_X7_takesRegion_fieldLink_RX7_156_RaceWatchModel_regions_I rfl rfl rfl (Nat.le_of_ble_eq_true rfl) dX7_takesRegion_34 (fun F4 H4 l4 e4 o4 hP => ?_)
      have h91 : F4 (91) = ob 7 ([rf G 92, a1, .int (nI (jnE en)), rf G 94, xl, .int (nI (1 + i1)), .int (nI ((A i1 - 48))), .int (fa), .int (fat), .int (nI (who)), .int (nI (d)), .int (nI (1 + rgF ol d)), rf G 95, rf G 96]) := e4
      have h92 := (o4 (92) (by decide)).trans h92
      have h94 := (o4 (94) (by decide)).trans h94
      have h95 := (o4 (95) (by decide)).trans h95
      have h96 := (o4 (96) (by decide)).trans h96
      have hO : ∀ j, j ≠ 91 ∧ j ≠ 92 ∧ j ≠ 94 ∧ j ≠ 95 ∧ j ≠ 96 → F4 j = F j := fun j hj => (o4 j (by omega)).trans (hO j hj)
      refine lv_aload_n X.1.1 X.1.2.1 dX7_takesRegion_37 rfl (lv_at hl 0 rfl) ?_
      refine lv_aload_n X.1.1 X.1.2.1 dX7_takesRegion_38 rfl (lv_at hl 0 rfl) ?_
      refine sx_get X hP in_X7_takesRegion_X7 h91 (by decide) rfl 6 (by decide) lk_X7_takesRegion_fieldLink_RX7_153_RaceWatchModel_figure_I rfl dX7_takesRegion_39 ?_
      refine lv_aload_n X.1.1 X.1.2.1 dX7_takesRegion_42 rfl (lv_at hl 0 rfl) ?_
      refine sx_get X hP in_X7_takesRegion_X7 h91 (by decide) rfl 9 (by decide) lk_X7_takesRegion_fieldLink_RX7_159_RaceWatchModel_who_I rfl dX7_takesRegion_43 ?_
      refine sx_cvV (As := [.int (nI ((A i1 - 48))), .int (nI (who))]) (rest := []) X (mX7_opens l (d := d) (t := who) (lk := (nI ((A i1 - 48)))) (by omega) h91 h95 h96) gX7_takesRegion_X7_opens rfl yv_X7_opens ⟨Nat.le_of_ble_eq_true rfl, Nat.le_of_ble_eq_true rfl⟩ h91 (by decide) rfl rfl hl.1 rfl (Nat.le_of_ble_eq_true rfl) dX7_takesRegion_46 ⟨Nat.le_of_ble_eq_true rfl, Nat.le_of_ble_eq_true rfl⟩ hs rfl hP (fun F5 H5 l5 hp hP => ?_)
      obtain ⟨e5, f5, g5, o5⟩ := hp
      have h91 : F5 (91) = ob 7 ([rf G 92, a1, .int (nI (jnE en)), rf G 94, xl, .int (nI (1 + i1)), .int (nI ((A i1 - 48))), .int (fa), .int (fat), .int (nI (who)), .int (nI (1 + d)), .int (nI (1 + rgF ol d)), rf G 95, rf G 96]) := e5
      have h92 := (o5 (92) (by decide)).trans h92
      have h94 := (o5 (94) (by decide)).trans h94
      have h95 : F5 (95) = rI G (240) (upd ol d (nI ((A i1 - 48)))) := f5
      have h96 : F5 (96) = rI G (240) (upd ot d (nI (who))) := g5
      have hO : ∀ j, j ≠ 91 ∧ j ≠ 92 ∧ j ≠ 94 ∧ j ≠ 95 ∧ j ≠ 96 → F5 j = F j := fun j hj => (o5 j (by omega)).trans (hO j hj)
      refine lv_aload_n X.1.1 X.1.2.1 dX7_takesRegion_49 rfl (lv_at hl 0 rfl) ?_
      refine lv_bipush (v := nI 40) X.1.1 X.1.2.1 dX7_takesRegion_50 (by decide) ?_
      refine sx_cvI (As := [.int (nI 40)]) (rest := []) X (mX7_takes l (A := A) (len := len) (i := 1 + i1) (c := 40) hA (by omega) hl240 (by decide) h91 h92) gX7_takesRegion_X7_takes rfl yv_X7_takes ⟨Nat.le_of_ble_eq_true rfl, Nat.le_of_ble_eq_true rfl⟩ h91 (by decide) rfl rfl hl.1 rfl (Nat.le_of_ble_eq_true rfl) dX7_takesRegion_52 ⟨Nat.le_of_ble_eq_true rfl, Nat.le_of_ble_eq_true rfl⟩ hs rfl hP (fun r6 F6 H6 l6 hp hP => ?_)
      obtain ⟨i6, sk6, o6, ⟨e6, t1, rfl⟩ | ⟨e6, t1, t2, rfl⟩⟩ := hp
      · have g6a := sk6.1
        have g6b := sk6.2.1
        have h91 : F6 (91) = ob 7 ([rf G 92, a1, .int (nI (jnE en)), rf G 94, xl, .int (nI (i6)), .int (nI ((A i1 - 48))), .int (nI 1), .int (nI (i6)), .int (nI (who)), .int (nI (1 + d)), .int (nI (1 + rgF ol d)), rf G 95, rf G 96]) := e6
        have h92 := (o6 (92) (by decide)).trans h92
        have h94 := (o6 (94) (by decide)).trans h94
        have h95 := (o6 (95) (by decide)).trans h95
        have h96 := (o6 (96) (by decide)).trans h96
        have hO : ∀ j, j ≠ 91 ∧ j ≠ 92 ∧ j ≠ 94 ∧ j ≠ 95 ∧ j ≠ 96 → F6 j = F j := fun j hj => (o6 j (by omega)).trans (hO j hj)
        rw [hQ]
        exact sx_zret X rfl (by decide) hs rfl hP dX7_takesRegion_55 (⟨Or.inr ⟨rfl, (comeF w n who 2 (A i1 - 48), 1 + n, jnE en, jnR en jo (nI (1 + 2 * (A i1 - 48))), 3, 2, who, 1 + d, upd ol d (nI (A i1 - 48)), upd ot d (nI who)), i6, 1, _, by decide, by decide, by omega, hIT.reg (Nat.lt_succ_of_le d1d) u2 u1 (by omega), ⟨h91.trans (by rw [rgF_yes (by rw [pk_us]; exact sx_m1 (by omega)), rgF_upd]), h92, h94.trans (by rw [Nat.add_comm (2 * (A i1 - 48)) 1]), h95, h96⟩, (num_reg sk1 d1a d1b d1c (Nat.lt_succ_of_le d1d) u1 u2).trans (brk_f sk6 t1)⟩, hO⟩)
      · have g6a := sk6.1
        have g6b := sk6.2.1
        have h91 : F6 (91) = ob 7 ([rf G 92, a1, .int (nI (jnE en)), rf G 94, xl, .int (nI (1 + i6)), .int (nI ((A i1 - 48))), .int (fa), .int (fat), .int (nI (who)), .int (nI (1 + d)), .int (nI (1 + rgF ol d)), rf G 95, rf G 96]) := e6
        have h92 := (o6 (92) (by decide)).trans h92
        have h94 := (o6 (94) (by decide)).trans h94
        have h95 := (o6 (95) (by decide)).trans h95
        have h96 := (o6 (96) (by decide)).trans h96
        have hO : ∀ j, j ≠ 91 ∧ j ≠ 92 ∧ j ≠ 94 ∧ j ≠ 95 ∧ j ≠ 96 → F6 j = F j := fun j hj => (o6 j (by omega)).trans (hO j hj)
        rw [hQ]
        exact sx_zret X rfl (by decide) hs rfl hP dX7_takesRegion_55 (⟨Or.inl ⟨rfl, (comeF w n who 2 (A i1 - 48), 1 + n, jnE en, jnR en jo (nI (1 + 2 * (A i1 - 48))), 0, 2, who, 1 + d, upd ol d (nI (A i1 - 48)), upd ot d (nI who)), 1 + i6, _, by omega, by omega, rfl, hIT.reg (Nat.lt_succ_of_le d1d) u2 u1 (by omega), ⟨h91.trans (by rw [rgF_yes (by rw [pk_us]; exact sx_m1 (by omega)), rgF_upd]), h92, h94.trans (by rw [Nat.add_comm (2 * (A i1 - 48)) 1]), h95, h96⟩, (num_reg sk1 d1a d1b d1c (Nat.lt_succ_of_le d1d) u1 u2).trans (brk_ok sk6 t1 t2)⟩, hO⟩)
theorem ys_X7_takesTurn : yX7_takesTurn.cls ≠ "java/lang/invoke/MethodHandle" ∧ yX7_takesTurn.cls ≠ "java/lang/invoke/VarHandle" ∧ (parseMethodDescriptor yX7_takesTurn.desc).map (fun d => d.parameters.length) = some 0 := by decide +kernel
theorem yv_X7_takesTurn : yX7_takesTurn.cls = RX7 ∧ yX7_takesTurn.cls ≠ "java/lang/invoke/MethodHandle" ∧ yX7_takesTurn.cls ≠ "java/lang/invoke/VarHandle" ∧ (parseMethodDescriptor yX7_takesTurn.desc).map (fun d => d.parameters.length) = some 0 := ⟨rfl, ys_X7_takesTurn⟩
theorem in_X7_takesTurn_X7 : ∀ w ∈ wsX70, w ∈ wsX7_takesTurn := fun _ h => List.mem_cons_of_mem _ (List.mem_append_right _ (h))
theorem lk_X7_takesTurn_fieldLink_RX7_7_RaceWatchModel_w_I : (.fieldLink RX7 7 "RaceWatchModel" "w" "[I" : Cond) ∈ wsX7_takesTurn := List.mem_cons_of_mem _ (List.mem_append_left _ (List.mem_append_left _ (List.mem_of_getElem? (i := 0) rfl)))
theorem lk_X7_takesTurn_fieldLink_RX7_153_RaceWatchModel_figure_I : (.fieldLink RX7 153 "RaceWatchModel" "figure" "I" : Cond) ∈ wsX7_takesTurn := List.mem_cons_of_mem _ (List.mem_append_left _ (List.mem_append_left _ (List.mem_of_getElem? (i := 1) rfl)))
theorem lk_X7_takesTurn_fieldLink_RX7_133_RaceWatchModel_at_I : (.fieldLink RX7 133 "RaceWatchModel" "at" "I" : Cond) ∈ wsX7_takesTurn := List.mem_cons_of_mem _ (List.mem_append_left _ (List.mem_append_left _ (List.mem_of_getElem? (i := 2) rfl)))
theorem lk_X7_takesTurn_fieldLink_RX7_159_RaceWatchModel_who_I : (.fieldLink RX7 159 "RaceWatchModel" "who" "I" : Cond) ∈ wsX7_takesTurn := List.mem_cons_of_mem _ (List.mem_append_left _ (List.mem_append_left _ (List.mem_of_getElem? (i := 3) rfl)))
abbrev rmX7_takesTurn : Room := { frames := 2, cells := 0, slots := 0, locals := 47 }
set_option maxHeartbeats 800000 in
set_option maxRecDepth 100000 in
theorem mX7_takesTurn {G : sx_G} (l : Launch) {F : Nat → va_E} {a1 xl : Value} {w jo ol ot : Nat → Int32} {A : Nat → Nat} {i len n en it who d : Nat} {fig fa fat : Int32}  (hIT : IT A len i (w, n, en, jo, 1, 8, who, d, ol, ot)) (hi : i ≤ len) (h91 : F (91) = ob 7 ([rf G 92, a1, .int (nI (en)), rf G 94, xl, .int (nI (i)), .int (fig), .int (fa), .int (fat), .int (nI (who)), .int (nI (d)), .int (nI (rgF ol d)), rf G 95, rf G 96])) (h92 : F (92) = rI G (4358) (w)) (h94 : F (94) = rI G (24) (jo)) (h95 : F (95) = rI G (240) (ol)) (h96 : F (96) = rI G (240) (ot)) : sx_I G l yX7_takesTurn wsX7_takesTurn rmX7_takesTurn [rf G 91] (97) F (97) (fun r F1 => done G A len i (w, n, en, jo, 1, 8, who, d, ol, ot) a1 xl fa fat r F1 ∧ ∀ j, j ≠ 91 ∧ j ≠ 92 ∧ j ≠ 94 ∧ j ≠ 95 ∧ j ≠ 96 → F1 j = F j) := by
  refine sx_enter (cc := cX7_takesTurn) (maxL := 1) (ret := some .boolean) (own := RX7) (nm := "takesTurn") (by decide) rfl rfl rfl (Nat.le_of_ble_eq_true rfl) ?_
  intro pp ee ss mm args below meth kc ls Q hQ X hs hP hl
  have hl : lv_has ls 1 [(0, rf G 91)] := hl
  have hO : ∀ j, j ≠ 91 ∧ j ≠ 92 ∧ j ≠ 94 ∧ j ≠ 95 ∧ j ≠ 96 → F j = F j := fun _ _ => rfl
  obtain ⟨hWF, hrg, hdi, hwho, hen, hjo, hst, ⟨hch1, hch2⟩, hA⟩ := id hIT
  have hn := hWF.2.1
  have h91n := hWF.1
  have hl240 := hA.2.1
  have hrl := rgF_le ol d
  refine lv_aload_n X.1.1 X.1.2.1 dX7_takesTurn_0 rfl (lv_at hl 0 rfl) ?_
  refine lv_iconst (v := nI 3) X.1.1 X.1.2.1 dX7_takesTurn_1 (by decide) ?_
  refine sx_cvI (As := [.int (nI 3)]) (rest := []) X (mX7_takesFigure l (A := A) (len := len) (i := i) (mo := 3) hA (by omega) hl240 (by decide) h91 h92) gX7_takesTurn_X7_takesFigure rfl yv_X7_takesFigure ⟨Nat.le_of_ble_eq_true rfl, Nat.le_of_ble_eq_true rfl⟩ h91 (by decide) rfl rfl hl.1 rfl (Nat.le_of_ble_eq_true rfl) dX7_takesTurn_2 ⟨Nat.le_of_ble_eq_true rfl, Nat.le_of_ble_eq_true rfl⟩ hs rfl hP (fun r1 F1 H1 l1 hp hP => ?_)
  obtain ⟨i1, sk1, o1, ⟨e1, q1, rfl⟩ | ⟨e1, q1, q2, q3, q4, rfl⟩ | ⟨e1, q1, q2, q3, q4, rfl⟩⟩ := hp
  · have g1a := sk1.1
    have g1b := sk1.2.1
    have h91 : F1 (91) = ob 7 ([rf G 92, a1, .int (nI (en)), rf G 94, xl, .int (nI (i1)), .int (fig), .int (nI 1), .int (nI (i1)), .int (nI (who)), .int (nI (d)), .int (nI (rgF ol d)), rf G 95, rf G 96]) := e1
    have h92 := (o1 (92) (by decide)).trans h92
    have h94 := (o1 (94) (by decide)).trans h94
    have h95 := (o1 (95) (by decide)).trans h95
    have h96 := (o1 (96) (by decide)).trans h96
    have hO : ∀ j, j ≠ 91 ∧ j ≠ 92 ∧ j ≠ 94 ∧ j ≠ 95 ∧ j ≠ 96 → F1 j = F j := fun j hj => (o1 j (by omega)).trans (hO j hj)
    refine sx_if_ne X (by decide) (tgt := 10) dX7_takesTurn_5 (by decide) (fun h => absurd h (by decide)) (fun _ => ?_)
    refine lv_iconst (v := nI 0) X.1.1 X.1.2.1 dX7_takesTurn_8 (by decide) ?_
    rw [hQ]
    exact sx_zret X rfl (by decide) hs rfl hP dX7_takesTurn_9 (⟨Or.inr ⟨rfl, (w, n, en, jo, 1, 8, who, d, ol, ot), i1, 1, _, by decide, by decide, by omega, hIT.le (by omega), ⟨h91, h92, h94, h95, h96⟩, num_f1 sk1 q1⟩, hO⟩)
  · have g1a := sk1.1
    have g1b := sk1.2.1
    have h91 : F1 (91) = ob 7 ([rf G 92, a1, .int (nI (en)), rf G 94, xl, .int (nI (i1)), .int (nI ((A i1 - 48))), .int (nI 2), .int (nI (i1)), .int (nI (who)), .int (nI (d)), .int (nI (rgF ol d)), rf G 95, rf G 96]) := e1
    have h92 := (o1 (92) (by decide)).trans h92
    have h94 := (o1 (94) (by decide)).trans h94
    have h95 := (o1 (95) (by decide)).trans h95
    have h96 := (o1 (96) (by decide)).trans h96
    have hO : ∀ j, j ≠ 91 ∧ j ≠ 92 ∧ j ≠ 94 ∧ j ≠ 95 ∧ j ≠ 96 → F1 j = F j := fun j hj => (o1 j (by omega)).trans (hO j hj)
    refine sx_if_ne X (by decide) (tgt := 10) dX7_takesTurn_5 (by decide) (fun h => absurd h (by decide)) (fun _ => ?_)
    refine lv_iconst (v := nI 0) X.1.1 X.1.2.1 dX7_takesTurn_8 (by decide) ?_
    rw [hQ]
    exact sx_zret X rfl (by decide) hs rfl hP dX7_takesTurn_9 (⟨Or.inr ⟨rfl, (w, n, en, jo, 1, 8, who, d, ol, ot), i1, 2, _, by decide, by decide, by omega, hIT.le (by omega), ⟨h91, h92, h94, h95, h96⟩, num_f2 sk1 q1 q2 q3 (show boundF 8 ≤ _ from q4)⟩, hO⟩)
  · have g1a := sk1.1
    have g1b := sk1.2.1
    have h91 : F1 (91) = ob 7 ([rf G 92, a1, .int (nI (en)), rf G 94, xl, .int (nI (i1)), .int (nI ((A i1 - 48))), .int (fa), .int (fat), .int (nI (who)), .int (nI (d)), .int (nI (rgF ol d)), rf G 95, rf G 96]) := e1
    have h92 := (o1 (92) (by decide)).trans h92
    have h94 := (o1 (94) (by decide)).trans h94
    have h95 := (o1 (95) (by decide)).trans h95
    have h96 := (o1 (96) (by decide)).trans h96
    have hO : ∀ j, j ≠ 91 ∧ j ≠ 92 ∧ j ≠ 94 ∧ j ≠ 95 ∧ j ≠ 96 → F1 j = F j := fun j hj => (o1 j (by omega)).trans (hO j hj)
    have d1a := q1
    have d1b := q2
    have d1c := q3
    have d1d := q4
    refine sx_if_ne X (by decide) (tgt := 10) dX7_takesTurn_5 (by decide) (fun _ => ?_) (fun h => absurd h (by decide))
    refine lv_aload_n X.1.1 X.1.2.1 dX7_takesTurn_10 rfl (lv_at hl 0 rfl) ?_
    refine sx_get X hP in_X7_takesTurn_X7 h91 (by decide) rfl 0 (by decide) lk_X7_takesTurn_fieldLink_RX7_7_RaceWatchModel_w_I rfl dX7_takesTurn_11 ?_
    refine lv_iconst (v := nI 0) X.1.1 X.1.2.1 dX7_takesTurn_14 (by decide) ?_
    refine lv_aload_n X.1.1 X.1.2.1 dX7_takesTurn_15 rfl (lv_at hl 0 rfl) ?_
    refine sx_get X hP in_X7_takesTurn_X7 h91 (by decide) rfl 6 (by decide) lk_X7_takesTurn_fieldLink_RX7_153_RaceWatchModel_figure_I rfl dX7_takesTurn_16 ?_
    refine sx_addN X ((A i1 - 48)) (by omega) dX7_takesTurn_19 ?_
    refine sx_ald X hP h92 (by decide) ((A i1 - 48)) (by omega) (by decide) dX7_takesTurn_20 ?_
    refine lv_iconst (v := nI 1) X.1.1 X.1.2.1 dX7_takesTurn_21 (by decide) ?_
    refine lv_icmp_eq X.1.1 X.1.2.1 (tgt := 31) dX7_takesTurn_22 (by decide) (fun c22 => ?_) (fun c22 => ?_)
    · refine lv_aload_n X.1.1 X.1.2.1 dX7_takesTurn_31 rfl (lv_at hl 0 rfl) ?_
      refine lv_dup X.1.1 X.1.2.1 dX7_takesTurn_32 rfl ?_
      refine sx_get X hP in_X7_takesTurn_X7 h91 (by decide) rfl 5 (by decide) lk_X7_takesTurn_fieldLink_RX7_133_RaceWatchModel_at_I rfl dX7_takesTurn_33 ?_
      refine lv_iconst (v := nI 1) X.1.1 X.1.2.1 dX7_takesTurn_36 (by decide) ?_
      refine sx_addN X (1 + i1) (by omega) dX7_takesTurn_37 ?_
      refine sx_put X hP in_X7_takesTurn_X7 tyX7 tyX7_ok nmX7 h91 (by decide) rfl 5 (by decide) lk_X7_takesTurn_fieldLink_RX7_133_RaceWatchModel_at_I rfl rfl rfl (Nat.le_of_ble_eq_true rfl) dX7_takesTurn_38 (fun F2 H2 l2 e2 o2 hP => ?_)
      have h91 : F2 (91) = ob 7 ([rf G 92, a1, .int (nI (en)), rf G 94, xl, .int (nI (1 + i1)), .int (nI ((A i1 - 48))), .int (fa), .int (fat), .int (nI (who)), .int (nI (d)), .int (nI (rgF ol d)), rf G 95, rf G 96]) := e2
      have h92 := (o2 (92) (by decide)).trans h92
      have h94 := (o2 (94) (by decide)).trans h94
      have h95 := (o2 (95) (by decide)).trans h95
      have h96 := (o2 (96) (by decide)).trans h96
      have hO : ∀ j, j ≠ 91 ∧ j ≠ 92 ∧ j ≠ 94 ∧ j ≠ 95 ∧ j ≠ 96 → F2 j = F j := fun j hj => (o2 j (by omega)).trans (hO j hj)
      refine lv_aload_n X.1.1 X.1.2.1 dX7_takesTurn_41 rfl (lv_at hl 0 rfl) ?_
      refine lv_iconst (v := (-1)) X.1.1 X.1.2.1 dX7_takesTurn_42 (by decide) ?_
      refine lv_aload_n X.1.1 X.1.2.1 dX7_takesTurn_43 rfl (lv_at hl 0 rfl) ?_
      refine sx_get X hP in_X7_takesTurn_X7 h91 (by decide) rfl 9 (by decide) lk_X7_takesTurn_fieldLink_RX7_159_RaceWatchModel_who_I rfl dX7_takesTurn_44 ?_
      refine sx_cvV (As := [.int (-1), .int (nI (who))]) (rest := []) X (mX7_opens l (d := d) (t := who) (lk := (-1)) (by omega) h91 h95 h96) gX7_takesTurn_X7_opens rfl yv_X7_opens ⟨Nat.le_of_ble_eq_true rfl, Nat.le_of_ble_eq_true rfl⟩ h91 (by decide) rfl rfl hl.1 rfl (Nat.le_of_ble_eq_true rfl) dX7_takesTurn_47 ⟨Nat.le_of_ble_eq_true rfl, Nat.le_of_ble_eq_true rfl⟩ hs rfl hP (fun F3 H3 l3 hp hP => ?_)
      obtain ⟨e3, f3, g3, o3⟩ := hp
      have h91 : F3 (91) = ob 7 ([rf G 92, a1, .int (nI (en)), rf G 94, xl, .int (nI (1 + i1)), .int (nI ((A i1 - 48))), .int (fa), .int (fat), .int (nI (who)), .int (nI (1 + d)), .int (nI (rgF ol d)), rf G 95, rf G 96]) := e3
      have h92 := (o3 (92) (by decide)).trans h92
      have h94 := (o3 (94) (by decide)).trans h94
      have h95 : F3 (95) = rI G (240) (upd ol d (-1)) := f3
      have h96 : F3 (96) = rI G (240) (upd ot d (nI (who))) := g3
      have hO : ∀ j, j ≠ 91 ∧ j ≠ 92 ∧ j ≠ 94 ∧ j ≠ 95 ∧ j ≠ 96 → F3 j = F j := fun j hj => (o3 j (by omega)).trans (hO j hj)
      refine lv_aload_n X.1.1 X.1.2.1 dX7_takesTurn_50 rfl (lv_at hl 0 rfl) ?_
      refine lv_aload_n X.1.1 X.1.2.1 dX7_takesTurn_51 rfl (lv_at hl 0 rfl) ?_
      refine sx_get X hP in_X7_takesTurn_X7 h91 (by decide) rfl 6 (by decide) lk_X7_takesTurn_fieldLink_RX7_153_RaceWatchModel_figure_I rfl dX7_takesTurn_52 ?_
      refine sx_put X hP in_X7_takesTurn_X7 tyX7 tyX7_ok nmX7 h91 (by decide) rfl 9 (by decide) lk_X7_takesTurn_fieldLink_RX7_159_RaceWatchModel_who_I rfl rfl rfl (Nat.le_of_ble_eq_true rfl) dX7_takesTurn_55 (fun F4 H4 l4 e4 o4 hP => ?_)
      have h91 : F4 (91) = ob 7 ([rf G 92, a1, .int (nI (en)), rf G 94, xl, .int (nI (1 + i1)), .int (nI ((A i1 - 48))), .int (fa), .int (fat), .int (nI ((A i1 - 48))), .int (nI (1 + d)), .int (nI (rgF ol d)), rf G 95, rf G 96]) := e4
      have h92 := (o4 (92) (by decide)).trans h92
      have h94 := (o4 (94) (by decide)).trans h94
      have h95 := (o4 (95) (by decide)).trans h95
      have h96 := (o4 (96) (by decide)).trans h96
      have hO : ∀ j, j ≠ 91 ∧ j ≠ 92 ∧ j ≠ 94 ∧ j ≠ 95 ∧ j ≠ 96 → F4 j = F j := fun j hj => (o4 j (by omega)).trans (hO j hj)
      refine lv_aload_n X.1.1 X.1.2.1 dX7_takesTurn_58 rfl (lv_at hl 0 rfl) ?_
      refine lv_bipush (v := nI 40) X.1.1 X.1.2.1 dX7_takesTurn_59 (by decide) ?_
      refine sx_cvI (As := [.int (nI 40)]) (rest := []) X (mX7_takes l (A := A) (len := len) (i := 1 + i1) (c := 40) hA (by omega) hl240 (by decide) h91 h92) gX7_takesTurn_X7_takes rfl yv_X7_takes ⟨Nat.le_of_ble_eq_true rfl, Nat.le_of_ble_eq_true rfl⟩ h91 (by decide) rfl rfl hl.1 rfl (Nat.le_of_ble_eq_true rfl) dX7_takesTurn_61 ⟨Nat.le_of_ble_eq_true rfl, Nat.le_of_ble_eq_true rfl⟩ hs rfl hP (fun r5 F5 H5 l5 hp hP => ?_)
      obtain ⟨i5, sk5, o5, ⟨e5, t1, rfl⟩ | ⟨e5, t1, t2, rfl⟩⟩ := hp
      · have g5a := sk5.1
        have g5b := sk5.2.1
        have h91 : F5 (91) = ob 7 ([rf G 92, a1, .int (nI (en)), rf G 94, xl, .int (nI (i5)), .int (nI ((A i1 - 48))), .int (nI 1), .int (nI (i5)), .int (nI ((A i1 - 48))), .int (nI (1 + d)), .int (nI (rgF ol d)), rf G 95, rf G 96]) := e5
        have h92 := (o5 (92) (by decide)).trans h92
        have h94 := (o5 (94) (by decide)).trans h94
        have h95 := (o5 (95) (by decide)).trans h95
        have h96 := (o5 (96) (by decide)).trans h96
        have hO : ∀ j, j ≠ 91 ∧ j ≠ 92 ∧ j ≠ 94 ∧ j ≠ 95 ∧ j ≠ 96 → F5 j = F j := fun j hj => (o5 j (by omega)).trans (hO j hj)
        rw [hQ]
        exact sx_zret X rfl (by decide) hs rfl hP dX7_takesTurn_64 (⟨Or.inr ⟨rfl, (w, n, en, jo, 3, 8, A i1 - 48, 1 + d, upd ol d (-1), upd ot d (nI who)), i5, 1, _, by decide, by decide, by omega, hIT.turn (Nat.lt_succ_of_le d1d) (by omega), ⟨h91.trans (by rw [rgF_no pk_us, rgF_upd]), h92, h94, h95, h96⟩, (num_turn sk1 d1a d1b d1c (Nat.lt_succ_of_le d1d) c22).trans (brk_f sk5 t1)⟩, hO⟩)
      · have g5a := sk5.1
        have g5b := sk5.2.1
        have h91 : F5 (91) = ob 7 ([rf G 92, a1, .int (nI (en)), rf G 94, xl, .int (nI (1 + i5)), .int (nI ((A i1 - 48))), .int (fa), .int (fat), .int (nI ((A i1 - 48))), .int (nI (1 + d)), .int (nI (rgF ol d)), rf G 95, rf G 96]) := e5
        have h92 := (o5 (92) (by decide)).trans h92
        have h94 := (o5 (94) (by decide)).trans h94
        have h95 := (o5 (95) (by decide)).trans h95
        have h96 := (o5 (96) (by decide)).trans h96
        have hO : ∀ j, j ≠ 91 ∧ j ≠ 92 ∧ j ≠ 94 ∧ j ≠ 95 ∧ j ≠ 96 → F5 j = F j := fun j hj => (o5 j (by omega)).trans (hO j hj)
        rw [hQ]
        exact sx_zret X rfl (by decide) hs rfl hP dX7_takesTurn_64 (⟨Or.inl ⟨rfl, (w, n, en, jo, 0, 8, A i1 - 48, 1 + d, upd ol d (-1), upd ot d (nI who)), 1 + i5, _, by omega, by omega, rfl, hIT.turn (Nat.lt_succ_of_le d1d) (by omega), ⟨h91.trans (by rw [rgF_no pk_us, rgF_upd]), h92, h94, h95, h96⟩, (num_turn sk1 d1a d1b d1c (Nat.lt_succ_of_le d1d) c22).trans (brk_ok sk5 t1 t2)⟩, hO⟩)
    · refine lv_aload_n X.1.1 X.1.2.1 dX7_takesTurn_25 rfl (lv_at hl 0 rfl) ?_
      refine lv_iconst (v := nI 4) X.1.1 X.1.2.1 dX7_takesTurn_26 (by decide) ?_
      refine sx_cvI (As := [.int (nI 4)]) (rest := []) X (mX7_fails l (i := i1) (f := 4) h91) gX7_takesTurn_X7_fails rfl yv_X7_fails ⟨Nat.le_of_ble_eq_true rfl, Nat.le_of_ble_eq_true rfl⟩ h91 (by decide) rfl rfl hl.1 rfl (Nat.le_of_ble_eq_true rfl) dX7_takesTurn_27 ⟨Nat.le_of_ble_eq_true rfl, Nat.le_of_ble_eq_true rfl⟩ hs rfl hP (fun r6 F6 H6 l6 hp hP => ?_)
      obtain ⟨e6, o6, rfl⟩ := hp
      have h91 : F6 (91) = ob 7 ([rf G 92, a1, .int (nI (en)), rf G 94, xl, .int (nI (i1)), .int (nI ((A i1 - 48))), .int (nI 4), .int (nI (i1)), .int (nI (who)), .int (nI (d)), .int (nI (rgF ol d)), rf G 95, rf G 96]) := e6
      have h92 := (o6 (92) (by decide)).trans h92
      have h94 := (o6 (94) (by decide)).trans h94
      have h95 := (o6 (95) (by decide)).trans h95
      have h96 := (o6 (96) (by decide)).trans h96
      have hO : ∀ j, j ≠ 91 ∧ j ≠ 92 ∧ j ≠ 94 ∧ j ≠ 95 ∧ j ≠ 96 → F6 j = F j := fun j hj => (o6 j (by omega)).trans (hO j hj)
      rw [hQ]
      exact sx_zret X rfl (by decide) hs rfl hP dX7_takesTurn_30 (⟨Or.inr ⟨rfl, (w, n, en, jo, 1, 8, who, d, ol, ot), i1, 4, _, by decide, by decide, by omega, hIT.le (by omega), ⟨h91, h92, h94, h95, h96⟩, num_t4 sk1 d1a d1b d1c (Nat.lt_succ_of_le d1d) c22⟩, hO⟩)
theorem ys_X7_takesEnd : yX7_takesEnd.cls ≠ "java/lang/invoke/MethodHandle" ∧ yX7_takesEnd.cls ≠ "java/lang/invoke/VarHandle" ∧ (parseMethodDescriptor yX7_takesEnd.desc).map (fun d => d.parameters.length) = some 0 := by decide +kernel
theorem yv_X7_takesEnd : yX7_takesEnd.cls = RX7 ∧ yX7_takesEnd.cls ≠ "java/lang/invoke/MethodHandle" ∧ yX7_takesEnd.cls ≠ "java/lang/invoke/VarHandle" ∧ (parseMethodDescriptor yX7_takesEnd.desc).map (fun d => d.parameters.length) = some 0 := ⟨rfl, ys_X7_takesEnd⟩
theorem in_X7_takesEnd_X7 : ∀ w ∈ wsX70, w ∈ wsX7_takesEnd := fun _ h => List.mem_cons_of_mem _ (List.mem_append_right _ (h))
theorem lk_X7_takesEnd_fieldLink_RX7_162_RaceWatchModel_open_I : (.fieldLink RX7 162 "RaceWatchModel" "open" "I" : Cond) ∈ wsX7_takesEnd := List.mem_cons_of_mem _ (List.mem_append_left _ (List.mem_append_left _ (List.mem_of_getElem? (i := 0) rfl)))
theorem lk_X7_takesEnd_fieldLink_RX7_133_RaceWatchModel_at_I : (.fieldLink RX7 133 "RaceWatchModel" "at" "I" : Cond) ∈ wsX7_takesEnd := List.mem_cons_of_mem _ (List.mem_append_left _ (List.mem_append_left _ (List.mem_of_getElem? (i := 1) rfl)))
abbrev rmX7_takesEnd : Room := { frames := 5, cells := 0, slots := 0, locals := 121 }
set_option maxHeartbeats 800000 in
set_option maxRecDepth 100000 in
theorem mX7_takesEnd {G : sx_G} (l : Launch) {F : Nat → va_E} {a1 xl : Value} {w jo ol ot : Nat → Int32} {A : Nat → Nat} {i len n en it who d : Nat} {fig fa fat : Int32}  (hIT : IT A len i (w, n, en, jo, 0, it, who, d, ol, ot)) (hi : i < len) (hAi : A i = 41) (h91 : F (91) = ob 7 ([rf G 92, a1, .int (nI (en)), rf G 94, xl, .int (nI (i)), .int (fig), .int (fa), .int (fat), .int (nI (who)), .int (nI (d)), .int (nI (rgF ol d)), rf G 95, rf G 96])) (h92 : F (92) = rI G (4358) (w)) (h94 : F (94) = rI G (24) (jo)) (h95 : F (95) = rI G (240) (ol)) (h96 : F (96) = rI G (240) (ot)) : sx_I G l yX7_takesEnd wsX7_takesEnd rmX7_takesEnd [rf G 91] (97) F (97) (fun r F1 => done G A len i (w, n, en, jo, 0, it, who, d, ol, ot) a1 xl fa fat r F1 ∧ ∀ j, j ≠ 91 ∧ j ≠ 92 ∧ j ≠ 94 ∧ j ≠ 95 ∧ j ≠ 96 → F1 j = F j) := by
  refine sx_enter (cc := cX7_takesEnd) (maxL := 1) (ret := some .boolean) (own := RX7) (nm := "takesEnd") (by decide) rfl rfl rfl (Nat.le_of_ble_eq_true rfl) ?_
  intro pp ee ss mm args below meth kc ls Q hQ X hs hP hl
  have hl : lv_has ls 1 [(0, rf G 91)] := hl
  have hO : ∀ j, j ≠ 91 ∧ j ≠ 92 ∧ j ≠ 94 ∧ j ≠ 95 ∧ j ≠ 96 → F j = F j := fun _ _ => rfl
  obtain ⟨hWF, hrg, hdi, hwho, hen, hjo, hst, ⟨hch1, hch2⟩, hA⟩ := id hIT
  have hn := hWF.2.1
  have h91n := hWF.1
  have hl240 := hA.2.1
  have hrl := rgF_le ol d
  refine lv_aload_n X.1.1 X.1.2.1 dX7_takesEnd_0 rfl (lv_at hl 0 rfl) ?_
  refine sx_get X hP in_X7_takesEnd_X7 h91 (by decide) rfl 10 (by decide) lk_X7_takesEnd_fieldLink_RX7_162_RaceWatchModel_open_I rfl dX7_takesEnd_1 ?_
  refine sx_if_ne X (by omega) (tgt := 13) dX7_takesEnd_4 (by decide) (fun c4 => ?_) (fun c4 => ?_)
  · refine lv_aload_n X.1.1 X.1.2.1 dX7_takesEnd_13 rfl (lv_at hl 0 rfl) ?_
    refine lv_dup X.1.1 X.1.2.1 dX7_takesEnd_14 rfl ?_
    refine sx_get X hP in_X7_takesEnd_X7 h91 (by decide) rfl 5 (by decide) lk_X7_takesEnd_fieldLink_RX7_133_RaceWatchModel_at_I rfl dX7_takesEnd_15 ?_
    refine lv_iconst (v := nI 1) X.1.1 X.1.2.1 dX7_takesEnd_18 (by decide) ?_
    refine sx_addN X (1 + i) (by omega) dX7_takesEnd_19 ?_
    refine sx_put X hP in_X7_takesEnd_X7 tyX7 tyX7_ok nmX7 h91 (by decide) rfl 5 (by decide) lk_X7_takesEnd_fieldLink_RX7_133_RaceWatchModel_at_I rfl rfl rfl (Nat.le_of_ble_eq_true rfl) dX7_takesEnd_20 (fun F1 H1 l1 e1 o1 hP => ?_)
    have h91 : F1 (91) = ob 7 ([rf G 92, a1, .int (nI (en)), rf G 94, xl, .int (nI (1 + i)), .int (fig), .int (fa), .int (fat), .int (nI (who)), .int (nI (d)), .int (nI (rgF ol d)), rf G 95, rf G 96]) := e1
    have h92 := (o1 (92) (by decide)).trans h92
    have h94 := (o1 (94) (by decide)).trans h94
    have h95 := (o1 (95) (by decide)).trans h95
    have h96 := (o1 (96) (by decide)).trans h96
    have hO : ∀ j, j ≠ 91 ∧ j ≠ 92 ∧ j ≠ 94 ∧ j ≠ 95 ∧ j ≠ 96 → F1 j = F j := fun j hj => (o1 j (by omega)).trans (hO j hj)
    refine lv_aload_n X.1.1 X.1.2.1 dX7_takesEnd_23 rfl (lv_at hl 0 rfl) ?_
    refine sx_cvV (As := []) (rest := []) X (mX7_shuts l (due := 0) (it := it) (i := 1 + i) (hIT.le (by omega)) (by omega) (by omega) h91 h92 h94 h95 h96) gX7_takesEnd_X7_shuts rfl yv_X7_shuts ⟨Nat.le_of_ble_eq_true rfl, Nat.le_of_ble_eq_true rfl⟩ h91 (by decide) rfl rfl hl.1 rfl (Nat.le_of_ble_eq_true rfl) dX7_takesEnd_24 ⟨Nat.le_of_ble_eq_true rfl, Nat.le_of_ble_eq_true rfl⟩ hs rfl hP (fun F2 H2 l2 hp hP => ?_)
    obtain ⟨hRS, o2⟩ := hp
    have hO : ∀ j, j ≠ 91 ∧ j ≠ 92 ∧ j ≠ 94 ∧ j ≠ 95 ∧ j ≠ 96 → F2 j = F j := fun j hj => (o2 j hj).trans (hO j hj)
    refine lv_iconst (v := nI 1) X.1.1 X.1.2.1 dX7_takesEnd_27 (by decide) ?_
    rw [hQ]
    exact sx_zret X rfl (by decide) hs rfl hP dX7_takesEnd_28 (⟨Or.inl ⟨rfl, _, 1 + i, _, by omega, by omega, shutT_due, (hIT.le (by omega)).shut (by omega), hRS, goT_go hi (by rw [hAi]; exact tS_shut (by omega))⟩, hO⟩)
  · refine lv_aload_n X.1.1 X.1.2.1 dX7_takesEnd_7 rfl (lv_at hl 0 rfl) ?_
    refine lv_iconst (v := nI 1) X.1.1 X.1.2.1 dX7_takesEnd_8 (by decide) ?_
    refine sx_cvI (As := [.int (nI 1)]) (rest := []) X (mX7_fails l (i := i) (f := 1) h91) gX7_takesEnd_X7_fails rfl yv_X7_fails ⟨Nat.le_of_ble_eq_true rfl, Nat.le_of_ble_eq_true rfl⟩ h91 (by decide) rfl rfl hl.1 rfl (Nat.le_of_ble_eq_true rfl) dX7_takesEnd_9 ⟨Nat.le_of_ble_eq_true rfl, Nat.le_of_ble_eq_true rfl⟩ hs rfl hP (fun r3 F3 H3 l3 hp hP => ?_)
    obtain ⟨e3, o3, rfl⟩ := hp
    have h91 : F3 (91) = ob 7 ([rf G 92, a1, .int (nI (en)), rf G 94, xl, .int (nI (i)), .int (fig), .int (nI 1), .int (nI (i)), .int (nI (who)), .int (nI (d)), .int (nI (rgF ol d)), rf G 95, rf G 96]) := e3
    have h92 := (o3 (92) (by decide)).trans h92
    have h94 := (o3 (94) (by decide)).trans h94
    have h95 := (o3 (95) (by decide)).trans h95
    have h96 := (o3 (96) (by decide)).trans h96
    have hO : ∀ j, j ≠ 91 ∧ j ≠ 92 ∧ j ≠ 94 ∧ j ≠ 95 ∧ j ≠ 96 → F3 j = F j := fun j hj => (o3 j (by omega)).trans (hO j hj)
    rw [hQ]
    exact sx_zret X rfl (by decide) hs rfl hP dX7_takesEnd_12 (⟨Or.inr ⟨rfl, (w, n, en, jo, 0, it, who, d, ol, ot), i, 1, _, by decide, by decide, by omega, hIT, ⟨h91, h92, h94, h95, h96⟩, goT_fault hi (by rw [hAi]; exact tS_none (by decide) (by omega) (by decide)) (by decide)⟩, hO⟩)
theorem ys_X7_sortOf : yX7_sortOf.cls ≠ "java/lang/invoke/MethodHandle" ∧ yX7_sortOf.cls ≠ "java/lang/invoke/VarHandle" ∧ (parseMethodDescriptor yX7_sortOf.desc).map (fun d => d.parameters.length) = some 1 := by decide +kernel
theorem yv_X7_sortOf : yX7_sortOf.cls = RX7 ∧ yX7_sortOf.cls ≠ "java/lang/invoke/MethodHandle" ∧ yX7_sortOf.cls ≠ "java/lang/invoke/VarHandle" ∧ (parseMethodDescriptor yX7_sortOf.desc).map (fun d => d.parameters.length) = some 1 := ⟨rfl, ys_X7_sortOf⟩
abbrev rmX7_sortOf : Room := { frames := 0, cells := 0, slots := 0, locals := 0 }
set_option maxHeartbeats 800000 in
set_option maxRecDepth 100000 in
theorem mX7_sortOf {G : sx_G} (l : Launch) {F : Nat → va_E} {n a : Nat} (ha : a < 256) : sx_I G l yX7_sortOf wsX7_sortOf rmX7_sortOf [.int (nI (a))] (n) F (n) (fun r F1 => F = F1 ∧ ((∃ s, srt a s ∧ nI s = r) ∨ ((itF a = 9 ∨ a = 108 ∨ a = 116) ∧ -1 = r))) := by
  refine sx_enter (cc := cX7_sortOf) (maxL := 1) (ret := some .int) (own := RX7) (nm := "sortOf") (by decide) rfl rfl rfl (Nat.le_of_ble_eq_true rfl) ?_
  intro pp ee ss mm args below meth kc ls Q hQ X hs hP hl
  have hl : lv_has ls 1 [(0, .int (nI (a)))] := hl
  refine lv_iload_n X.1.1 X.1.2.1 dX7_sortOf_0 rfl (lv_at hl 0 rfl) ?_
  refine lv_bipush (v := nI 114) X.1.1 X.1.2.1 dX7_sortOf_1 (by decide) ?_
  refine sx_icmp_ne X (by omega) (by decide) (tgt := 10) dX7_sortOf_3 (by decide) (fun c3 => ?_) (fun c3 => ?_)
  · refine lv_iload_n X.1.1 X.1.2.1 dX7_sortOf_10 rfl (lv_at hl 0 rfl) ?_
    refine lv_bipush (v := nI 119) X.1.1 X.1.2.1 dX7_sortOf_11 (by decide) ?_
    refine sx_icmp_ne X (by omega) (by decide) (tgt := 20) dX7_sortOf_13 (by decide) (fun c13 => ?_) (fun c13 => ?_)
    · refine lv_iload_n X.1.1 X.1.2.1 dX7_sortOf_20 rfl (lv_at hl 0 rfl) ?_
      refine lv_bipush (v := nI 112) X.1.1 X.1.2.1 dX7_sortOf_21 (by decide) ?_
      refine sx_icmp_ne X (by omega) (by decide) (tgt := 30) dX7_sortOf_23 (by decide) (fun c23 => ?_) (fun c23 => ?_)
      · refine lv_iload_n X.1.1 X.1.2.1 dX7_sortOf_30 rfl (lv_at hl 0 rfl) ?_
        refine lv_bipush (v := nI 103) X.1.1 X.1.2.1 dX7_sortOf_31 (by decide) ?_
        refine sx_icmp_ne X (by omega) (by decide) (tgt := 40) dX7_sortOf_33 (by decide) (fun c33 => ?_) (fun c33 => ?_)
        · refine lv_iload_n X.1.1 X.1.2.1 dX7_sortOf_40 rfl (lv_at hl 0 rfl) ?_
          refine lv_bipush (v := nI 102) X.1.1 X.1.2.1 dX7_sortOf_41 (by decide) ?_
          refine sx_icmp_ne X (by omega) (by decide) (tgt := 51) dX7_sortOf_43 (by decide) (fun c43 => ?_) (fun c43 => ?_)
          · refine lv_iload_n X.1.1 X.1.2.1 dX7_sortOf_51 rfl (lv_at hl 0 rfl) ?_
            refine lv_bipush (v := nI 106) X.1.1 X.1.2.1 dX7_sortOf_52 (by decide) ?_
            refine sx_icmp_ne X (by omega) (by decide) (tgt := 62) dX7_sortOf_54 (by decide) (fun c54 => ?_) (fun c54 => ?_)
            · refine lv_iconst (v := (-1)) X.1.1 X.1.2.1 dX7_sortOf_62 (by decide) ?_
              rw [hQ]
              exact sx_iret X rfl hs rfl hP dX7_sortOf_63 (⟨rfl, Or.inr ⟨by unfold itF; rw [if_neg c3, if_neg c13, if_neg c23, if_neg c33, if_neg c43, if_neg c54]; by_cases h1 : a = 108; exact Or.inr (Or.inl h1); by_cases h2 : a = 116; exact Or.inr (Or.inr h2); exact Or.inl (by rw [if_neg h1, if_neg h2]), rfl⟩⟩)
            · refine lv_bipush (v := nI 7) X.1.1 X.1.2.1 dX7_sortOf_57 (by decide) ?_
              refine lv_goto (tgt := 63) X.1.1 X.1.2.1 dX7_sortOf_59 (by decide) ?_
              rw [hQ]
              exact sx_iret X rfl hs rfl hP dX7_sortOf_63 (⟨rfl, Or.inl ⟨7, ⟨by unfold itF; simp only [c3, c13, c23, c33, c43, c54, if_true, if_false, ite_true, ite_false]; try rfl, by decide, by decide, by decide⟩, rfl⟩⟩)
          · refine lv_bipush (v := nI 6) X.1.1 X.1.2.1 dX7_sortOf_46 (by decide) ?_
            refine lv_goto (tgt := 63) X.1.1 X.1.2.1 dX7_sortOf_48 (by decide) ?_
            rw [hQ]
            exact sx_iret X rfl hs rfl hP dX7_sortOf_63 (⟨rfl, Or.inl ⟨6, ⟨by unfold itF; simp only [c3, c13, c23, c33, c43, if_true, if_false, ite_true, ite_false]; try rfl, by decide, by decide, by decide⟩, rfl⟩⟩)
        · refine lv_iconst (v := nI 5) X.1.1 X.1.2.1 dX7_sortOf_36 (by decide) ?_
          refine lv_goto (tgt := 63) X.1.1 X.1.2.1 dX7_sortOf_37 (by decide) ?_
          rw [hQ]
          exact sx_iret X rfl hs rfl hP dX7_sortOf_63 (⟨rfl, Or.inl ⟨5, ⟨by unfold itF; simp only [c3, c13, c23, c33, if_true, if_false, ite_true, ite_false]; try rfl, by decide, by decide, by decide⟩, rfl⟩⟩)
      · refine lv_iconst (v := nI 4) X.1.1 X.1.2.1 dX7_sortOf_26 (by decide) ?_
        refine lv_goto (tgt := 63) X.1.1 X.1.2.1 dX7_sortOf_27 (by decide) ?_
        rw [hQ]
        exact sx_iret X rfl hs rfl hP dX7_sortOf_63 (⟨rfl, Or.inl ⟨4, ⟨by unfold itF; simp only [c3, c13, c23, if_true, if_false, ite_true, ite_false]; try rfl, by decide, by decide, by decide⟩, rfl⟩⟩)
    · refine lv_iconst (v := nI 1) X.1.1 X.1.2.1 dX7_sortOf_16 (by decide) ?_
      refine lv_goto (tgt := 63) X.1.1 X.1.2.1 dX7_sortOf_17 (by decide) ?_
      rw [hQ]
      exact sx_iret X rfl hs rfl hP dX7_sortOf_63 (⟨rfl, Or.inl ⟨1, ⟨by unfold itF; simp only [c3, c13, if_true, if_false, ite_true, ite_false]; try rfl, by decide, by decide, by decide⟩, rfl⟩⟩)
  · refine lv_iconst (v := nI 0) X.1.1 X.1.2.1 dX7_sortOf_6 (by decide) ?_
    refine lv_goto (tgt := 63) X.1.1 X.1.2.1 dX7_sortOf_7 (by decide) ?_
    rw [hQ]
    exact sx_iret X rfl hs rfl hP dX7_sortOf_63 (⟨rfl, Or.inl ⟨0, ⟨by unfold itF; simp only [c3, if_true, if_false, ite_true, ite_false]; try rfl, by decide, by decide, by decide⟩, rfl⟩⟩)
